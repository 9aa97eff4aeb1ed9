/-! Tester.makeSet -/
def vw_179 : sx_Wl := ([(2, 15), (9, 1), (9, 2), (9, 3)], [40, 41, 92, 93, 94, 95, 96, 97], [(9, 0)])
def vq_179 (cc_ : Nat) (S0_ : sm_S) (u_ : Option sm_V) (S1_ : sm_S) : Prop := u_ = none ∧ gi S1_ ∧ ai_fr (sx_W vw_179) S0_ S1_ ∧ (cdf cc_ S0_ S1_ ∧ (shn S1_))
set_option maxHeartbeats 400000 in
theorem vl_179 {sc_ : Nat × (Nat → Int)} (cc_ : Nat) (S0_ : sm_S) (hs_ : S0_.1 2 cc_ 1 + S0_.1 2 cc_ 2 ≤ 12) (hn_ : shn S0_) : ∀ nn_ : Nat, (∀ (al_ : Int) (f_ : Int) (S_ : sm_S), gi S_ → ai_fr (sx_W vw_179) S0_ S_ → ((0 ≤ al_ ∧ al_ ≤ 1224 ∧ 0 ≤ f_ ∧ f_ ≤ al_) ∧ (0 ≤ S_.1 2 cc_ 15 ∧ S_.1 2 cc_ 15 ≤ f_) ∧ (shn S_) ∧ (cdf cc_ S0_ S_) ∧ True) → ((90000 - f_).toNat) < nn_ → sm_T (mt_P sc_) 6 179 (12, [some (.inr (.inr (some (9, 0)))), some (.inr (.inr (some (2, cc_)))), some (.inl al_), some (.inl f_), none], [], S_) (fun ro9_ => ∃ u_ S1_, ro9_ = (.inl u_, S1_, 0) ∧ vq_179 cc_ S0_ u_ S1_)) ∧ (∀ (al_ : Int) (f_ : Int) (S_ : sm_S), gi S_ → ai_fr (sx_W vw_179) S0_ S_ → ((0 ≤ al_ ∧ al_ ≤ 1224 ∧ 0 ≤ f_ ∧ f_ ≤ al_) ∧ (0 ≤ S_.1 2 cc_ 15 ∧ S_.1 2 cc_ 15 ≤ 1224) ∧ (shn S_) ∧ (cdf cc_ S0_ S_) ∧ True) → ((60000 - f_).toNat) < nn_ → sm_T (mt_P sc_) 6 179 (69, [some (.inr (.inr (some (9, 0)))), some (.inr (.inr (some (2, cc_)))), some (.inl al_), some (.inl f_), none], [], S_) (fun ro9_ => ∃ u_ S1_, ro9_ = (.inl u_, S1_, 0) ∧ vq_179 cc_ S0_ u_ S1_)) ∧ (∀ (al_ : Int) (k_ : Int) (S_ : sm_S), gi S_ → ai_fr (sx_W vw_179) S0_ S_ → ((0 ≤ al_ ∧ al_ ≤ 1224 ∧ -1 ≤ k_ ∧ k_ < S_.1 2 cc_ 15 ∧ S_.1 2 cc_ 15 ≤ 1224) ∧ (shn S_) ∧ (cdf cc_ S0_ S_) ∧ True) → ((k_ + 5).toNat) < nn_ → sm_T (mt_P sc_) 6 179 (99, [some (.inr (.inr (some (9, 0)))), some (.inr (.inr (some (2, cc_)))), some (.inl al_), some (.inl k_), none], [], S_) (fun ro9_ => ∃ u_ S1_, ro9_ = (.inl u_, S1_, 0) ∧ vq_179 cc_ S0_ u_ S1_)) := by
  intro nn_
  induction nn_ with
  | zero => exact ⟨fun _ _ _ _ _ _ h_ => absurd h_ (Nat.not_lt_zero _), fun _ _ _ _ _ _ h_ => absurd h_ (Nat.not_lt_zero _), fun _ _ _ _ _ _ h_ => absurd h_ (Nat.not_lt_zero _)⟩
  | succ nn_ ih_ =>
    refine ⟨?_, ?_, ?_⟩
    · rintro al_ f_ S_ hI_ hF_ ⟨h0_, h5_, hn1_, hC_, -⟩ hm_
      have z1_ : S_.1 2 cc_ 1 = S0_.1 2 cc_ 1 := hF_.1 2 cc_ 1 rfl
      have z2_ : S_.1 2 cc_ 2 = S0_.1 2 cc_ 2 := hF_.1 2 cc_ 2 rfl
      refine sm_T_go 2 (c1 := (14, [some (.inr (.inr (some (9, 0)))), some (.inr (.inr (some (2, cc_)))), some (.inl al_), some (.inl f_), none], [.inl al_, .inl f_], S_)) rfl ?_
      refine sm_T_br (a := 3) (z := 53) rfl (fun cx1_ => ?_) (fun cx1_ => ?_)
      · have cx1_ : al_ ≤ f_ := of_decide_eq_true cx1_
        refine sm_T_go 2 (c1 := (69, [some (.inr (.inr (some (9, 0)))), some (.inr (.inr (some (2, cc_)))), some (.inl al_), some (.inl 0), none], [], S_)) rfl ?_
        refine ih_.2.1 al_ 0 S_ hI_ hF_ ⟨?_, ?_, ?_, ?_, trivial⟩ ?_
        · omega
        · omega
        · exact hn1_
        · exact hC_
        · omega
      · have cx1_ : ¬ (al_ ≤ f_) := of_decide_eq_false cx1_
        refine sm_T_go 3 (c1 := (20, [some (.inr (.inr (some (9, 0)))), some (.inr (.inr (some (2, cc_)))), some (.inl al_), some (.inl f_), none], [.inl f_, .inr (.inr (some (2, cc_))), .inr (.inr (some (9, 0)))], S_)) rfl ?_
        refine sm_T_cal (d1 := 5) (Q1 := vq_177 f_ cc_ S_) rfl rfl (by decide) (vc_177 f_ cc_ S_ hI_ (by omega) (by omega) (by first | exact hn1_ | exact hn_)) (fun u_ Sx2_ px5_ => ?_)
        obtain ⟨vx7_, rfl, hIx3_, hFx4_, px5_⟩ := px5_
        have hFx6_ : ai_fr (sx_W vw_179) S0_ Sx2_ := ai_fr_tr hF_ (fr_le hFx4_ rfl)
        have hCx8_ : cdf cc_ S0_ Sx2_ := cdf_tr hC_ (cdf_fr hFx4_ rfl)
        have p20_ := px5_
        have s20_ := hFx4_.1 2 cc_ 15 rfl
        refine sm_T_go 3 (c1 := (28, [some (.inr (.inr (some (9, 0)))), some (.inr (.inr (some (2, cc_)))), some (.inl al_), some (.inl f_), some (.inl vx7_)], [.inl (-1), .inl vx7_], Sx2_)) rfl ?_
        refine sm_T_br (a := 0) (z := 33) rfl (fun cx9_ => ?_) (fun cx9_ => ?_)
        · have cx9_ : vx7_ = (-1) := of_decide_eq_true cx9_
          refine sm_T_inc (a := 3) (z := 1) (v := f_) (w := f_ + 1) rfl rfl (by omega) (by omega) (by omega) ?_ -- pc_ 61
          refine sm_T_go 1 (c1 := (12, [some (.inr (.inr (some (9, 0)))), some (.inr (.inr (some (2, cc_)))), some (.inl al_), some (.inl (f_ + 1)), some (.inl vx7_)], [], Sx2_)) rfl ?_
          refine sm_T_wk [some (.inr (.inr (some (9, 0)))), some (.inr (.inr (some (2, cc_)))), some (.inl al_), some (.inl (f_ + 1)), none] (by exact ⟨rfl, rfl, rfl, rfl, trivial⟩) ?_
          refine ih_.1 al_ (f_ + 1) Sx2_ hIx3_ hFx6_ ⟨?_, ?_, ?_, ?_, trivial⟩ ?_
          · omega
          · (first | omega | (rw [rf_eq]; omega))
          · exact p20_.2
          · exact hCx8_
          · omega
        · have cx9_ : ¬ (vx7_ = (-1)) := of_decide_eq_false cx9_
          refine sm_T_go 3 (c1 := (34, [some (.inr (.inr (some (9, 0)))), some (.inr (.inr (some (2, cc_)))), some (.inl al_), some (.inl f_), some (.inl vx7_)], [.inl f_, .inr (.inr (some (2, cc_))), .inr (.inr (some (9, 0)))], Sx2_)) rfl ?_
          refine sm_T_cal (d1 := 1) (Q1 := vq_180 f_ cc_ Sx2_) rfl rfl (by decide) (vc_180 f_ cc_ Sx2_ hIx3_ (by omega)) (fun u_ Sx10_ px13_ => ?_)
          obtain ⟨rfl, vx15_, rfl, px13_⟩ := px13_
          have q34_ := px13_
          refine sm_T_b0 (a := 1) (z := 24) rfl (fun cx16_ => ?_) (fun cx16_ => ?_)
          · have cx16_ : vx15_ ≠ 0 := of_decide_eq_true cx16_
            refine sm_T_inc (a := 3) (z := 1) (v := f_) (w := f_ + 1) rfl rfl (by omega) (by omega) (by omega) ?_ -- pc_ 61
            refine sm_T_go 1 (c1 := (12, [some (.inr (.inr (some (9, 0)))), some (.inr (.inr (some (2, cc_)))), some (.inl al_), some (.inl (f_ + 1)), some (.inl vx7_)], [], Sx2_)) rfl ?_
            refine sm_T_wk [some (.inr (.inr (some (9, 0)))), some (.inr (.inr (some (2, cc_)))), some (.inl al_), some (.inl (f_ + 1)), none] (by exact ⟨rfl, rfl, rfl, rfl, trivial⟩) ?_
            refine ih_.1 al_ (f_ + 1) Sx2_ hIx3_ hFx6_ ⟨?_, ?_, ?_, ?_, trivial⟩ ?_
            · omega
            · (first | omega | (rw [rf_eq]; omega))
            · exact p20_.2
            · exact hCx8_
            · omega
          · have cx16_ : ¬ (vx15_ ≠ 0) := of_decide_eq_false cx16_
            have bx17_ : (-1) ≤ Sx2_.1 2 cc_ 15 ∧ Sx2_.1 2 cc_ 15 ≤ 1224 := hIx3_.1 2 cc_ 15 rfl
            refine sm_T_go 5 (c1 := (50, [some (.inr (.inr (some (9, 0)))), some (.inr (.inr (some (2, cc_)))), some (.inl al_), some (.inl f_), some (.inl vx7_)], [.inl vx7_, .inl (Sx2_.1 2 cc_ 15), .inr (.inr (some (40, (0 + cc_))))], Sx2_)) rfl ?_
            refine sm_T_iast (n := 1224) rfl rfl (by omega) (by omega) ?_
            have hIx18_ : gi (sm_aI Sx2_ 40 (0 + cc_) (Sx2_.1 2 cc_ 15).toNat vx7_) := gi_aI hIx3_ (show 0 ≤ vx7_ ∧ vx7_ ≤ 4095 from ⟨by omega, by omega⟩)
            have hFx19_ : ai_fr (sx_W vw_179) S0_ (sm_aI Sx2_ 40 (0 + cc_) (Sx2_.1 2 cc_ 15).toNat vx7_) := ai_fr_tr hFx6_ (ai_fr_aI rfl)
            have hCx20_ : cdf cc_ S0_ (sm_aI Sx2_ 40 (0 + cc_) (Sx2_.1 2 cc_ 15).toNat vx7_) := cdf_aI hCx8_ (Or.inr (by rw [show cof 40 = 0 from rfl] <;> omega))
            refine sm_T_go 4 (c1 := (57, [some (.inr (.inr (some (9, 0)))), some (.inr (.inr (some (2, cc_)))), some (.inl al_), some (.inl f_), some (.inl vx7_)], [.inl 1, .inl (Sx2_.1 2 cc_ 15), .inr (.inr (some (2, cc_)))], sm_aI Sx2_ 40 (0 + cc_) (Sx2_.1 2 cc_ 15).toNat vx7_)) rfl ?_
            refine sm_T_bin (w := (Sx2_.1 2 cc_ 15) + 1) rfl (bi_add (by omega) (by omega) (by omega)) ?_ -- pc_ 57
            have hIx21_ : gi (sm_pI (sm_aI Sx2_ 40 (0 + cc_) (Sx2_.1 2 cc_ 15).toNat vx7_) 2 cc_ 15 ((Sx2_.1 2 cc_ 15) + 1)) := gi_pI hIx18_ (show (-1) ≤ (Sx2_.1 2 cc_ 15) + 1 ∧ (Sx2_.1 2 cc_ 15) + 1 ≤ 1224 from ⟨by omega, by omega⟩)
            have hFx22_ : ai_fr (sx_W vw_179) S0_ (sm_pI (sm_aI Sx2_ 40 (0 + cc_) (Sx2_.1 2 cc_ 15).toNat vx7_) 2 cc_ 15 ((Sx2_.1 2 cc_ 15) + 1)) := ai_fr_tr hFx19_ (ai_fr_pI rfl)
            have hCx23_ : cdf cc_ S0_ (sm_pI (sm_aI Sx2_ 40 (0 + cc_) (Sx2_.1 2 cc_ 15).toNat vx7_) 2 cc_ 15 ((Sx2_.1 2 cc_ 15) + 1)) := cdf_pI hCx20_ (Or.inr (by rw [show cof 2 = 0 from rfl] <;> omega))
            refine sm_T_go 1 (c1 := (61, [some (.inr (.inr (some (9, 0)))), some (.inr (.inr (some (2, cc_)))), some (.inl al_), some (.inl f_), some (.inl vx7_)], [], sm_pI (sm_aI Sx2_ 40 (0 + cc_) (Sx2_.1 2 cc_ 15).toNat vx7_) 2 cc_ 15 ((Sx2_.1 2 cc_ 15) + 1))) rfl ?_
            refine sm_T_inc (a := 3) (z := 1) (v := f_) (w := f_ + 1) rfl rfl (by omega) (by omega) (by omega) ?_ -- pc_ 61
            refine sm_T_go 1 (c1 := (12, [some (.inr (.inr (some (9, 0)))), some (.inr (.inr (some (2, cc_)))), some (.inl al_), some (.inl (f_ + 1)), some (.inl vx7_)], [], sm_pI (sm_aI Sx2_ 40 (0 + cc_) (Sx2_.1 2 cc_ 15).toNat vx7_) 2 cc_ 15 ((Sx2_.1 2 cc_ 15) + 1))) rfl ?_
            refine sm_T_wk [some (.inr (.inr (some (9, 0)))), some (.inr (.inr (some (2, cc_)))), some (.inl al_), some (.inl (f_ + 1)), none] (by exact ⟨rfl, rfl, rfl, rfl, trivial⟩) ?_
            refine ih_.1 al_ (f_ + 1) (sm_pI (sm_aI Sx2_ 40 (0 + cc_) (Sx2_.1 2 cc_ 15).toNat vx7_) 2 cc_ 15 ((Sx2_.1 2 cc_ 15) + 1)) hIx21_ hFx22_ ⟨?_, ?_, ?_, ?_, trivial⟩ ?_
            · omega
            · (first | omega | (rw [rf_eq]; omega))
            · exact p20_.2
            · exact hCx23_
            · omega
    · rintro al_ f_ S_ hI_ hF_ ⟨h0_, h5_, hn1_, hC_, -⟩ hm_
      have z1_ : S_.1 2 cc_ 1 = S0_.1 2 cc_ 1 := hF_.1 2 cc_ 1 rfl
      have z2_ : S_.1 2 cc_ 2 = S0_.1 2 cc_ 2 := hF_.1 2 cc_ 2 rfl
      refine sm_T_go 2 (c1 := (71, [some (.inr (.inr (some (9, 0)))), some (.inr (.inr (some (2, cc_)))), some (.inl al_), some (.inl f_), none], [.inl al_, .inl f_], S_)) rfl ?_
      refine sm_T_br (a := 3) (z := 21) rfl (fun cx1_ => ?_) (fun cx1_ => ?_)
      · have cx1_ : al_ ≤ f_ := of_decide_eq_true cx1_
        have bx2_ : (-1) ≤ S_.1 2 cc_ 15 ∧ S_.1 2 cc_ 15 ≤ 1224 := hI_.1 2 cc_ 15 rfl
        refine sm_T_go 3 (c1 := (97, [some (.inr (.inr (some (9, 0)))), some (.inr (.inr (some (2, cc_)))), some (.inl al_), some (.inl f_), none], [.inl 1, .inl (S_.1 2 cc_ 15)], S_)) rfl ?_
        refine sm_T_bin (w := (S_.1 2 cc_ 15) - 1) rfl (bi_sub (by omega) (by omega) (by omega)) ?_ -- pc_ 97
        refine sm_T_go 1 (c1 := (99, [some (.inr (.inr (some (9, 0)))), some (.inr (.inr (some (2, cc_)))), some (.inl al_), some (.inl ((S_.1 2 cc_ 15) - 1)), none], [], S_)) rfl ?_
        refine ih_.2.2 al_ ((S_.1 2 cc_ 15) - 1) S_ hI_ hF_ ⟨?_, ?_, ?_, trivial⟩ ?_
        · omega
        · exact hn1_
        · exact hC_
        · omega
      · have cx1_ : ¬ (al_ ≤ f_) := of_decide_eq_false cx1_
        refine sm_T_go 6 (c1 := (82, [some (.inr (.inr (some (9, 0)))), some (.inr (.inr (some (2, cc_)))), some (.inl al_), some (.inl f_), none], [.inl f_, .inr (.inr (some (2, cc_))), .inr (.inr (some (9, 0))), .inl f_, .inr (.inr (some (97, 0)))], S_)) rfl ?_
        refine sm_T_cal (d1 := 1) (Q1 := vq_180 f_ cc_ S_) rfl rfl (by decide) (vc_180 f_ cc_ S_ hI_ (by omega)) (fun u_ Sx3_ px6_ => ?_)
        obtain ⟨rfl, vx8_, rfl, px6_⟩ := px6_
        have q82_ := px6_
        refine sm_T_iast (n := 1224) rfl rfl (by omega) (by omega) ?_
        have hIx9_ : gi (sm_aI S_ 97 0 f_.toNat vx8_) := gi_aI hI_ (show (-2147483648) ≤ vx8_ ∧ vx8_ ≤ 2147483647 from ⟨by omega, by omega⟩)
        have hFx10_ : ai_fr (sx_W vw_179) S0_ (sm_aI S_ 97 0 f_.toNat vx8_) := ai_fr_tr hF_ (ai_fr_aI rfl)
        have hCx11_ : cdf cc_ S0_ (sm_aI S_ 97 0 f_.toNat vx8_) := cdf_aI hC_ (Or.inl rfl)
        refine sm_T_inc (a := 3) (z := 1) (v := f_) (w := f_ + 1) rfl rfl (by omega) (by omega) (by omega) ?_ -- pc_ 86
        refine sm_T_go 1 (c1 := (69, [some (.inr (.inr (some (9, 0)))), some (.inr (.inr (some (2, cc_)))), some (.inl al_), some (.inl (f_ + 1)), none], [], sm_aI S_ 97 0 f_.toNat vx8_)) rfl ?_
        refine ih_.2.1 al_ (f_ + 1) (sm_aI S_ 97 0 f_.toNat vx8_) hIx9_ hFx10_ ⟨?_, ?_, ?_, ?_, trivial⟩ ?_
        · omega
        · (simp only [rd_af]; omega)
        · exact hn1_
        · exact hCx11_
        · omega
    · rintro al_ k_ S_ hI_ hF_ ⟨h0_, hn1_, hC_, -⟩ hm_
      have z1_ : S_.1 2 cc_ 1 = S0_.1 2 cc_ 1 := hF_.1 2 cc_ 1 rfl
      have z2_ : S_.1 2 cc_ 2 = S0_.1 2 cc_ 2 := hF_.1 2 cc_ 2 rfl
      refine sm_T_go 1 (c1 := (100, [some (.inr (.inr (some (9, 0)))), some (.inr (.inr (some (2, cc_)))), some (.inl al_), some (.inl k_), none], [.inl k_], S_)) rfl ?_
      refine sm_T_b0 (a := 2) (z := 30) rfl (fun cx1_ => ?_) (fun cx1_ => ?_)
      · have cx1_ : k_ < 0 := of_decide_eq_true cx1_
        refine sm_T_go 3 (c1 := (135, [some (.inr (.inr (some (9, 0)))), some (.inr (.inr (some (2, cc_)))), some (.inl al_), some (.inl k_), none], [.inl 0, .inr (.inr (some (41, (0 + cc_))))], S_)) rfl ?_
        refine sm_T_cal (d1 := 0) (Q1 := vq_2f1 0 cc_ S_) rfl rfl (by decide) (vc_2f1 0 cc_ S_ hI_ (by decide)) (fun u_ Sx2_ px5_ => ?_)
        obtain ⟨rfl, hIx3_, hFx4_, px5_⟩ := px5_
        have hFx6_ : ai_fr (sx_W vw_179) S0_ Sx2_ := ai_fr_tr hF_ (fr_le hFx4_ rfl)
        obtain ⟨dx8_, px5_⟩ := px5_
        have hCx7_ : cdf cc_ S0_ Sx2_ := cdf_tr hC_ (cdf_cg (by omega) dx8_)
        have n135_ := shn_fr hn1_ hFx4_
        refine sm_T_rv rfl ⟨_, _, rfl, rfl, hIx3_, hFx6_, ?_⟩
        refine ⟨hCx7_, ?_⟩
        exact n135_
      · have cx1_ : ¬ (k_ < 0) := of_decide_eq_false cx1_
        refine sm_T_go 4 (c1 := (109, [some (.inr (.inr (some (9, 0)))), some (.inr (.inr (some (2, cc_)))), some (.inl al_), some (.inl k_), none], [.inl k_, .inr (.inr (some (40, (0 + cc_)))), .inr (.inr (some (9, 0)))], S_)) rfl ?_
        refine sm_T_iald (n := 1224) rfl rfl (by omega) (by omega) ?_
        have bx9_ : 0 ≤ S_.2.2.1 40 (0 + cc_) k_.toNat ∧ S_.2.2.1 40 (0 + cc_) k_.toNat ≤ 4095 := hI_.2 40 (0 + cc_) _
        refine sm_T_go 1 (c1 := (111, [some (.inr (.inr (some (9, 0)))), some (.inr (.inr (some (2, cc_)))), some (.inl al_), some (.inl k_), none], [.inl al_, .inl (S_.2.2.1 40 (0 + cc_) k_.toNat), .inr (.inr (some (9, 0)))], S_)) rfl ?_
        refine sm_T_cal (d1 := 1) (Q1 := vq_181 (S_.2.2.1 40 (0 + cc_) k_.toNat) al_ S_) rfl rfl (by decide) (vc_181 (S_.2.2.1 40 (0 + cc_) k_.toNat) al_ S_ hI_ (by omega) (by omega)) (fun u_ Sx10_ px13_ => ?_)
        obtain ⟨rfl, vx15_, rfl, px13_⟩ := px13_
        have i111_ := px13_
        refine sm_T_b0 (a := 0) (z := 10) rfl (fun cx16_ => ?_) (fun cx16_ => ?_)
        · have cx16_ : vx15_ = 0 := of_decide_eq_true cx16_
          refine sm_T_inc (a := 3) (z := (-1)) (v := k_) (w := k_ - 1) rfl rfl (by omega) (by omega) (by omega) ?_ -- pc_ 124
          refine sm_T_go 1 (c1 := (99, [some (.inr (.inr (some (9, 0)))), some (.inr (.inr (some (2, cc_)))), some (.inl al_), some (.inl (k_ - 1)), none], [], S_)) rfl ?_
          refine ih_.2.2 al_ (k_ - 1) S_ hI_ hF_ ⟨?_, ?_, ?_, trivial⟩ ?_
          · omega
          · first | exact hn1_ | exact n121_
          · exact hC_
          · omega
        · have cx16_ : ¬ (vx15_ = 0) := of_decide_eq_false cx16_
          refine sm_T_go 4 (c1 := (121, [some (.inr (.inr (some (9, 0)))), some (.inr (.inr (some (2, cc_)))), some (.inl al_), some (.inl k_), none], [.inl al_, .inl k_, .inr (.inr (some (2, cc_))), .inr (.inr (some (9, 0)))], S_)) rfl ?_
          refine sm_T_cal (d1 := 1) (Q1 := vq_182 k_ al_ cc_ S_) rfl rfl (by decide) (vc_182 k_ al_ cc_ S_ hI_ (by omega) (by omega)) (fun u_ Sx17_ px20_ => ?_)
          obtain ⟨rfl, hIx18_, hFx19_, px20_⟩ := px20_
          have hFx21_ : ai_fr (sx_W vw_179) S0_ Sx17_ := ai_fr_tr hF_ (fr_le hFx19_ rfl)
          obtain ⟨dx23_, px20_⟩ := px20_
          have hCx22_ : cdf cc_ S0_ Sx17_ := cdf_tr hC_ (cdf_cg (by omega) dx23_)
          have r121_ := px20_
          have n121_ := shn_fr hn1_ hFx19_
          refine sm_T_inc (a := 3) (z := (-1)) (v := k_) (w := k_ - 1) rfl rfl (by omega) (by omega) (by omega) ?_ -- pc_ 124
          refine sm_T_go 1 (c1 := (99, [some (.inr (.inr (some (9, 0)))), some (.inr (.inr (some (2, cc_)))), some (.inl al_), some (.inl (k_ - 1)), none], [], Sx17_)) rfl ?_
          refine ih_.2.2 al_ (k_ - 1) Sx17_ hIx18_ hFx21_ ⟨?_, ?_, ?_, trivial⟩ ?_
          · omega
          · first | exact hn1_ | exact n121_
          · exact hCx22_
          · omega
set_option maxHeartbeats 400000 in
theorem vc_179 {sc_ : Nat × (Nat → Int)} (cc_ : Nat) (S0_ : sm_S) (hI_ : gi S0_) (hs_ : S0_.1 2 cc_ 1 + S0_.1 2 cc_ 2 ≤ 12) (hn_ : shn S0_) : sm_T (mt_P sc_) 6 179 (0, [some (.inr (.inr (some (9, 0)))), some (.inr (.inr (some (2, cc_)))), none, none, none], [], S0_) (fun ro9_ => ∃ u_ S1_, ro9_ = (.inl u_, S1_, 0) ∧ vq_179 cc_ S0_ u_ S1_) := by
  have hF_ : ai_fr (sx_W vw_179) S0_ S0_ := ai_fr_rf
  have hC_ : cdf cc_ S0_ S0_ := cdf_rf
  have hIx1_ : gi (sm_pI S0_ 2 cc_ 15 0) := gi_pI hI_ (show (-1) ≤ 0 ∧ 0 ≤ 1224 from ⟨by omega, by omega⟩)
  have hFx2_ : ai_fr (sx_W vw_179) S0_ (sm_pI S0_ 2 cc_ 15 0) := ai_fr_tr hF_ (ai_fr_pI rfl)
  have hCx3_ : cdf cc_ S0_ (sm_pI S0_ 2 cc_ 15 0) := cdf_pI hC_ (Or.inr (by rw [show cof 2 = 0 from rfl] <;> omega))
  refine sm_T_go 4 (c1 := (6, [some (.inr (.inr (some (9, 0)))), some (.inr (.inr (some (2, cc_)))), none, none, none], [.inr (.inr (some (2, cc_)))], sm_pI S0_ 2 cc_ 15 0)) rfl ?_
  refine sm_T_cal (d1 := 1) (Q1 := vq_62 cc_ (sm_pI S0_ 2 cc_ 15 0)) rfl rfl (by decide) (vc_62 cc_ (sm_pI S0_ 2 cc_ 15 0) hIx1_ (by (simp only [rf_nk, ne_eq, Nat.reduceEqDiff, not_false_eq_true]; exact hs_))) (fun u_ Sx4_ px7_ => ?_)
  obtain ⟨rfl, vx9_, rfl, px7_⟩ := px7_
  have fc6_ := px7_
  refine sm_T_go 3 (c1 := (12, [some (.inr (.inr (some (9, 0)))), some (.inr (.inr (some (2, cc_)))), some (.inl vx9_), some (.inl 0), none], [], sm_pI S0_ 2 cc_ 15 0)) rfl ?_
  refine (vl_179 cc_ S0_ hs_ hn_ _).1 vx9_ 0 (sm_pI S0_ 2 cc_ 15 0) hIx1_ hFx2_ ⟨?_, ?_, ?_, ?_, trivial⟩ (Nat.lt_succ_self _)
  · omega
  · (rw [rf_eq]; omega)
  · exact hn_
  · exact hCx3_
