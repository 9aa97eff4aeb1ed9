/-! Tester.removePattern -/
def vw_182 : sx_Wl := ([(2, 15)], [40, 97], [])
def vq_182 (a2_ : Int) (a3_ : Int) (cc_ : Nat) (S0_ : sm_S) (u_ : Option sm_V) (S1_ : sm_S) : Prop := u_ = none ∧ gi S1_ ∧ ai_fr (sx_W vw_182) S0_ S1_ ∧ (cdf cc_ S0_ S1_ ∧ (S1_.1 2 cc_ 15 = S0_.1 2 cc_ 15 - 1))
set_option maxHeartbeats 400000 in
theorem vl_182 {sc_ : Nat × (Nat → Int)} (a2_ : Int) (a3_ : Int) (cc_ : Nat) (S0_ : sm_S) (h3_ : 0 ≤ a3_ ∧ a3_ ≤ 1224) (h2_ : 0 ≤ a2_ ∧ a2_ < S0_.1 2 cc_ 15) : ∀ nn_ : Nat, (∀ (f_ : Int) (S_ : sm_S), gi S_ → ai_fr (sx_W vw_182) S0_ S_ → ((0 ≤ f_ ∧ f_ ≤ a3_) ∧ (S_.1 2 cc_ 15 = S0_.1 2 cc_ 15) ∧ (cdf cc_ S0_ S_) ∧ True) → ((2000 - f_).toNat) < nn_ → sm_T (mt_P sc_) 1 182 (3, [some (.inr (.inr (some (9, 0)))), some (.inr (.inr (some (2, cc_)))), some (.inl a2_), some (.inl a3_), some (.inl f_)], [], S_) (fun ro9_ => ∃ u_ S1_, ro9_ = (.inl u_, S1_, 0) ∧ vq_182 a2_ a3_ cc_ S0_ u_ S1_)) := by
  intro nn_
  induction nn_ with
  | zero => exact fun _ _ _ _ _ h_ => absurd h_ (Nat.not_lt_zero _)
  | succ nn_ ih_ =>
    rintro f_ S_ hI_ hF_ ⟨h0_, h5_, hC_, -⟩ hm_
    have cz_ : (-1) ≤ S_.1 2 cc_ 15 ∧ S_.1 2 cc_ 15 ≤ 1224 := hI_.1 2 cc_ 15 rfl
    refine sm_T_go 2 (c1 := (6, [some (.inr (.inr (some (9, 0)))), some (.inr (.inr (some (2, cc_)))), some (.inl a2_), some (.inl a3_), some (.inl f_)], [.inl a3_, .inl f_], S_)) rfl ?_
    refine sm_T_br (a := 3) (z := 39) rfl (fun cx1_ => ?_) (fun cx1_ => ?_)
    · have cx1_ : a3_ ≤ f_ := of_decide_eq_true cx1_
      refine sm_T_go 4 (c1 := (51, [some (.inr (.inr (some (9, 0)))), some (.inr (.inr (some (2, cc_)))), some (.inl a2_), some (.inl a3_), some (.inl f_)], [.inl 1, .inl a2_, .inr (.inr (some (40, (0 + cc_))))], S_)) rfl ?_
      refine sm_T_bin (w := a2_ + 1) rfl (bi_add (by omega) (by omega) (by omega)) ?_ -- pc_ 51
      have bx2_ : (-1) ≤ S_.1 2 cc_ 15 ∧ S_.1 2 cc_ 15 ≤ 1224 := hI_.1 2 cc_ 15 rfl
      refine sm_T_go 6 (c1 := (62, [some (.inr (.inr (some (9, 0)))), some (.inr (.inr (some (2, cc_)))), some (.inl a2_), some (.inl a3_), some (.inl f_)], [.inl 1, .inl (S_.1 2 cc_ 15), .inl a2_, .inr (.inr (some (40, (0 + cc_)))), .inl (a2_ + 1), .inr (.inr (some (40, (0 + cc_))))], S_)) rfl ?_
      refine sm_T_bin (w := (S_.1 2 cc_ 15) - 1) rfl (bi_sub (by omega) (by omega) (by omega)) ?_ -- pc_ 62
      refine sm_T_go 1 (c1 := (64, [some (.inr (.inr (some (9, 0)))), some (.inr (.inr (some (2, cc_)))), some (.inl a2_), some (.inl a3_), some (.inl f_)], [.inl a2_, .inl ((S_.1 2 cc_ 15) - 1), .inl a2_, .inr (.inr (some (40, (0 + cc_)))), .inl (a2_ + 1), .inr (.inr (some (40, (0 + cc_))))], S_)) rfl ?_
      refine sm_T_bin (w := (S_.1 2 cc_ 15) - a2_ - 1) rfl (bi_sub (by omega) (by omega) (by omega)) ?_ -- pc_ 64
      refine sm_T_nt (u := none) (S1 := sm_acI S_ 40 (0 + cc_) 40 (0 + cc_) (a2_ + 1).toNat a2_.toNat ((S_.1 2 cc_ 15) - a2_ - 1).toNat) rfl rfl (nt_acI (sc := sc_) (t := 40) (i := (0 + cc_)) (t' := 40) (i' := (0 + cc_)) (x := a2_ + 1) (y := a2_) (m := (S_.1 2 cc_ 15) - a2_ - 1) (n := 1224) (n1 := 1224) rfl rfl (by omega) (by omega) (by omega) (by omega) (by omega)) ?_
      have hIx3_ : gi (sm_acI S_ 40 (0 + cc_) 40 (0 + cc_) (a2_ + 1).toNat a2_.toNat ((S_.1 2 cc_ 15) - a2_ - 1).toNat) := gi_ac hI_ (by decide) (by decide)
      have hFx4_ : ai_fr (sx_W vw_182) S0_ (sm_acI S_ 40 (0 + cc_) 40 (0 + cc_) (a2_ + 1).toNat a2_.toNat ((S_.1 2 cc_ 15) - a2_ - 1).toNat) := ai_fr_tr hF_ (fr_ac rfl)
      have hCx5_ : cdf cc_ S0_ (sm_acI S_ 40 (0 + cc_) 40 (0 + cc_) (a2_ + 1).toNat a2_.toNat ((S_.1 2 cc_ 15) - a2_ - 1).toNat) := cdf_ac hC_ (Or.inr (by rw [show cof 40 = 0 from rfl] <;> omega))
      refine sm_T_go 4 (c1 := (74, [some (.inr (.inr (some (9, 0)))), some (.inr (.inr (some (2, cc_)))), some (.inl a2_), some (.inl a3_), some (.inl f_)], [.inl 1, .inl (S_.1 2 cc_ 15), .inr (.inr (some (2, cc_)))], sm_acI S_ 40 (0 + cc_) 40 (0 + cc_) (a2_ + 1).toNat a2_.toNat ((S_.1 2 cc_ 15) - a2_ - 1).toNat)) rfl ?_
      refine sm_T_bin (w := (S_.1 2 cc_ 15) - 1) rfl (bi_sub (by omega) (by omega) (by omega)) ?_ -- pc_ 74
      have hIx6_ : gi (sm_pI (sm_acI S_ 40 (0 + cc_) 40 (0 + cc_) (a2_ + 1).toNat a2_.toNat ((S_.1 2 cc_ 15) - a2_ - 1).toNat) 2 cc_ 15 ((S_.1 2 cc_ 15) - 1)) := gi_pI hIx3_ (show (-1) ≤ (S_.1 2 cc_ 15) - 1 ∧ (S_.1 2 cc_ 15) - 1 ≤ 1224 from ⟨by omega, by omega⟩)
      have hFx7_ : ai_fr (sx_W vw_182) S0_ (sm_pI (sm_acI S_ 40 (0 + cc_) 40 (0 + cc_) (a2_ + 1).toNat a2_.toNat ((S_.1 2 cc_ 15) - a2_ - 1).toNat) 2 cc_ 15 ((S_.1 2 cc_ 15) - 1)) := ai_fr_tr hFx4_ (ai_fr_pI rfl)
      have hCx8_ : cdf cc_ S0_ (sm_pI (sm_acI S_ 40 (0 + cc_) 40 (0 + cc_) (a2_ + 1).toNat a2_.toNat ((S_.1 2 cc_ 15) - a2_ - 1).toNat) 2 cc_ 15 ((S_.1 2 cc_ 15) - 1)) := cdf_pI hCx5_ (Or.inr (by rw [show cof 2 = 0 from rfl] <;> omega))
      refine sm_T_go 1 (c1 := (78, [some (.inr (.inr (some (9, 0)))), some (.inr (.inr (some (2, cc_)))), some (.inl a2_), some (.inl a3_), some (.inl f_)], [], sm_pI (sm_acI S_ 40 (0 + cc_) 40 (0 + cc_) (a2_ + 1).toNat a2_.toNat ((S_.1 2 cc_ 15) - a2_ - 1).toNat) 2 cc_ 15 ((S_.1 2 cc_ 15) - 1))) rfl ?_
      refine sm_T_rv rfl ⟨_, _, rfl, rfl, hIx6_, hFx7_, ?_⟩
      refine ⟨hCx8_, ?_⟩
      (rw [rf_eq]; omega)
    · have cx1_ : ¬ (a3_ ≤ f_) := of_decide_eq_false cx1_
      refine sm_T_go 4 (c1 := (16, [some (.inr (.inr (some (9, 0)))), some (.inr (.inr (some (2, cc_)))), some (.inl a2_), some (.inl a3_), some (.inl f_)], [.inl f_, .inr (.inr (some (97, 0))), .inl f_, .inr (.inr (some (97, 0)))], S_)) rfl ?_
      refine sm_T_iald (n := 1224) rfl rfl (by omega) (by omega) ?_
      have bx9_ : (-2147483648) ≤ S_.2.2.1 97 0 f_.toNat ∧ S_.2.2.1 97 0 f_.toNat ≤ 2147483647 := hI_.2 97 0 _
      refine sm_T_go 4 (c1 := (23, [some (.inr (.inr (some (9, 0)))), some (.inr (.inr (some (2, cc_)))), some (.inl a2_), some (.inl a3_), some (.inl f_)], [.inl a2_, .inr (.inr (some (40, (0 + cc_)))), .inr (.inr (some (9, 0))), .inl (S_.2.2.1 97 0 f_.toNat), .inl f_, .inr (.inr (some (97, 0)))], S_)) rfl ?_
      refine sm_T_iald (n := 1224) rfl rfl (by omega) (by omega) ?_
      have bx10_ : 0 ≤ S_.2.2.1 40 (0 + cc_) a2_.toNat ∧ S_.2.2.1 40 (0 + cc_) a2_.toNat ≤ 4095 := hI_.2 40 (0 + cc_) _
      refine sm_T_go 1 (c1 := (26, [some (.inr (.inr (some (9, 0)))), some (.inr (.inr (some (2, cc_)))), some (.inl a2_), some (.inl a3_), some (.inl f_)], [.inl f_, .inl (S_.2.2.1 40 (0 + cc_) a2_.toNat), .inr (.inr (some (9, 0))), .inl (S_.2.2.1 97 0 f_.toNat), .inl f_, .inr (.inr (some (97, 0)))], S_)) rfl ?_
      refine sm_T_cal (d1 := 0) (Q1 := vq_176 (S_.2.2.1 40 (0 + cc_) a2_.toNat) f_ S_) rfl rfl (by decide) (vc_176 (S_.2.2.1 40 (0 + cc_) a2_.toNat) f_ S_ hI_ (by omega) (by omega)) (fun u_ Sx11_ px14_ => ?_)
      obtain ⟨rfl, vx16_, rfl, px14_⟩ := px14_
      have i26_ := px14_
      refine sm_T_b0 (a := 0) (z := 7) rfl (fun cx17_ => ?_) (fun cx17_ => ?_)
      · have cx17_ : vx16_ = 0 := of_decide_eq_true cx17_
        refine sm_T_go 1 (c1 := (37, [some (.inr (.inr (some (9, 0)))), some (.inr (.inr (some (2, cc_)))), some (.inl a2_), some (.inl a3_), some (.inl f_)], [.inl 0, .inl (S_.2.2.1 97 0 f_.toNat), .inl f_, .inr (.inr (some (97, 0)))], S_)) rfl ?_
        refine sm_T_bin (w := (i_sub (S_.2.2.1 97 0 f_.toNat) 0)) rfl rfl ?_ -- pc_ 37
        have bx18_ := i_sub_r (S_.2.2.1 97 0 f_.toNat) 0
        refine sm_T_iast (n := 1224) rfl rfl (by omega) (by omega) ?_
        have hIx19_ : gi (sm_aI S_ 97 0 f_.toNat (i_sub (S_.2.2.1 97 0 f_.toNat) 0)) := gi_aI hI_ (show (-2147483648) ≤ (i_sub (S_.2.2.1 97 0 f_.toNat) 0) ∧ (i_sub (S_.2.2.1 97 0 f_.toNat) 0) ≤ 2147483647 from ⟨by omega, by omega⟩)
        have hFx20_ : ai_fr (sx_W vw_182) S0_ (sm_aI S_ 97 0 f_.toNat (i_sub (S_.2.2.1 97 0 f_.toNat) 0)) := ai_fr_tr hF_ (ai_fr_aI rfl)
        have hCx21_ : cdf cc_ S0_ (sm_aI S_ 97 0 f_.toNat (i_sub (S_.2.2.1 97 0 f_.toNat) 0)) := cdf_aI hC_ (Or.inl rfl)
        refine sm_T_inc (a := 4) (z := 1) (v := f_) (w := f_ + 1) rfl rfl (by omega) (by omega) (by omega) ?_ -- pc_ 39
        refine sm_T_go 1 (c1 := (3, [some (.inr (.inr (some (9, 0)))), some (.inr (.inr (some (2, cc_)))), some (.inl a2_), some (.inl a3_), some (.inl (f_ + 1))], [], sm_aI S_ 97 0 f_.toNat (i_sub (S_.2.2.1 97 0 f_.toNat) 0))) rfl ?_
        refine ih_ (f_ + 1) (sm_aI S_ 97 0 f_.toNat (i_sub (S_.2.2.1 97 0 f_.toNat) 0)) hIx19_ hFx20_ ⟨?_, ?_, ?_, trivial⟩ ?_
        · omega
        · exact h5_
        · exact hCx21_
        · omega
      · have cx17_ : ¬ (vx16_ = 0) := of_decide_eq_false cx17_
        refine sm_T_go 2 (c1 := (37, [some (.inr (.inr (some (9, 0)))), some (.inr (.inr (some (2, cc_)))), some (.inl a2_), some (.inl a3_), some (.inl f_)], [.inl 1, .inl (S_.2.2.1 97 0 f_.toNat), .inl f_, .inr (.inr (some (97, 0)))], S_)) rfl ?_
        refine sm_T_bin (w := (i_sub (S_.2.2.1 97 0 f_.toNat) 1)) rfl rfl ?_ -- pc_ 37
        have bx22_ := i_sub_r (S_.2.2.1 97 0 f_.toNat) 1
        refine sm_T_iast (n := 1224) rfl rfl (by omega) (by omega) ?_
        have hIx23_ : gi (sm_aI S_ 97 0 f_.toNat (i_sub (S_.2.2.1 97 0 f_.toNat) 1)) := gi_aI hI_ (show (-2147483648) ≤ (i_sub (S_.2.2.1 97 0 f_.toNat) 1) ∧ (i_sub (S_.2.2.1 97 0 f_.toNat) 1) ≤ 2147483647 from ⟨by omega, by omega⟩)
        have hFx24_ : ai_fr (sx_W vw_182) S0_ (sm_aI S_ 97 0 f_.toNat (i_sub (S_.2.2.1 97 0 f_.toNat) 1)) := ai_fr_tr hF_ (ai_fr_aI rfl)
        have hCx25_ : cdf cc_ S0_ (sm_aI S_ 97 0 f_.toNat (i_sub (S_.2.2.1 97 0 f_.toNat) 1)) := cdf_aI hC_ (Or.inl rfl)
        refine sm_T_inc (a := 4) (z := 1) (v := f_) (w := f_ + 1) rfl rfl (by omega) (by omega) (by omega) ?_ -- pc_ 39
        refine sm_T_go 1 (c1 := (3, [some (.inr (.inr (some (9, 0)))), some (.inr (.inr (some (2, cc_)))), some (.inl a2_), some (.inl a3_), some (.inl (f_ + 1))], [], sm_aI S_ 97 0 f_.toNat (i_sub (S_.2.2.1 97 0 f_.toNat) 1))) rfl ?_
        refine ih_ (f_ + 1) (sm_aI S_ 97 0 f_.toNat (i_sub (S_.2.2.1 97 0 f_.toNat) 1)) hIx23_ hFx24_ ⟨?_, ?_, ?_, trivial⟩ ?_
        · omega
        · exact h5_
        · exact hCx25_
        · omega
set_option maxHeartbeats 400000 in
theorem vc_182 {sc_ : Nat × (Nat → Int)} (a2_ : Int) (a3_ : Int) (cc_ : Nat) (S0_ : sm_S) (hI_ : gi S0_) (h3_ : 0 ≤ a3_ ∧ a3_ ≤ 1224) (h2_ : 0 ≤ a2_ ∧ a2_ < S0_.1 2 cc_ 15) : sm_T (mt_P sc_) 1 182 (0, [some (.inr (.inr (some (9, 0)))), some (.inr (.inr (some (2, cc_)))), some (.inl a2_), some (.inl a3_), none], [], S0_) (fun ro9_ => ∃ u_ S1_, ro9_ = (.inl u_, S1_, 0) ∧ vq_182 a2_ a3_ cc_ S0_ u_ S1_) := by
  have hF_ : ai_fr (sx_W vw_182) S0_ S0_ := ai_fr_rf
  have hC_ : cdf cc_ S0_ S0_ := cdf_rf
  have cz_ : (-1) ≤ S0_.1 2 cc_ 15 ∧ S0_.1 2 cc_ 15 ≤ 1224 := hI_.1 2 cc_ 15 rfl
  refine sm_T_go 2 (c1 := (3, [some (.inr (.inr (some (9, 0)))), some (.inr (.inr (some (2, cc_)))), some (.inl a2_), some (.inl a3_), some (.inl 0)], [], S0_)) rfl ?_
  refine (vl_182 a2_ a3_ cc_ S0_ h3_ h2_ _) 0 S0_ hI_ hF_ ⟨?_, ?_, ?_, trivial⟩ (Nat.lt_succ_self _)
  · omega
  · rfl
  · exact hC_
