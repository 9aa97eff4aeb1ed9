/-! Tester.suspectOf -/
def vw_184 : sx_Wl := ([(9, 1), (9, 2), (9, 3)], [92, 93, 94, 95, 96], [(9, 0)])
def vq_184 (a2_ : Int) (cc_ : Nat) (S0_ : sm_S) (u_ : Option sm_V) (S1_ : sm_S) : Prop := ∃ v_ : Int, u_ = some (.inl v_) ∧ gi S1_ ∧ ai_fr (sx_W vw_184) S0_ S1_ ∧ (shn S1_)
set_option maxHeartbeats 400000 in
theorem vl_184 {sc_ : Nat × (Nat → Int)} (a2_ : Int) (cc_ : Nat) (S0_ : sm_S) (hs_ : S0_.1 2 cc_ 1 + S0_.1 2 cc_ 2 ≤ 12) (h2_ : -2147483648 ≤ a2_ ∧ a2_ ≤ 2147483647) (hn_ : shn S0_) : ∀ nn_ : Nat, (∀ (rs_ : Int) (f_ : Int) (S_ : sm_S), gi S_ → ai_fr (sx_W vw_184) S0_ S_ → ((0 ≤ f_ ∧ f_ ≤ 1224) ∧ (shn S_) ∧ True) → ((10000 * (2000 - f_) + 9000).toNat) < nn_ → sm_T (mt_P sc_) 5 184 (5, [some (.inr (.inr (some (9, 0)))), some (.inr (.inr (some (2, cc_)))), some (.inl a2_), some (.inl rs_), some (.inl f_), none, none], [], S_) (fun ro9_ => ∃ u_ S1_, ro9_ = (.inl u_, S1_, 0) ∧ vq_184 a2_ cc_ S0_ u_ S1_)) ∧ (∀ (rs_ : Int) (f_ : Int) (sp_ : Int) (k_ : Int) (S_ : sm_S), gi S_ → ai_fr (sx_W vw_184) S0_ S_ → ((0 ≤ f_ ∧ f_ < 1224 ∧ 0 ≤ k_ ∧ k_ ≤ 1224 ∧ 0 ≤ sp_ ∧ sp_ ≤ 1) ∧ (shn S_) ∧ True) → ((10000 * (2000 - f_) + 8000 - k_).toNat) < nn_ → sm_T (mt_P sc_) 5 184 (41, [some (.inr (.inr (some (9, 0)))), some (.inr (.inr (some (2, cc_)))), some (.inl a2_), some (.inl rs_), some (.inl f_), some (.inl sp_), some (.inl k_)], [], S_) (fun ro9_ => ∃ u_ S1_, ro9_ = (.inl u_, S1_, 0) ∧ vq_184 a2_ cc_ S0_ u_ S1_)) := by
  intro nn_
  induction nn_ with
  | zero => exact ⟨fun _ _ _ _ _ _ h_ => absurd h_ (Nat.not_lt_zero _), fun _ _ _ _ _ _ _ _ h_ => absurd h_ (Nat.not_lt_zero _)⟩
  | succ nn_ ih_ =>
    refine ⟨?_, ?_⟩
    · rintro rs_ f_ S_ hI_ hF_ ⟨h0_, hn1_, -⟩ hm_
      have z1_ : S_.1 2 cc_ 1 = S0_.1 2 cc_ 1 := hF_.1 2 cc_ 1 rfl
      have z2_ : S_.1 2 cc_ 2 = S0_.1 2 cc_ 2 := hF_.1 2 cc_ 2 rfl
      have cz_ : (-1) ≤ S_.1 2 cc_ 15 ∧ S_.1 2 cc_ 15 ≤ 1224 := hI_.1 2 cc_ 15 rfl
      refine sm_T_go 2 (c1 := (8, [some (.inr (.inr (some (9, 0)))), some (.inr (.inr (some (2, cc_)))), some (.inl a2_), some (.inl rs_), some (.inl f_), none, none], [.inr (.inr (some (2, cc_))), .inl f_], S_)) rfl ?_
      refine sm_T_cal (d1 := 1) (Q1 := vq_62 cc_ S_) rfl rfl (by decide) (vc_62 cc_ S_ hI_ (by omega)) (fun u_ Sx1_ px4_ => ?_)
      obtain ⟨rfl, vx6_, rfl, px4_⟩ := px4_
      have fc8_ := px4_
      refine sm_T_br (a := 3) (z := 109) rfl (fun cx7_ => ?_) (fun cx7_ => ?_)
      · have cx7_ : vx6_ ≤ f_ := of_decide_eq_true cx7_
        refine sm_T_go 1 (c1 := (121, [some (.inr (.inr (some (9, 0)))), some (.inr (.inr (some (2, cc_)))), some (.inl a2_), some (.inl rs_), some (.inl f_), none, none], [.inl (-1)], S_)) rfl ?_
        refine sm_T_ri rfl ⟨_, _, rfl, _, rfl, hI_, hF_, ?_⟩
        exact hn1_
      · have cx7_ : ¬ (vx6_ ≤ f_) := of_decide_eq_false cx7_
        refine sm_T_go 3 (c1 := (18, [some (.inr (.inr (some (9, 0)))), some (.inr (.inr (some (2, cc_)))), some (.inl a2_), some (.inl rs_), some (.inl f_), none, none], [.inl f_, .inr (.inr (some (2, cc_))), .inr (.inr (some (9, 0)))], S_)) rfl ?_
        refine sm_T_cal (d1 := 4) (Q1 := vq_174 f_ cc_ S_) rfl rfl (by decide) (vc_174 f_ cc_ S_ hI_ (by omega) (by omega) (by first | exact hn1_ | exact hn_)) (fun u_ Sx8_ px11_ => ?_)
        obtain ⟨rfl, hIx9_, hFx10_, px11_⟩ := px11_
        have hFx12_ : ai_fr (sx_W vw_184) S0_ Sx8_ := ai_fr_tr hF_ (fr_le hFx10_ rfl)
        have p18_ := px11_
        refine sm_T_go 3 (c1 := (25, [some (.inr (.inr (some (9, 0)))), some (.inr (.inr (some (2, cc_)))), some (.inl a2_), some (.inl rs_), some (.inl f_), none, none], [.inl f_, .inr (.inr (some (2, cc_))), .inr (.inr (some (9, 0)))], Sx8_)) rfl ?_
        refine sm_T_cal (d1 := 1) (Q1 := vq_180 f_ cc_ Sx8_) rfl rfl (by decide) (vc_180 f_ cc_ Sx8_ hIx9_ (by omega)) (fun u_ Sx13_ px16_ => ?_)
        obtain ⟨rfl, vx18_, rfl, px16_⟩ := px16_
        refine sm_T_b0 (a := 5) (z := 7) rfl (fun cx19_ => ?_) (fun cx19_ => ?_)
        · have cx19_ : vx18_ ≤ 0 := of_decide_eq_true cx19_
          refine sm_T_go 4 (c1 := (41, [some (.inr (.inr (some (9, 0)))), some (.inr (.inr (some (2, cc_)))), some (.inl a2_), some (.inl rs_), some (.inl f_), some (.inl 0), some (.inl 0)], [], Sx8_)) rfl ?_
          refine ih_.2 rs_ f_ 0 0 Sx8_ hIx9_ hFx12_ ⟨?_, ?_, trivial⟩ ?_
          · omega
          · exact p18_.2
          · omega
        · have cx19_ : ¬ (vx18_ ≤ 0) := of_decide_eq_false cx19_
          refine sm_T_go 5 (c1 := (41, [some (.inr (.inr (some (9, 0)))), some (.inr (.inr (some (2, cc_)))), some (.inl a2_), some (.inl rs_), some (.inl f_), some (.inl 1), some (.inl 0)], [], Sx8_)) rfl ?_
          refine ih_.2 rs_ f_ 1 0 Sx8_ hIx9_ hFx12_ ⟨?_, ?_, trivial⟩ ?_
          · omega
          · exact p18_.2
          · omega
    · rintro rs_ f_ sp_ k_ S_ hI_ hF_ ⟨h0_, hn1_, -⟩ hm_
      have z1_ : S_.1 2 cc_ 1 = S0_.1 2 cc_ 1 := hF_.1 2 cc_ 1 rfl
      have z2_ : S_.1 2 cc_ 2 = S0_.1 2 cc_ 2 := hF_.1 2 cc_ 2 rfl
      have cz_ : (-1) ≤ S_.1 2 cc_ 15 ∧ S_.1 2 cc_ 15 ≤ 1224 := hI_.1 2 cc_ 15 rfl
      have bx1_ : (-1) ≤ S_.1 2 cc_ 15 ∧ S_.1 2 cc_ 15 ≤ 1224 := hI_.1 2 cc_ 15 rfl
      refine sm_T_go 3 (c1 := (47, [some (.inr (.inr (some (9, 0)))), some (.inr (.inr (some (2, cc_)))), some (.inl a2_), some (.inl rs_), some (.inl f_), some (.inl sp_), some (.inl k_)], [.inl (S_.1 2 cc_ 15), .inl k_], S_)) rfl ?_
      refine sm_T_br (a := 3) (z := 52) rfl (fun cx2_ => ?_) (fun cx2_ => ?_)
      · have cx2_ : (S_.1 2 cc_ 15) ≤ k_ := of_decide_eq_true cx2_
        refine sm_T_go 1 (c1 := (101, [some (.inr (.inr (some (9, 0)))), some (.inr (.inr (some (2, cc_)))), some (.inl a2_), some (.inl rs_), some (.inl f_), some (.inl sp_), some (.inl k_)], [.inl sp_], S_)) rfl ?_
        refine sm_T_b0 (a := 0) (z := 13) rfl (fun cx3_ => ?_) (fun cx3_ => ?_)
        · have cx3_ : sp_ = 0 := of_decide_eq_true cx3_
          refine sm_T_inc (a := 4) (z := 1) (v := f_) (w := f_ + 1) rfl rfl (by omega) (by omega) (by omega) ?_ -- pc_ 114
          refine sm_T_go 1 (c1 := (5, [some (.inr (.inr (some (9, 0)))), some (.inr (.inr (some (2, cc_)))), some (.inl a2_), some (.inl rs_), some (.inl (f_ + 1)), some (.inl sp_), some (.inl k_)], [], S_)) rfl ?_
          refine sm_T_wk [some (.inr (.inr (some (9, 0)))), some (.inr (.inr (some (2, cc_)))), some (.inl a2_), some (.inl rs_), some (.inl (f_ + 1)), none, none] (by exact ⟨rfl, rfl, rfl, rfl, rfl, trivial⟩) ?_
          refine ih_.1 rs_ (f_ + 1) S_ hI_ hF_ ⟨?_, ?_, trivial⟩ ?_
          · omega
          · exact hn1_
          · omega
        · have cx3_ : ¬ (sp_ = 0) := of_decide_eq_false cx3_
          refine sm_T_go 1 (c1 := (105, [some (.inr (.inr (some (9, 0)))), some (.inr (.inr (some (2, cc_)))), some (.inl a2_), some (.inl rs_), some (.inl f_), some (.inl sp_), some (.inl k_)], [.inl rs_], S_)) rfl ?_
          refine sm_T_b0 (a := 1) (z := 6) rfl (fun cx4_ => ?_) (fun cx4_ => ?_)
          · have cx4_ : rs_ ≠ 0 := of_decide_eq_true cx4_
            refine sm_T_incw (a_ := 3) (z_ := (-1)) (v_ := rs_) rfl rfl ?_ -- pc_ 111
            have bx5_ := i_add_r rs_ (-1)
            refine sm_T_inc (a := 4) (z := 1) (v := f_) (w := f_ + 1) rfl rfl (by omega) (by omega) (by omega) ?_ -- pc_ 114
            refine sm_T_go 1 (c1 := (5, [some (.inr (.inr (some (9, 0)))), some (.inr (.inr (some (2, cc_)))), some (.inl a2_), some (.inl (i_add rs_ (-1))), some (.inl (f_ + 1)), some (.inl sp_), some (.inl k_)], [], S_)) rfl ?_
            refine sm_T_wk [some (.inr (.inr (some (9, 0)))), some (.inr (.inr (some (2, cc_)))), some (.inl a2_), some (.inl (i_add rs_ (-1))), some (.inl (f_ + 1)), none, none] (by exact ⟨rfl, rfl, rfl, rfl, rfl, trivial⟩) ?_
            refine ih_.1 (i_add rs_ (-1)) (f_ + 1) S_ hI_ hF_ ⟨?_, ?_, trivial⟩ ?_
            · omega
            · exact hn1_
            · omega
          · have cx4_ : ¬ (rs_ ≠ 0) := of_decide_eq_false cx4_
            refine sm_T_go 1 (c1 := (110, [some (.inr (.inr (some (9, 0)))), some (.inr (.inr (some (2, cc_)))), some (.inl a2_), some (.inl rs_), some (.inl f_), some (.inl sp_), some (.inl k_)], [.inl f_], S_)) rfl ?_
            refine sm_T_ri rfl ⟨_, _, rfl, _, rfl, hI_, hF_, ?_⟩
            exact hn1_
      · have cx2_ : ¬ ((S_.1 2 cc_ 15) ≤ k_) := of_decide_eq_false cx2_
        refine sm_T_go 1 (c1 := (52, [some (.inr (.inr (some (9, 0)))), some (.inr (.inr (some (2, cc_)))), some (.inl a2_), some (.inl rs_), some (.inl f_), some (.inl sp_), some (.inl k_)], [.inl sp_], S_)) rfl ?_
        refine sm_T_b0 (a := 0) (z := 47) rfl (fun cx6_ => ?_) (fun cx6_ => ?_)
        · have cx6_ : sp_ = 0 := of_decide_eq_true cx6_
          refine sm_T_go 1 (c1 := (101, [some (.inr (.inr (some (9, 0)))), some (.inr (.inr (some (2, cc_)))), some (.inl a2_), some (.inl rs_), some (.inl f_), some (.inl sp_), some (.inl k_)], [.inl sp_], S_)) rfl ?_
          refine sm_T_b0 (a := 0) (z := 13) rfl (fun cx7_ => ?_) (fun cx7_ => ?_)
          · have cx7_ : sp_ = 0 := of_decide_eq_true cx7_
            refine sm_T_inc (a := 4) (z := 1) (v := f_) (w := f_ + 1) rfl rfl (by omega) (by omega) (by omega) ?_ -- pc_ 114
            refine sm_T_go 1 (c1 := (5, [some (.inr (.inr (some (9, 0)))), some (.inr (.inr (some (2, cc_)))), some (.inl a2_), some (.inl rs_), some (.inl (f_ + 1)), some (.inl sp_), some (.inl k_)], [], S_)) rfl ?_
            refine sm_T_wk [some (.inr (.inr (some (9, 0)))), some (.inr (.inr (some (2, cc_)))), some (.inl a2_), some (.inl rs_), some (.inl (f_ + 1)), none, none] (by exact ⟨rfl, rfl, rfl, rfl, rfl, trivial⟩) ?_
            refine ih_.1 rs_ (f_ + 1) S_ hI_ hF_ ⟨?_, ?_, trivial⟩ ?_
            · omega
            · exact hn1_
            · omega
          · have cx7_ : ¬ (sp_ = 0) := of_decide_eq_false cx7_
            exfalso; omega
        · have cx6_ : ¬ (sp_ = 0) := of_decide_eq_false cx6_
          refine sm_T_go 4 (c1 := (62, [some (.inr (.inr (some (9, 0)))), some (.inr (.inr (some (2, cc_)))), some (.inl a2_), some (.inl rs_), some (.inl f_), some (.inl sp_), some (.inl k_)], [.inl k_, .inr (.inr (some (40, (0 + cc_)))), .inr (.inr (some (9, 0)))], S_)) rfl ?_
          refine sm_T_iald (n := 1224) rfl rfl (by omega) (by omega) ?_
          have bx8_ : 0 ≤ S_.2.2.1 40 (0 + cc_) k_.toNat ∧ S_.2.2.1 40 (0 + cc_) k_.toNat ≤ 4095 := hI_.2 40 (0 + cc_) _
          refine sm_T_go 1 (c1 := (65, [some (.inr (.inr (some (9, 0)))), some (.inr (.inr (some (2, cc_)))), some (.inl a2_), some (.inl rs_), some (.inl f_), some (.inl sp_), some (.inl k_)], [.inl f_, .inl (S_.2.2.1 40 (0 + cc_) k_.toNat), .inr (.inr (some (9, 0)))], S_)) rfl ?_
          refine sm_T_cal (d1 := 0) (Q1 := vq_176 (S_.2.2.1 40 (0 + cc_) k_.toNat) f_ S_) rfl rfl (by decide) (vc_176 (S_.2.2.1 40 (0 + cc_) k_.toNat) f_ S_ hI_ (by omega) (by omega)) (fun u_ Sx9_ px12_ => ?_)
          obtain ⟨rfl, vx14_, rfl, px12_⟩ := px12_
          have i65_ := px12_
          refine sm_T_go 3 (c1 := (74, [some (.inr (.inr (some (9, 0)))), some (.inr (.inr (some (2, cc_)))), some (.inl a2_), some (.inl rs_), some (.inl f_), some (.inl sp_), some (.inl k_)], [.inl k_, .inr (.inr (some (41, (0 + cc_)))), .inl vx14_], S_)) rfl ?_
          refine sm_T_iald (n := 1224) rfl rfl (by omega) (by omega) ?_
          have bx15_ : 0 ≤ S_.2.2.1 41 (0 + cc_) k_.toNat ∧ S_.2.2.1 41 (0 + cc_) k_.toNat ≤ 1 := hI_.2 41 (0 + cc_) _
          refine sm_T_b0 (a := 0) (z := 7) rfl (fun cx16_ => ?_) (fun cx16_ => ?_)
          · have cx16_ : (S_.2.2.1 41 (0 + cc_) k_.toNat) = 0 := of_decide_eq_true cx16_
            refine sm_T_go 1 (c1 := (83, [some (.inr (.inr (some (9, 0)))), some (.inr (.inr (some (2, cc_)))), some (.inl a2_), some (.inl rs_), some (.inl f_), some (.inl sp_), some (.inl k_)], [.inl 0, .inl vx14_], S_)) rfl ?_
            refine sm_T_br (a := 1) (z := 7) rfl (fun cx17_ => ?_) (fun cx17_ => ?_)
            · have cx17_ : vx14_ ≠ 0 := of_decide_eq_true cx17_
              refine sm_T_go 2 (c1 := (93, [some (.inr (.inr (some (9, 0)))), some (.inr (.inr (some (2, cc_)))), some (.inl a2_), some (.inl rs_), some (.inl f_), some (.inl 0), some (.inl k_)], [], S_)) rfl ?_
              refine sm_T_inc (a := 6) (z := 1) (v := k_) (w := k_ + 1) rfl rfl (by omega) (by omega) (by omega) ?_ -- pc_ 93
              refine sm_T_go 1 (c1 := (41, [some (.inr (.inr (some (9, 0)))), some (.inr (.inr (some (2, cc_)))), some (.inl a2_), some (.inl rs_), some (.inl f_), some (.inl 0), some (.inl (k_ + 1))], [], S_)) rfl ?_
              refine ih_.2 rs_ f_ 0 (k_ + 1) S_ hI_ hF_ ⟨?_, ?_, trivial⟩ ?_
              · omega
              · exact hn1_
              · omega
            · have cx17_ : ¬ (vx14_ ≠ 0) := of_decide_eq_false cx17_
              refine sm_T_go 3 (c1 := (93, [some (.inr (.inr (some (9, 0)))), some (.inr (.inr (some (2, cc_)))), some (.inl a2_), some (.inl rs_), some (.inl f_), some (.inl 1), some (.inl k_)], [], S_)) rfl ?_
              refine sm_T_inc (a := 6) (z := 1) (v := k_) (w := k_ + 1) rfl rfl (by omega) (by omega) (by omega) ?_ -- pc_ 93
              refine sm_T_go 1 (c1 := (41, [some (.inr (.inr (some (9, 0)))), some (.inr (.inr (some (2, cc_)))), some (.inl a2_), some (.inl rs_), some (.inl f_), some (.inl 1), some (.inl (k_ + 1))], [], S_)) rfl ?_
              refine ih_.2 rs_ f_ 1 (k_ + 1) S_ hI_ hF_ ⟨?_, ?_, trivial⟩ ?_
              · omega
              · exact hn1_
              · omega
          · have cx16_ : ¬ ((S_.2.2.1 41 (0 + cc_) k_.toNat) = 0) := of_decide_eq_false cx16_
            refine sm_T_go 2 (c1 := (83, [some (.inr (.inr (some (9, 0)))), some (.inr (.inr (some (2, cc_)))), some (.inl a2_), some (.inl rs_), some (.inl f_), some (.inl sp_), some (.inl k_)], [.inl 1, .inl vx14_], S_)) rfl ?_
            refine sm_T_br (a := 1) (z := 7) rfl (fun cx18_ => ?_) (fun cx18_ => ?_)
            · have cx18_ : vx14_ ≠ 1 := of_decide_eq_true cx18_
              refine sm_T_go 2 (c1 := (93, [some (.inr (.inr (some (9, 0)))), some (.inr (.inr (some (2, cc_)))), some (.inl a2_), some (.inl rs_), some (.inl f_), some (.inl 0), some (.inl k_)], [], S_)) rfl ?_
              refine sm_T_inc (a := 6) (z := 1) (v := k_) (w := k_ + 1) rfl rfl (by omega) (by omega) (by omega) ?_ -- pc_ 93
              refine sm_T_go 1 (c1 := (41, [some (.inr (.inr (some (9, 0)))), some (.inr (.inr (some (2, cc_)))), some (.inl a2_), some (.inl rs_), some (.inl f_), some (.inl 0), some (.inl (k_ + 1))], [], S_)) rfl ?_
              refine ih_.2 rs_ f_ 0 (k_ + 1) S_ hI_ hF_ ⟨?_, ?_, trivial⟩ ?_
              · omega
              · exact hn1_
              · omega
            · have cx18_ : ¬ (vx14_ ≠ 1) := of_decide_eq_false cx18_
              refine sm_T_go 3 (c1 := (93, [some (.inr (.inr (some (9, 0)))), some (.inr (.inr (some (2, cc_)))), some (.inl a2_), some (.inl rs_), some (.inl f_), some (.inl 1), some (.inl k_)], [], S_)) rfl ?_
              refine sm_T_inc (a := 6) (z := 1) (v := k_) (w := k_ + 1) rfl rfl (by omega) (by omega) (by omega) ?_ -- pc_ 93
              refine sm_T_go 1 (c1 := (41, [some (.inr (.inr (some (9, 0)))), some (.inr (.inr (some (2, cc_)))), some (.inl a2_), some (.inl rs_), some (.inl f_), some (.inl 1), some (.inl (k_ + 1))], [], S_)) rfl ?_
              refine ih_.2 rs_ f_ 1 (k_ + 1) S_ hI_ hF_ ⟨?_, ?_, trivial⟩ ?_
              · omega
              · exact hn1_
              · omega
set_option maxHeartbeats 400000 in
theorem vc_184 {sc_ : Nat × (Nat → Int)} (a2_ : Int) (cc_ : Nat) (S0_ : sm_S) (hI_ : gi S0_) (hs_ : S0_.1 2 cc_ 1 + S0_.1 2 cc_ 2 ≤ 12) (h2_ : -2147483648 ≤ a2_ ∧ a2_ ≤ 2147483647) (hn_ : shn S0_) : sm_T (mt_P sc_) 5 184 (0, [some (.inr (.inr (some (9, 0)))), some (.inr (.inr (some (2, cc_)))), some (.inl a2_), none, none, none, none], [], S0_) (fun ro9_ => ∃ u_ S1_, ro9_ = (.inl u_, S1_, 0) ∧ vq_184 a2_ cc_ S0_ u_ S1_) := by
  have hF_ : ai_fr (sx_W vw_184) S0_ S0_ := ai_fr_rf
  refine sm_T_go 4 (c1 := (5, [some (.inr (.inr (some (9, 0)))), some (.inr (.inr (some (2, cc_)))), some (.inl a2_), some (.inl a2_), some (.inl 0), none, none], [], S0_)) rfl ?_
  refine (vl_184 a2_ cc_ S0_ hs_ h2_ hn_ _).1 a2_ 0 S0_ hI_ hF_ ⟨?_, ?_, trivial⟩ (Nat.lt_succ_self _)
  · omega
  · exact hn_
