/-! M_.countNeeded -/
def vw_356 : sx_Wl := ([], [173], [])
def vq_356 (o_ : Int) (F_ : Nat) (S0_ : sm_S) (u_ : Option sm_V) (S1_ : sm_S) : Prop := ∃ v_ : Int, u_ = some (.inl v_) ∧ gi S1_ ∧ ai_fr (sx_W vw_356) S0_ S1_ ∧ (0 ≤ v_ ∧ v_ ≤ 1000)
set_option maxHeartbeats 1500000 in
theorem vl_356 {sc_ : Nat × (Nat → Int)} (o_ : Int) (F_ : Nat) (S0_ : sm_S) (hg_ : rgr F_ S0_) (hr_ : rrt o_ S0_) (hs_ : rsw F_ S0_) : ∀ nn_ : Nat, (∀ (k_ : Int) (S_ : sm_S), gi S_ → ai_fr (sx_W vw_356) S0_ S_ → ((0 ≤ k_ ∧ k_ ≤ S0_.1 13 0 37) ∧ True) → ((9000 - k_).toNat) < nn_ → sm_T (mt_P sc_) 1 356 (2, [some (.inr (.inr (some (13, 0)))), some (.inl o_), some (.inl k_), none], [], S_) (fun ro9_ => ∃ u_ S1_, ro9_ = (.inl u_, S1_, 0) ∧ vq_356 o_ F_ S0_ u_ S1_)) ∧ (∀ (k_ : Int) (S_ : sm_S), gi S_ → ai_fr (sx_W vw_356) S0_ S_ → ((0 ≤ k_ ∧ k_ ≤ 16) ∧ True) → ((5000 - k_).toNat) < nn_ → sm_T (mt_P sc_) 1 356 (25, [some (.inr (.inr (some (13, 0)))), some (.inl o_), some (.inl k_), none], [], S_) (fun ro9_ => ∃ u_ S1_, ro9_ = (.inl u_, S1_, 0) ∧ vq_356 o_ F_ S0_ u_ S1_)) ∧ (∀ (k_ : Int) (S_ : sm_S), gi S_ → ai_fr (sx_W vw_356) S0_ S_ → ((0 ≤ k_ ∧ k_ ≤ 6) ∧ True) → ((4000 - k_).toNat) < nn_ → sm_T (mt_P sc_) 1 356 (56, [some (.inr (.inr (some (13, 0)))), some (.inl o_), some (.inl k_), none], [], S_) (fun ro9_ => ∃ u_ S1_, ro9_ = (.inl u_, S1_, 0) ∧ vq_356 o_ F_ S0_ u_ S1_)) ∧ (∀ (c_ : Int) (n_ : Int) (S_ : sm_S), gi S_ → ai_fr (sx_W vw_356) S0_ S_ → (((F_ : Int) - 1 ≤ n_ ∧ n_ < S0_.1 13 0 37 ∧ 0 ≤ c_ ∧ c_ ≤ S0_.1 13 0 37 - 1 - n_) ∧ True) → ((n_ + 1).toNat) < nn_ → sm_T (mt_P sc_) 1 356 (97, [some (.inr (.inr (some (13, 0)))), some (.inl o_), some (.inl c_), some (.inl n_)], [], S_) (fun ro9_ => ∃ u_ S1_, ro9_ = (.inl u_, S1_, 0) ∧ vq_356 o_ F_ S0_ u_ S1_)) := by
  intro nn_
  induction nn_ with
  | zero => exact ⟨fun _ _ _ _ _ h_ => absurd h_ (Nat.not_lt_zero _), fun _ _ _ _ _ h_ => absurd h_ (Nat.not_lt_zero _), fun _ _ _ _ _ h_ => absurd h_ (Nat.not_lt_zero _), fun _ _ _ _ _ _ h_ => absurd h_ (Nat.not_lt_zero _)⟩
  | succ nn_ ih_ =>
    refine ⟨?_, ?_, ?_, ?_⟩
    · rintro k_ S_ hI_ hF_ ⟨h0_, -⟩ hm_
      have g1_ := hg_.1
      have g2_ := hg_.2.1
      have e37_ : S_.1 13 0 37 = S0_.1 13 0 37 := hF_.1 13 0 37 rfl
      have e38_ : S_.1 13 0 38 = S0_.1 13 0 38 := hF_.1 13 0 38 rfl
      have e53_ : S_.1 13 0 53 = S0_.1 13 0 53 := hF_.1 13 0 53 rfl
      have f40_ : S_.2.2.1 140 0 = S0_.2.2.1 140 0 := fr_arr hF_ rfl
      have f41_ : S_.2.2.1 141 0 = S0_.2.2.1 141 0 := fr_arr hF_ rfl
      have r1_ := hr_.1
      have r2_ := hr_.2.1
      have f75_ : S_.2.2.1 175 0 = S0_.2.2.1 175 0 := fr_arr hF_ rfl
      have f51_ : S_.2.2.1 151 0 = S0_.2.2.1 151 0 := fr_arr hF_ rfl
      have f72_ : S_.2.2.1 172 0 = S0_.2.2.1 172 0 := fr_arr hF_ rfl
      have n13_ : S0_.1 13 0 37 ≤ 1013 := by omega
      have bx1_ : 0 ≤ S_.1 13 0 37 ∧ S_.1 13 0 37 ≤ 1014 := hI_.1 13 0 37 rfl
      refine sm_T_go 3 (c1 := (7, [some (.inr (.inr (some (13, 0)))), some (.inl o_), some (.inl k_), none], [.inl (S_.1 13 0 37), .inl k_], S_)) rfl ?_
      refine sm_T_br (a := 3) (z := 16) rfl (fun cx2_ => ?_) (fun cx2_ => ?_)
      · have cx2_ : (S_.1 13 0 37) ≤ k_ := of_decide_eq_true cx2_
        refine sm_T_go 2 (c1 := (25, [some (.inr (.inr (some (13, 0)))), some (.inl o_), some (.inl 0), none], [], S_)) rfl ?_
        refine ih_.2.1 0 S_ hI_ hF_ ⟨?_, trivial⟩ ?_
        · omega
        · omega
      · have cx2_ : ¬ ((S_.1 13 0 37) ≤ k_) := of_decide_eq_false cx2_
        refine sm_T_go 4 (c1 := (16, [some (.inr (.inr (some (13, 0)))), some (.inl o_), some (.inl k_), none], [.inl 0, .inl k_, .inr (.inr (some (173, 0)))], S_)) rfl ?_
        refine sm_T_zas1 (n := 2048) rfl rfl (by omega) (by omega) (by omega) ?_
        have hIx3_ : gi (sm_aI S_ 173 0 k_.toNat 0) := gi_aI hI_ (show 0 ≤ 0 ∧ 0 ≤ 1 from ⟨by omega, by omega⟩)
        have hFx4_ : ai_fr (sx_W vw_356) S0_ (sm_aI S_ 173 0 k_.toNat 0) := ai_fr_tr hF_ (ai_fr_aI rfl)
        refine sm_T_inc (a := 2) (z := 1) (v := k_) (w := k_ + 1) rfl rfl (by omega) (by omega) (by omega) ?_
        refine sm_T_go 1 (c1 := (2, [some (.inr (.inr (some (13, 0)))), some (.inl o_), some (.inl (k_ + 1)), none], [], sm_aI S_ 173 0 k_.toNat 0)) rfl ?_
        refine ih_.1 (k_ + 1) (sm_aI S_ 173 0 k_.toNat 0) hIx3_ hFx4_ ⟨?_, trivial⟩ ?_
        · omega
        · omega
    · rintro k_ S_ hI_ hF_ ⟨h0_, -⟩ hm_
      have g1_ := hg_.1
      have g2_ := hg_.2.1
      have e37_ : S_.1 13 0 37 = S0_.1 13 0 37 := hF_.1 13 0 37 rfl
      have e38_ : S_.1 13 0 38 = S0_.1 13 0 38 := hF_.1 13 0 38 rfl
      have e53_ : S_.1 13 0 53 = S0_.1 13 0 53 := hF_.1 13 0 53 rfl
      have f40_ : S_.2.2.1 140 0 = S0_.2.2.1 140 0 := fr_arr hF_ rfl
      have f41_ : S_.2.2.1 141 0 = S0_.2.2.1 141 0 := fr_arr hF_ rfl
      have r1_ := hr_.1
      have r2_ := hr_.2.1
      have f75_ : S_.2.2.1 175 0 = S0_.2.2.1 175 0 := fr_arr hF_ rfl
      have f51_ : S_.2.2.1 151 0 = S0_.2.2.1 151 0 := fr_arr hF_ rfl
      have f72_ : S_.2.2.1 172 0 = S0_.2.2.1 172 0 := fr_arr hF_ rfl
      have n13_ : S0_.1 13 0 37 ≤ 1013 := by omega
      refine sm_T_go 2 (c1 := (27, [some (.inr (.inr (some (13, 0)))), some (.inl o_), some (.inl k_), none], [.inl o_, .inl k_], S_)) rfl ?_
      refine sm_T_br (a := 3) (z := 27) rfl (fun cx1_ => ?_) (fun cx1_ => ?_)
      · have cx1_ : o_ ≤ k_ := of_decide_eq_true cx1_
        refine sm_T_go 2 (c1 := (56, [some (.inr (.inr (some (13, 0)))), some (.inl o_), some (.inl 0), none], [], S_)) rfl ?_
        refine ih_.2.2.1 0 S_ hI_ hF_ ⟨?_, trivial⟩ ?_
        · omega
        · omega
      · have cx1_ : ¬ (o_ ≤ k_) := of_decide_eq_false cx1_
        have ro_ := hr_.2.2.1 k_.toNat (by omega)
        rw [← f75_] at ro_
        refine sm_T_go 6 (c1 := (40, [some (.inr (.inr (some (13, 0)))), some (.inl o_), some (.inl k_), none], [.inl k_, .inr (.inr (some (175, 0))), .inr (.inr (some (13, 0))), .inr (.inr (some (173, 0)))], S_)) rfl ?_
        refine sm_T_iald (n := 16) rfl rfl (by omega) (by omega) ?_
        have bx2_ : 0 ≤ S_.2.2.1 175 0 k_.toNat ∧ S_.2.2.1 175 0 k_.toNat ≤ 2047 := hI_.2 175 0 _
        refine sm_T_cal (d1 := 0) (Q1 := vq_355 (S_.2.2.1 175 0 k_.toNat) S_) rfl rfl (by decide) (vc_355 (S_.2.2.1 175 0 k_.toNat) S_ hI_ (by omega)) (fun u_ Sx3_ px6_ => ?_)
        obtain ⟨rfl, vx8_, rfl, px6_⟩ := px6_
        have e41_ := px6_
        rw [f75_] at ro_
        rw [f72_, f75_] at e41_
        have sw41_ := rsl_n hs_ (l_ := S0_.2.2.1 175 0 k_.toNat) (by omega) (by omega) n13_
        rw [← e41_] at sw41_
        refine sm_T_go 1 (c1 := (45, [some (.inr (.inr (some (13, 0)))), some (.inl o_), some (.inl k_), none], [.inl 1, .inl vx8_, .inr (.inr (some (173, 0)))], S_)) rfl ?_
        refine sm_T_bin (w := (vx8_ / 2)) rfl (bi_shr (k := 1) (by decide) (by omega) (by omega)) ?_
        refine sm_T_go 1 (c1 := (47, [some (.inr (.inr (some (13, 0)))), some (.inl o_), some (.inl k_), none], [.inl 1, .inl (vx8_ / 2), .inr (.inr (some (173, 0)))], S_)) rfl ?_
        refine sm_T_zas1 (n := 2048) rfl rfl (by omega) (by omega) (by omega) ?_
        have hIx9_ : gi (sm_aI S_ 173 0 (vx8_ / 2).toNat 1) := gi_aI hI_ (show 0 ≤ 1 ∧ 1 ≤ 1 from ⟨by omega, by omega⟩)
        have hFx10_ : ai_fr (sx_W vw_356) S0_ (sm_aI S_ 173 0 (vx8_ / 2).toNat 1) := ai_fr_tr hF_ (ai_fr_aI rfl)
        refine sm_T_inc (a := 2) (z := 1) (v := k_) (w := k_ + 1) rfl rfl (by omega) (by omega) (by omega) ?_
        refine sm_T_go 1 (c1 := (25, [some (.inr (.inr (some (13, 0)))), some (.inl o_), some (.inl (k_ + 1)), none], [], sm_aI S_ 173 0 (vx8_ / 2).toNat 1)) rfl ?_
        refine ih_.2.1 (k_ + 1) (sm_aI S_ 173 0 (vx8_ / 2).toNat 1) hIx9_ hFx10_ ⟨?_, trivial⟩ ?_
        · omega
        · omega
    · rintro k_ S_ hI_ hF_ ⟨h0_, -⟩ hm_
      have g1_ := hg_.1
      have g2_ := hg_.2.1
      have e37_ : S_.1 13 0 37 = S0_.1 13 0 37 := hF_.1 13 0 37 rfl
      have e38_ : S_.1 13 0 38 = S0_.1 13 0 38 := hF_.1 13 0 38 rfl
      have e53_ : S_.1 13 0 53 = S0_.1 13 0 53 := hF_.1 13 0 53 rfl
      have f40_ : S_.2.2.1 140 0 = S0_.2.2.1 140 0 := fr_arr hF_ rfl
      have f41_ : S_.2.2.1 141 0 = S0_.2.2.1 141 0 := fr_arr hF_ rfl
      have r1_ := hr_.1
      have r2_ := hr_.2.1
      have f75_ : S_.2.2.1 175 0 = S0_.2.2.1 175 0 := fr_arr hF_ rfl
      have f51_ : S_.2.2.1 151 0 = S0_.2.2.1 151 0 := fr_arr hF_ rfl
      have f72_ : S_.2.2.1 172 0 = S0_.2.2.1 172 0 := fr_arr hF_ rfl
      have n13_ : S0_.1 13 0 37 ≤ 1013 := by omega
      have bx1_ : 0 ≤ S_.1 13 0 53 ∧ S_.1 13 0 53 ≤ 6 := hI_.1 13 0 53 rfl
      refine sm_T_go 3 (c1 := (61, [some (.inr (.inr (some (13, 0)))), some (.inl o_), some (.inl k_), none], [.inl (S_.1 13 0 53), .inl k_], S_)) rfl ?_
      refine sm_T_br (a := 3) (z := 27) rfl (fun cx2_ => ?_) (fun cx2_ => ?_)
      · have cx2_ : (S_.1 13 0 53) ≤ k_ := of_decide_eq_true cx2_
        have bx3_ : 0 ≤ S_.1 13 0 37 ∧ S_.1 13 0 37 ≤ 1014 := hI_.1 13 0 37 rfl
        refine sm_T_go 5 (c1 := (95, [some (.inr (.inr (some (13, 0)))), some (.inl o_), some (.inl 0), none], [.inl 1, .inl (S_.1 13 0 37)], S_)) rfl ?_
        refine sm_T_bin (w := (S_.1 13 0 37) - 1) rfl (bi_sub (by omega) (by omega) (by omega)) ?_
        refine sm_T_go 1 (c1 := (97, [some (.inr (.inr (some (13, 0)))), some (.inl o_), some (.inl 0), some (.inl ((S_.1 13 0 37) - 1))], [], S_)) rfl ?_
        refine ih_.2.2.2 0 ((S_.1 13 0 37) - 1) S_ hI_ hF_ ⟨?_, trivial⟩ ?_
        · omega
        · omega
      · have cx2_ : ¬ ((S_.1 13 0 53) ≤ k_) := of_decide_eq_false cx2_
        have ro_ := hr_.2.2.2 k_.toNat (by omega)
        rw [← f51_] at ro_
        refine sm_T_go 6 (c1 := (74, [some (.inr (.inr (some (13, 0)))), some (.inl o_), some (.inl k_), none], [.inl k_, .inr (.inr (some (151, 0))), .inr (.inr (some (13, 0))), .inr (.inr (some (173, 0)))], S_)) rfl ?_
        refine sm_T_iald (n := 1024) rfl rfl (by omega) (by omega) ?_
        have bx4_ : 0 ≤ S_.2.2.1 151 0 k_.toNat ∧ S_.2.2.1 151 0 k_.toNat ≤ 2047 := hI_.2 151 0 _
        refine sm_T_cal (d1 := 0) (Q1 := vq_355 (S_.2.2.1 151 0 k_.toNat) S_) rfl rfl (by decide) (vc_355 (S_.2.2.1 151 0 k_.toNat) S_ hI_ (by omega)) (fun u_ Sx5_ px8_ => ?_)
        obtain ⟨rfl, vx10_, rfl, px8_⟩ := px8_
        have e75_ := px8_
        rw [f51_] at ro_
        rw [f72_, f51_] at e75_
        have sw75_ := rsl_n hs_ (l_ := S0_.2.2.1 151 0 k_.toNat) (by omega) (by omega) n13_
        rw [← e75_] at sw75_
        refine sm_T_go 1 (c1 := (79, [some (.inr (.inr (some (13, 0)))), some (.inl o_), some (.inl k_), none], [.inl 1, .inl vx10_, .inr (.inr (some (173, 0)))], S_)) rfl ?_
        refine sm_T_bin (w := (vx10_ / 2)) rfl (bi_shr (k := 1) (by decide) (by omega) (by omega)) ?_
        refine sm_T_go 1 (c1 := (81, [some (.inr (.inr (some (13, 0)))), some (.inl o_), some (.inl k_), none], [.inl 1, .inl (vx10_ / 2), .inr (.inr (some (173, 0)))], S_)) rfl ?_
        refine sm_T_zas1 (n := 2048) rfl rfl (by omega) (by omega) (by omega) ?_
        have hIx11_ : gi (sm_aI S_ 173 0 (vx10_ / 2).toNat 1) := gi_aI hI_ (show 0 ≤ 1 ∧ 1 ≤ 1 from ⟨by omega, by omega⟩)
        have hFx12_ : ai_fr (sx_W vw_356) S0_ (sm_aI S_ 173 0 (vx10_ / 2).toNat 1) := ai_fr_tr hF_ (ai_fr_aI rfl)
        refine sm_T_inc (a := 2) (z := 1) (v := k_) (w := k_ + 1) rfl rfl (by omega) (by omega) (by omega) ?_
        refine sm_T_go 1 (c1 := (56, [some (.inr (.inr (some (13, 0)))), some (.inl o_), some (.inl (k_ + 1)), none], [], sm_aI S_ 173 0 (vx10_ / 2).toNat 1)) rfl ?_
        refine ih_.2.2.1 (k_ + 1) (sm_aI S_ 173 0 (vx10_ / 2).toNat 1) hIx11_ hFx12_ ⟨?_, trivial⟩ ?_
        · omega
        · omega
    · rintro c_ n_ S_ hI_ hF_ ⟨h0_, -⟩ hm_
      have g1_ := hg_.1
      have g2_ := hg_.2.1
      have e37_ : S_.1 13 0 37 = S0_.1 13 0 37 := hF_.1 13 0 37 rfl
      have e38_ : S_.1 13 0 38 = S0_.1 13 0 38 := hF_.1 13 0 38 rfl
      have e53_ : S_.1 13 0 53 = S0_.1 13 0 53 := hF_.1 13 0 53 rfl
      have f40_ : S_.2.2.1 140 0 = S0_.2.2.1 140 0 := fr_arr hF_ rfl
      have f41_ : S_.2.2.1 141 0 = S0_.2.2.1 141 0 := fr_arr hF_ rfl
      have r1_ := hr_.1
      have r2_ := hr_.2.1
      have f75_ : S_.2.2.1 175 0 = S0_.2.2.1 175 0 := fr_arr hF_ rfl
      have f51_ : S_.2.2.1 151 0 = S0_.2.2.1 151 0 := fr_arr hF_ rfl
      have f72_ : S_.2.2.1 172 0 = S0_.2.2.1 172 0 := fr_arr hF_ rfl
      have n13_ : S0_.1 13 0 37 ≤ 1013 := by omega
      have bx1_ : 0 ≤ S_.1 13 0 38 ∧ S_.1 13 0 38 ≤ 19 := hI_.1 13 0 38 rfl
      refine sm_T_go 3 (c1 := (102, [some (.inr (.inr (some (13, 0)))), some (.inl o_), some (.inl c_), some (.inl n_)], [.inl (S_.1 13 0 38), .inl n_], S_)) rfl ?_
      refine sm_T_br (a := 2) (z := 57) rfl (fun cx2_ => ?_) (fun cx2_ => ?_)
      · have cx2_ : n_ < (S_.1 13 0 38) := of_decide_eq_true cx2_
        refine sm_T_go 1 (c1 := (160, [some (.inr (.inr (some (13, 0)))), some (.inl o_), some (.inl c_), some (.inl n_)], [.inl c_], S_)) rfl ?_
        refine sm_T_ri rfl ⟨_, _, rfl, _, rfl, hI_, hF_, ?_⟩
        omega
      · have cx2_ : ¬ (n_ < (S_.1 13 0 38)) := of_decide_eq_false cx2_
        have gn_ := hg_.2.2 n_.toNat (by omega) (by omega)
        rw [← f40_, ← f41_] at gn_
        refine sm_T_go 3 (c1 := (110, [some (.inr (.inr (some (13, 0)))), some (.inl o_), some (.inl c_), some (.inl n_)], [.inl n_, .inr (.inr (some (173, 0)))], S_)) rfl ?_
        refine sm_T_zald (n := 2048) rfl rfl (by omega) (by omega) ?_
        have bx3_ : 0 ≤ S_.2.2.1 173 0 n_.toNat ∧ S_.2.2.1 173 0 n_.toNat ≤ 1 := hI_.2 173 0 _
        refine sm_T_b0 (a := 0) (z := 42) rfl (fun cx4_ => ?_) (fun cx4_ => ?_)
        · have cx4_ : (S_.2.2.1 173 0 n_.toNat) = 0 := of_decide_eq_true cx4_
          refine sm_T_inc (a := 3) (z := (-1)) (v := n_) (w := n_ - 1) rfl rfl (by omega) (by omega) (by omega) ?_
          refine sm_T_go 1 (c1 := (97, [some (.inr (.inr (some (13, 0)))), some (.inl o_), some (.inl c_), some (.inl (n_ - 1))], [], S_)) rfl ?_
          refine ih_.2.2.2 c_ (n_ - 1) S_ hI_ hF_ ⟨?_, trivial⟩ ?_
          · omega
          · omega
        · have cx4_ : ¬ ((S_.2.2.1 173 0 n_.toNat) = 0) := of_decide_eq_false cx4_
          refine sm_T_inc (a := 2) (z := 1) (v := c_) (w := c_ + 1) rfl rfl (by omega) (by omega) (by omega) ?_
          refine sm_T_go 6 (c1 := (127, [some (.inr (.inr (some (13, 0)))), some (.inl o_), some (.inl (c_ + 1)), some (.inl n_)], [.inl n_, .inr (.inr (some (140, 0))), .inr (.inr (some (13, 0))), .inr (.inr (some (173, 0)))], S_)) rfl ?_
          refine sm_T_iald (n := 2048) rfl rfl (by omega) (by omega) ?_
          have bx5_ : 0 ≤ S_.2.2.1 140 0 n_.toNat ∧ S_.2.2.1 140 0 n_.toNat ≤ 2047 := hI_.2 140 0 _
          refine sm_T_cal (d1 := 0) (Q1 := vq_355 (S_.2.2.1 140 0 n_.toNat) S_) rfl rfl (by decide) (vc_355 (S_.2.2.1 140 0 n_.toNat) S_ hI_ (by omega)) (fun u_ Sx6_ px9_ => ?_)
          obtain ⟨rfl, vx11_, rfl, px9_⟩ := px9_
          have e128_ := px9_
          rw [f40_, f41_] at gn_
          rw [f72_, f40_] at e128_
          have sw128_ := rsl_n hs_ (l_ := S0_.2.2.1 140 0 n_.toNat) (by omega) (by omega) n13_
          rw [← e128_] at sw128_
          refine sm_T_go 1 (c1 := (132, [some (.inr (.inr (some (13, 0)))), some (.inl o_), some (.inl (c_ + 1)), some (.inl n_)], [.inl 1, .inl vx11_, .inr (.inr (some (173, 0)))], S_)) rfl ?_
          refine sm_T_bin (w := (vx11_ / 2)) rfl (bi_shr (k := 1) (by decide) (by omega) (by omega)) ?_
          refine sm_T_go 1 (c1 := (134, [some (.inr (.inr (some (13, 0)))), some (.inl o_), some (.inl (c_ + 1)), some (.inl n_)], [.inl 1, .inl (vx11_ / 2), .inr (.inr (some (173, 0)))], S_)) rfl ?_
          refine sm_T_zas1 (n := 2048) rfl rfl (by omega) (by omega) (by omega) ?_
          have hIx12_ : gi (sm_aI S_ 173 0 (vx11_ / 2).toNat 1) := gi_aI hI_ (show 0 ≤ 1 ∧ 1 ≤ 1 from ⟨by omega, by omega⟩)
          have hFx13_ : ai_fr (sx_W vw_356) S0_ (sm_aI S_ 173 0 (vx11_ / 2).toNat 1) := ai_fr_tr hF_ (ai_fr_aI rfl)
          refine sm_T_go 6 (c1 := (145, [some (.inr (.inr (some (13, 0)))), some (.inl o_), some (.inl (c_ + 1)), some (.inl n_)], [.inl n_, .inr (.inr (some (141, 0))), .inr (.inr (some (13, 0))), .inr (.inr (some (173, 0)))], sm_aI S_ 173 0 (vx11_ / 2).toNat 1)) rfl ?_
          refine sm_T_iald (n := 2048) rfl rfl (by omega) (by omega) ?_
          have bx14_ : 0 ≤ S_.2.2.1 141 0 n_.toNat ∧ S_.2.2.1 141 0 n_.toNat ≤ 2047 := hI_.2 141 0 _
          refine sm_T_go 0 (c1 := (146, [some (.inr (.inr (some (13, 0)))), some (.inl o_), some (.inl (c_ + 1)), some (.inl n_)], [.inl (S_.2.2.1 141 0 n_.toNat), .inr (.inr (some (13, 0))), .inr (.inr (some (173, 0)))], sm_aI S_ 173 0 (vx11_ / 2).toNat 1)) rfl ?_
          refine sm_T_cal (d1 := 0) (Q1 := vq_355 (S_.2.2.1 141 0 n_.toNat) (sm_aI S_ 173 0 (vx11_ / 2).toNat 1)) rfl rfl (by decide) (vc_355 (S_.2.2.1 141 0 n_.toNat) (sm_aI S_ 173 0 (vx11_ / 2).toNat 1) hIx12_ (by (rw [f41_]; omega))) (fun u_ Sx15_ px18_ => ?_)
          obtain ⟨rfl, vx20_, rfl, px18_⟩ := px18_
          have e146_ := px18_
          simp only [rd_ne, ne_eq, Nat.reduceEqDiff, not_false_eq_true] at e146_
          rw [f72_, f41_] at e146_
          have sw146_ := rsl_n hs_ (l_ := S0_.2.2.1 141 0 n_.toNat) (by omega) (by omega) n13_
          rw [← e146_] at sw146_
          refine sm_T_go 1 (c1 := (150, [some (.inr (.inr (some (13, 0)))), some (.inl o_), some (.inl (c_ + 1)), some (.inl n_)], [.inl 1, .inl vx20_, .inr (.inr (some (173, 0)))], sm_aI S_ 173 0 (vx11_ / 2).toNat 1)) rfl ?_
          refine sm_T_bin (w := (vx20_ / 2)) rfl (bi_shr (k := 1) (by decide) (by omega) (by omega)) ?_
          refine sm_T_go 1 (c1 := (152, [some (.inr (.inr (some (13, 0)))), some (.inl o_), some (.inl (c_ + 1)), some (.inl n_)], [.inl 1, .inl (vx20_ / 2), .inr (.inr (some (173, 0)))], sm_aI S_ 173 0 (vx11_ / 2).toNat 1)) rfl ?_
          refine sm_T_zas1 (n := 2048) rfl rfl (by omega) (by omega) (by omega) ?_
          have hIx21_ : gi (sm_aI (sm_aI S_ 173 0 (vx11_ / 2).toNat 1) 173 0 (vx20_ / 2).toNat 1) := gi_aI hIx12_ (show 0 ≤ 1 ∧ 1 ≤ 1 from ⟨by omega, by omega⟩)
          have hFx22_ : ai_fr (sx_W vw_356) S0_ (sm_aI (sm_aI S_ 173 0 (vx11_ / 2).toNat 1) 173 0 (vx20_ / 2).toNat 1) := ai_fr_tr hFx13_ (ai_fr_aI rfl)
          refine sm_T_inc (a := 3) (z := (-1)) (v := n_) (w := n_ - 1) rfl rfl (by omega) (by omega) (by omega) ?_
          refine sm_T_go 1 (c1 := (97, [some (.inr (.inr (some (13, 0)))), some (.inl o_), some (.inl (c_ + 1)), some (.inl (n_ - 1))], [], sm_aI (sm_aI S_ 173 0 (vx11_ / 2).toNat 1) 173 0 (vx20_ / 2).toNat 1)) rfl ?_
          refine ih_.2.2.2 (c_ + 1) (n_ - 1) (sm_aI (sm_aI S_ 173 0 (vx11_ / 2).toNat 1) 173 0 (vx20_ / 2).toNat 1) hIx21_ hFx22_ ⟨?_, trivial⟩ ?_
          · omega
          · omega
set_option maxHeartbeats 1500000 in
theorem vc_356 {sc_ : Nat × (Nat → Int)} (o_ : Int) (F_ : Nat) (S0_ : sm_S) (hI_ : gi S0_) (hg_ : rgr F_ S0_) (hr_ : rrt o_ S0_) (hs_ : rsw F_ S0_) : sm_T (mt_P sc_) 1 356 (0, [some (.inr (.inr (some (13, 0)))), some (.inl o_), none, none], [], S0_) (fun ro9_ => ∃ u_ S1_, ro9_ = (.inl u_, S1_, 0) ∧ vq_356 o_ F_ S0_ u_ S1_) := by
  have hF_ : ai_fr (sx_W vw_356) S0_ S0_ := ai_fr_rf
  refine sm_T_go 2 (c1 := (2, [some (.inr (.inr (some (13, 0)))), some (.inl o_), some (.inl 0), none], [], S0_)) rfl ?_
  refine (vl_356 o_ F_ S0_ hg_ hr_ hs_ _).1 0 S0_ hI_ hF_ ⟨?_, trivial⟩ (Nat.lt_succ_self _)
  · (have g1_ := hg_.1; have g2_ := hg_.2.1; omega)
