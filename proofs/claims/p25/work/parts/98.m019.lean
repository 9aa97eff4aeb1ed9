/-! 99.zi3c -/
section
/-! M_.sweptLiteral -/
def vw_355 : sx_Wl := ([], [], [])
def vq_355 (l_ : Int) (S0_ : sm_S) (u_ : Option sm_V) (S1_ : sm_S) : Prop := S0_ = S1_ ∧ ∃ v_ : Int, u_ = some (.inl v_) ∧ (v_ = i_xor (S0_.2.2.1 172 0 (l_ / 2).toNat) (l_ % 2))
set_option maxHeartbeats 400000 in
theorem vc_355 {sc_ : Nat × (Nat → Int)} (l_ : Int) (S0_ : sm_S) (hI_ : gi S0_) (hl_ : 0 ≤ l_ ∧ l_ ≤ 2047) : sm_T (mt_P sc_) 0 355 (0, [some (.inr (.inr (some (13, 0)))), some (.inl l_)], [], S0_) (fun ro9_ => ∃ u_ S1_, ro9_ = (.inl u_, S1_, 0) ∧ vq_355 l_ S0_ u_ S1_) := by
  have hF_ : ai_fr (sx_W vw_355) S0_ S0_ := ai_fr_rf
  refine sm_T_go 4 (c1 := (6, [some (.inr (.inr (some (13, 0)))), some (.inl l_)], [.inl 1, .inl l_, .inr (.inr (some (172, 0)))], S0_)) rfl ?_
  refine sm_T_bin (w := (l_ / 2)) rfl (bi_shr (k := 1) (by decide) (by omega) (by omega)) ?_
  refine sm_T_iald (n := 2048) rfl rfl (by omega) (by omega) ?_
  have bx1_ : 0 ≤ S0_.2.2.1 172 0 (l_ / 2).toNat ∧ S0_.2.2.1 172 0 (l_ / 2).toNat ≤ 2025 := hI_.2 172 0 _
  refine sm_T_go 2 (c1 := (10, [some (.inr (.inr (some (13, 0)))), some (.inl l_)], [.inl 1, .inl l_, .inl (S0_.2.2.1 172 0 (l_ / 2).toNat)], S0_)) rfl ?_
  refine sm_T_bin (w := (l_ % 2)) rfl (bi_msk (k := 1) (by decide)) ?_
  refine sm_T_bin (w := (i_xor (S0_.2.2.1 172 0 (l_ / 2).toNat) (l_ % 2))) rfl rfl ?_
  refine sm_T_ri rfl ⟨_, _, rfl, rfl, _, rfl, ?_⟩
  omega
end
/-! 99.zi3d -/
section
/-! M_.countNeeded -/
def vw_356 : sx_Wl := ([], [173], [])
def vq_356 (o_ : Int) (F_ : Nat) (S0_ : sm_S) (u_ : Option sm_V) (S1_ : sm_S) : Prop := ∃ v_ : Int, u_ = some (.inl v_) ∧ gi S1_ ∧ ai_fr (sx_W vw_356) S0_ S1_ ∧ (0 ≤ v_ ∧ v_ ≤ 1000)
set_option maxHeartbeats 1500000 in
theorem vl_356 {sc_ : Nat × (Nat → Int)} (o_ : Int) (F_ : Nat) (S0_ : sm_S) (hg_ : rgr F_ S0_) (hr_ : rrt o_ S0_) (hs_ : rsw F_ S0_) : ∀ nn_ : Nat, (∀ (k_ : Int) (S_ : sm_S), gi S_ → ai_fr (sx_W vw_356) S0_ S_ → ((0 ≤ k_ ∧ k_ ≤ S0_.1 13 0 37) ∧ True) → ((9000 - k_).toNat) < nn_ → sm_T (mt_P sc_) 1 356 (2, [some (.inr (.inr (some (13, 0)))), some (.inl o_), some (.inl k_), none], [], S_) (fun ro9_ => ∃ u_ S1_, ro9_ = (.inl u_, S1_, 0) ∧ vq_356 o_ F_ S0_ u_ S1_)) ∧ (∀ (k_ : Int) (S_ : sm_S), gi S_ → ai_fr (sx_W vw_356) S0_ S_ → ((0 ≤ k_ ∧ k_ ≤ 16) ∧ True) → ((5000 - k_).toNat) < nn_ → sm_T (mt_P sc_) 1 356 (25, [some (.inr (.inr (some (13, 0)))), some (.inl o_), some (.inl k_), none], [], S_) (fun ro9_ => ∃ u_ S1_, ro9_ = (.inl u_, S1_, 0) ∧ vq_356 o_ F_ S0_ u_ S1_)) ∧ (∀ (k_ : Int) (S_ : sm_S), gi S_ → ai_fr (sx_W vw_356) S0_ S_ → ((0 ≤ k_ ∧ k_ ≤ 6) ∧ True) → ((4000 - k_).toNat) < nn_ → sm_T (mt_P sc_) 1 356 (56, [some (.inr (.inr (some (13, 0)))), some (.inl o_), some (.inl k_), none], [], S_) (fun ro9_ => ∃ u_ S1_, ro9_ = (.inl u_, S1_, 0) ∧ vq_356 o_ F_ S0_ u_ S1_)) ∧ (∀ (c_ : Int) (n_ : Int) (S_ : sm_S), gi S_ → ai_fr (sx_W vw_356) S0_ S_ → (((F_ : Int) - 1 ≤ n_ ∧ n_ < S0_.1 13 0 37 ∧ 0 ≤ c_ ∧ c_ ≤ S0_.1 13 0 37 - 1 - n_) ∧ True) → ((n_ + 1).toNat) < nn_ → sm_T (mt_P sc_) 1 356 (97, [some (.inr (.inr (some (13, 0)))), some (.inl o_), some (.inl c_), some (.inl n_)], [], S_) (fun ro9_ => ∃ u_ S1_, ro9_ = (.inl u_, S1_, 0) ∧ vq_356 o_ F_ S0_ u_ S1_)) := by
  intro nn_
  induction nn_ with
  | zero => exact ⟨fun _ _ _ _ _ h_ => absurd h_ (Nat.not_lt_zero _), fun _ _ _ _ _ h_ => absurd h_ (Nat.not_lt_zero _), fun _ _ _ _ _ h_ => absurd h_ (Nat.not_lt_zero _), fun _ _ _ _ _ _ h_ => absurd h_ (Nat.not_lt_zero _)⟩
  | succ nn_ ih_ =>
    refine ⟨?_, ?_, ?_, ?_⟩
    · rintro k_ S_ hI_ hF_ ⟨h0_, -⟩ hm_
      have g1_ := hg_.1
      have g2_ := hg_.2.1
      have e37_ : S_.1 13 0 37 = S0_.1 13 0 37 := hF_.1 13 0 37 rfl
      have e38_ : S_.1 13 0 38 = S0_.1 13 0 38 := hF_.1 13 0 38 rfl
      have e53_ : S_.1 13 0 53 = S0_.1 13 0 53 := hF_.1 13 0 53 rfl
      have f40_ : S_.2.2.1 140 0 = S0_.2.2.1 140 0 := fr_arr hF_ rfl
      have f41_ : S_.2.2.1 141 0 = S0_.2.2.1 141 0 := fr_arr hF_ rfl
      have r1_ := hr_.1
      have r2_ := hr_.2.1
      have f75_ : S_.2.2.1 175 0 = S0_.2.2.1 175 0 := fr_arr hF_ rfl
      have f51_ : S_.2.2.1 151 0 = S0_.2.2.1 151 0 := fr_arr hF_ rfl
      have f72_ : S_.2.2.1 172 0 = S0_.2.2.1 172 0 := fr_arr hF_ rfl
      have n13_ : S0_.1 13 0 37 ≤ 1013 := by omega
      have bx1_ : 0 ≤ S_.1 13 0 37 ∧ S_.1 13 0 37 ≤ 1014 := hI_.1 13 0 37 rfl
      refine sm_T_go 3 (c1 := (7, [some (.inr (.inr (some (13, 0)))), some (.inl o_), some (.inl k_), none], [.inl (S_.1 13 0 37), .inl k_], S_)) rfl ?_
      refine sm_T_br (a := 3) (z := 16) rfl (fun cx2_ => ?_) (fun cx2_ => ?_)
      · have cx2_ : (S_.1 13 0 37) ≤ k_ := of_decide_eq_true cx2_
        refine sm_T_go 2 (c1 := (25, [some (.inr (.inr (some (13, 0)))), some (.inl o_), some (.inl 0), none], [], S_)) rfl ?_
        refine ih_.2.1 0 S_ hI_ hF_ ⟨?_, trivial⟩ ?_
        · omega
        · omega
      · have cx2_ : ¬ ((S_.1 13 0 37) ≤ k_) := of_decide_eq_false cx2_
        refine sm_T_go 4 (c1 := (16, [some (.inr (.inr (some (13, 0)))), some (.inl o_), some (.inl k_), none], [.inl 0, .inl k_, .inr (.inr (some (173, 0)))], S_)) rfl ?_
        refine sm_T_zas1 (n := 2048) rfl rfl (by omega) (by omega) (by omega) ?_
        have hIx3_ : gi (sm_aI S_ 173 0 k_.toNat 0) := gi_aI hI_ (show 0 ≤ 0 ∧ 0 ≤ 1 from ⟨by omega, by omega⟩)
        have hFx4_ : ai_fr (sx_W vw_356) S0_ (sm_aI S_ 173 0 k_.toNat 0) := ai_fr_tr hF_ (ai_fr_aI rfl)
        refine sm_T_inc (a := 2) (z := 1) (v := k_) (w := k_ + 1) rfl rfl (by omega) (by omega) (by omega) ?_
        refine sm_T_go 1 (c1 := (2, [some (.inr (.inr (some (13, 0)))), some (.inl o_), some (.inl (k_ + 1)), none], [], sm_aI S_ 173 0 k_.toNat 0)) rfl ?_
        refine ih_.1 (k_ + 1) (sm_aI S_ 173 0 k_.toNat 0) hIx3_ hFx4_ ⟨?_, trivial⟩ ?_
        · omega
        · omega
    · rintro k_ S_ hI_ hF_ ⟨h0_, -⟩ hm_
      have g1_ := hg_.1
      have g2_ := hg_.2.1
      have e37_ : S_.1 13 0 37 = S0_.1 13 0 37 := hF_.1 13 0 37 rfl
      have e38_ : S_.1 13 0 38 = S0_.1 13 0 38 := hF_.1 13 0 38 rfl
      have e53_ : S_.1 13 0 53 = S0_.1 13 0 53 := hF_.1 13 0 53 rfl
      have f40_ : S_.2.2.1 140 0 = S0_.2.2.1 140 0 := fr_arr hF_ rfl
      have f41_ : S_.2.2.1 141 0 = S0_.2.2.1 141 0 := fr_arr hF_ rfl
      have r1_ := hr_.1
      have r2_ := hr_.2.1
      have f75_ : S_.2.2.1 175 0 = S0_.2.2.1 175 0 := fr_arr hF_ rfl
      have f51_ : S_.2.2.1 151 0 = S0_.2.2.1 151 0 := fr_arr hF_ rfl
      have f72_ : S_.2.2.1 172 0 = S0_.2.2.1 172 0 := fr_arr hF_ rfl
      have n13_ : S0_.1 13 0 37 ≤ 1013 := by omega
      refine sm_T_go 2 (c1 := (27, [some (.inr (.inr (some (13, 0)))), some (.inl o_), some (.inl k_), none], [.inl o_, .inl k_], S_)) rfl ?_
      refine sm_T_br (a := 3) (z := 27) rfl (fun cx1_ => ?_) (fun cx1_ => ?_)
      · have cx1_ : o_ ≤ k_ := of_decide_eq_true cx1_
        refine sm_T_go 2 (c1 := (56, [some (.inr (.inr (some (13, 0)))), some (.inl o_), some (.inl 0), none], [], S_)) rfl ?_
        refine ih_.2.2.1 0 S_ hI_ hF_ ⟨?_, trivial⟩ ?_
        · omega
        · omega
      · have cx1_ : ¬ (o_ ≤ k_) := of_decide_eq_false cx1_
        have ro_ := hr_.2.2.1 k_.toNat (by omega)
        rw [← f75_] at ro_
        refine sm_T_go 6 (c1 := (40, [some (.inr (.inr (some (13, 0)))), some (.inl o_), some (.inl k_), none], [.inl k_, .inr (.inr (some (175, 0))), .inr (.inr (some (13, 0))), .inr (.inr (some (173, 0)))], S_)) rfl ?_
        refine sm_T_iald (n := 16) rfl rfl (by omega) (by omega) ?_
        have bx2_ : 0 ≤ S_.2.2.1 175 0 k_.toNat ∧ S_.2.2.1 175 0 k_.toNat ≤ 2047 := hI_.2 175 0 _
        refine sm_T_cal (d1 := 0) (Q1 := vq_355 (S_.2.2.1 175 0 k_.toNat) S_) rfl rfl (by decide) (vc_355 (S_.2.2.1 175 0 k_.toNat) S_ hI_ (by omega)) (fun u_ Sx3_ px6_ => ?_)
        obtain ⟨rfl, vx8_, rfl, px6_⟩ := px6_
        have e41_ := px6_
        rw [f75_] at ro_
        rw [f72_, f75_] at e41_
        have sw41_ := rsl_n hs_ (l_ := S0_.2.2.1 175 0 k_.toNat) (by omega) (by omega) n13_
        rw [← e41_] at sw41_
        refine sm_T_go 1 (c1 := (45, [some (.inr (.inr (some (13, 0)))), some (.inl o_), some (.inl k_), none], [.inl 1, .inl vx8_, .inr (.inr (some (173, 0)))], S_)) rfl ?_
        refine sm_T_bin (w := (vx8_ / 2)) rfl (bi_shr (k := 1) (by decide) (by omega) (by omega)) ?_
        refine sm_T_go 1 (c1 := (47, [some (.inr (.inr (some (13, 0)))), some (.inl o_), some (.inl k_), none], [.inl 1, .inl (vx8_ / 2), .inr (.inr (some (173, 0)))], S_)) rfl ?_
        refine sm_T_zas1 (n := 2048) rfl rfl (by omega) (by omega) (by omega) ?_
        have hIx9_ : gi (sm_aI S_ 173 0 (vx8_ / 2).toNat 1) := gi_aI hI_ (show 0 ≤ 1 ∧ 1 ≤ 1 from ⟨by omega, by omega⟩)
        have hFx10_ : ai_fr (sx_W vw_356) S0_ (sm_aI S_ 173 0 (vx8_ / 2).toNat 1) := ai_fr_tr hF_ (ai_fr_aI rfl)
        refine sm_T_inc (a := 2) (z := 1) (v := k_) (w := k_ + 1) rfl rfl (by omega) (by omega) (by omega) ?_
        refine sm_T_go 1 (c1 := (25, [some (.inr (.inr (some (13, 0)))), some (.inl o_), some (.inl (k_ + 1)), none], [], sm_aI S_ 173 0 (vx8_ / 2).toNat 1)) rfl ?_
        refine ih_.2.1 (k_ + 1) (sm_aI S_ 173 0 (vx8_ / 2).toNat 1) hIx9_ hFx10_ ⟨?_, trivial⟩ ?_
        · omega
        · omega
    · rintro k_ S_ hI_ hF_ ⟨h0_, -⟩ hm_
      have g1_ := hg_.1
      have g2_ := hg_.2.1
      have e37_ : S_.1 13 0 37 = S0_.1 13 0 37 := hF_.1 13 0 37 rfl
      have e38_ : S_.1 13 0 38 = S0_.1 13 0 38 := hF_.1 13 0 38 rfl
      have e53_ : S_.1 13 0 53 = S0_.1 13 0 53 := hF_.1 13 0 53 rfl
      have f40_ : S_.2.2.1 140 0 = S0_.2.2.1 140 0 := fr_arr hF_ rfl
      have f41_ : S_.2.2.1 141 0 = S0_.2.2.1 141 0 := fr_arr hF_ rfl
      have r1_ := hr_.1
      have r2_ := hr_.2.1
      have f75_ : S_.2.2.1 175 0 = S0_.2.2.1 175 0 := fr_arr hF_ rfl
      have f51_ : S_.2.2.1 151 0 = S0_.2.2.1 151 0 := fr_arr hF_ rfl
      have f72_ : S_.2.2.1 172 0 = S0_.2.2.1 172 0 := fr_arr hF_ rfl
      have n13_ : S0_.1 13 0 37 ≤ 1013 := by omega
      have bx1_ : 0 ≤ S_.1 13 0 53 ∧ S_.1 13 0 53 ≤ 6 := hI_.1 13 0 53 rfl
      refine sm_T_go 3 (c1 := (61, [some (.inr (.inr (some (13, 0)))), some (.inl o_), some (.inl k_), none], [.inl (S_.1 13 0 53), .inl k_], S_)) rfl ?_
      refine sm_T_br (a := 3) (z := 27) rfl (fun cx2_ => ?_) (fun cx2_ => ?_)
      · have cx2_ : (S_.1 13 0 53) ≤ k_ := of_decide_eq_true cx2_
        have bx3_ : 0 ≤ S_.1 13 0 37 ∧ S_.1 13 0 37 ≤ 1014 := hI_.1 13 0 37 rfl
        refine sm_T_go 5 (c1 := (95, [some (.inr (.inr (some (13, 0)))), some (.inl o_), some (.inl 0), none], [.inl 1, .inl (S_.1 13 0 37)], S_)) rfl ?_
        refine sm_T_bin (w := (S_.1 13 0 37) - 1) rfl (bi_sub (by omega) (by omega) (by omega)) ?_
        refine sm_T_go 1 (c1 := (97, [some (.inr (.inr (some (13, 0)))), some (.inl o_), some (.inl 0), some (.inl ((S_.1 13 0 37) - 1))], [], S_)) rfl ?_
        refine ih_.2.2.2 0 ((S_.1 13 0 37) - 1) S_ hI_ hF_ ⟨?_, trivial⟩ ?_
        · omega
        · omega
      · have cx2_ : ¬ ((S_.1 13 0 53) ≤ k_) := of_decide_eq_false cx2_
        have ro_ := hr_.2.2.2 k_.toNat (by omega)
        rw [← f51_] at ro_
        refine sm_T_go 6 (c1 := (74, [some (.inr (.inr (some (13, 0)))), some (.inl o_), some (.inl k_), none], [.inl k_, .inr (.inr (some (151, 0))), .inr (.inr (some (13, 0))), .inr (.inr (some (173, 0)))], S_)) rfl ?_
        refine sm_T_iald (n := 1024) rfl rfl (by omega) (by omega) ?_
        have bx4_ : 0 ≤ S_.2.2.1 151 0 k_.toNat ∧ S_.2.2.1 151 0 k_.toNat ≤ 2047 := hI_.2 151 0 _
        refine sm_T_cal (d1 := 0) (Q1 := vq_355 (S_.2.2.1 151 0 k_.toNat) S_) rfl rfl (by decide) (vc_355 (S_.2.2.1 151 0 k_.toNat) S_ hI_ (by omega)) (fun u_ Sx5_ px8_ => ?_)
        obtain ⟨rfl, vx10_, rfl, px8_⟩ := px8_
        have e75_ := px8_
        rw [f51_] at ro_
        rw [f72_, f51_] at e75_
        have sw75_ := rsl_n hs_ (l_ := S0_.2.2.1 151 0 k_.toNat) (by omega) (by omega) n13_
        rw [← e75_] at sw75_
        refine sm_T_go 1 (c1 := (79, [some (.inr (.inr (some (13, 0)))), some (.inl o_), some (.inl k_), none], [.inl 1, .inl vx10_, .inr (.inr (some (173, 0)))], S_)) rfl ?_
        refine sm_T_bin (w := (vx10_ / 2)) rfl (bi_shr (k := 1) (by decide) (by omega) (by omega)) ?_
        refine sm_T_go 1 (c1 := (81, [some (.inr (.inr (some (13, 0)))), some (.inl o_), some (.inl k_), none], [.inl 1, .inl (vx10_ / 2), .inr (.inr (some (173, 0)))], S_)) rfl ?_
        refine sm_T_zas1 (n := 2048) rfl rfl (by omega) (by omega) (by omega) ?_
        have hIx11_ : gi (sm_aI S_ 173 0 (vx10_ / 2).toNat 1) := gi_aI hI_ (show 0 ≤ 1 ∧ 1 ≤ 1 from ⟨by omega, by omega⟩)
        have hFx12_ : ai_fr (sx_W vw_356) S0_ (sm_aI S_ 173 0 (vx10_ / 2).toNat 1) := ai_fr_tr hF_ (ai_fr_aI rfl)
        refine sm_T_inc (a := 2) (z := 1) (v := k_) (w := k_ + 1) rfl rfl (by omega) (by omega) (by omega) ?_
        refine sm_T_go 1 (c1 := (56, [some (.inr (.inr (some (13, 0)))), some (.inl o_), some (.inl (k_ + 1)), none], [], sm_aI S_ 173 0 (vx10_ / 2).toNat 1)) rfl ?_
        refine ih_.2.2.1 (k_ + 1) (sm_aI S_ 173 0 (vx10_ / 2).toNat 1) hIx11_ hFx12_ ⟨?_, trivial⟩ ?_
        · omega
        · omega
    · rintro c_ n_ S_ hI_ hF_ ⟨h0_, -⟩ hm_
      have g1_ := hg_.1
      have g2_ := hg_.2.1
      have e37_ : S_.1 13 0 37 = S0_.1 13 0 37 := hF_.1 13 0 37 rfl
      have e38_ : S_.1 13 0 38 = S0_.1 13 0 38 := hF_.1 13 0 38 rfl
      have e53_ : S_.1 13 0 53 = S0_.1 13 0 53 := hF_.1 13 0 53 rfl
      have f40_ : S_.2.2.1 140 0 = S0_.2.2.1 140 0 := fr_arr hF_ rfl
      have f41_ : S_.2.2.1 141 0 = S0_.2.2.1 141 0 := fr_arr hF_ rfl
      have r1_ := hr_.1
      have r2_ := hr_.2.1
      have f75_ : S_.2.2.1 175 0 = S0_.2.2.1 175 0 := fr_arr hF_ rfl
      have f51_ : S_.2.2.1 151 0 = S0_.2.2.1 151 0 := fr_arr hF_ rfl
      have f72_ : S_.2.2.1 172 0 = S0_.2.2.1 172 0 := fr_arr hF_ rfl
      have n13_ : S0_.1 13 0 37 ≤ 1013 := by omega
      have bx1_ : 0 ≤ S_.1 13 0 38 ∧ S_.1 13 0 38 ≤ 19 := hI_.1 13 0 38 rfl
      refine sm_T_go 3 (c1 := (102, [some (.inr (.inr (some (13, 0)))), some (.inl o_), some (.inl c_), some (.inl n_)], [.inl (S_.1 13 0 38), .inl n_], S_)) rfl ?_
      refine sm_T_br (a := 2) (z := 57) rfl (fun cx2_ => ?_) (fun cx2_ => ?_)
      · have cx2_ : n_ < (S_.1 13 0 38) := of_decide_eq_true cx2_
        refine sm_T_go 1 (c1 := (160, [some (.inr (.inr (some (13, 0)))), some (.inl o_), some (.inl c_), some (.inl n_)], [.inl c_], S_)) rfl ?_
        refine sm_T_ri rfl ⟨_, _, rfl, _, rfl, hI_, hF_, ?_⟩
        omega
      · have cx2_ : ¬ (n_ < (S_.1 13 0 38)) := of_decide_eq_false cx2_
        have gn_ := hg_.2.2 n_.toNat (by omega) (by omega)
        rw [← f40_, ← f41_] at gn_
        refine sm_T_go 3 (c1 := (110, [some (.inr (.inr (some (13, 0)))), some (.inl o_), some (.inl c_), some (.inl n_)], [.inl n_, .inr (.inr (some (173, 0)))], S_)) rfl ?_
        refine sm_T_zald (n := 2048) rfl rfl (by omega) (by omega) ?_
        have bx3_ : 0 ≤ S_.2.2.1 173 0 n_.toNat ∧ S_.2.2.1 173 0 n_.toNat ≤ 1 := hI_.2 173 0 _
        refine sm_T_b0 (a := 0) (z := 42) rfl (fun cx4_ => ?_) (fun cx4_ => ?_)
        · have cx4_ : (S_.2.2.1 173 0 n_.toNat) = 0 := of_decide_eq_true cx4_
          refine sm_T_inc (a := 3) (z := (-1)) (v := n_) (w := n_ - 1) rfl rfl (by omega) (by omega) (by omega) ?_
          refine sm_T_go 1 (c1 := (97, [some (.inr (.inr (some (13, 0)))), some (.inl o_), some (.inl c_), some (.inl (n_ - 1))], [], S_)) rfl ?_
          refine ih_.2.2.2 c_ (n_ - 1) S_ hI_ hF_ ⟨?_, trivial⟩ ?_
          · omega
          · omega
        · have cx4_ : ¬ ((S_.2.2.1 173 0 n_.toNat) = 0) := of_decide_eq_false cx4_
          refine sm_T_inc (a := 2) (z := 1) (v := c_) (w := c_ + 1) rfl rfl (by omega) (by omega) (by omega) ?_
          refine sm_T_go 6 (c1 := (127, [some (.inr (.inr (some (13, 0)))), some (.inl o_), some (.inl (c_ + 1)), some (.inl n_)], [.inl n_, .inr (.inr (some (140, 0))), .inr (.inr (some (13, 0))), .inr (.inr (some (173, 0)))], S_)) rfl ?_
          refine sm_T_iald (n := 2048) rfl rfl (by omega) (by omega) ?_
          have bx5_ : 0 ≤ S_.2.2.1 140 0 n_.toNat ∧ S_.2.2.1 140 0 n_.toNat ≤ 2047 := hI_.2 140 0 _
          refine sm_T_cal (d1 := 0) (Q1 := vq_355 (S_.2.2.1 140 0 n_.toNat) S_) rfl rfl (by decide) (vc_355 (S_.2.2.1 140 0 n_.toNat) S_ hI_ (by omega)) (fun u_ Sx6_ px9_ => ?_)
          obtain ⟨rfl, vx11_, rfl, px9_⟩ := px9_
          have e128_ := px9_
          rw [f40_, f41_] at gn_
          rw [f72_, f40_] at e128_
          have sw128_ := rsl_n hs_ (l_ := S0_.2.2.1 140 0 n_.toNat) (by omega) (by omega) n13_
          rw [← e128_] at sw128_
          refine sm_T_go 1 (c1 := (132, [some (.inr (.inr (some (13, 0)))), some (.inl o_), some (.inl (c_ + 1)), some (.inl n_)], [.inl 1, .inl vx11_, .inr (.inr (some (173, 0)))], S_)) rfl ?_
          refine sm_T_bin (w := (vx11_ / 2)) rfl (bi_shr (k := 1) (by decide) (by omega) (by omega)) ?_
          refine sm_T_go 1 (c1 := (134, [some (.inr (.inr (some (13, 0)))), some (.inl o_), some (.inl (c_ + 1)), some (.inl n_)], [.inl 1, .inl (vx11_ / 2), .inr (.inr (some (173, 0)))], S_)) rfl ?_
          refine sm_T_zas1 (n := 2048) rfl rfl (by omega) (by omega) (by omega) ?_
          have hIx12_ : gi (sm_aI S_ 173 0 (vx11_ / 2).toNat 1) := gi_aI hI_ (show 0 ≤ 1 ∧ 1 ≤ 1 from ⟨by omega, by omega⟩)
          have hFx13_ : ai_fr (sx_W vw_356) S0_ (sm_aI S_ 173 0 (vx11_ / 2).toNat 1) := ai_fr_tr hF_ (ai_fr_aI rfl)
          refine sm_T_go 6 (c1 := (145, [some (.inr (.inr (some (13, 0)))), some (.inl o_), some (.inl (c_ + 1)), some (.inl n_)], [.inl n_, .inr (.inr (some (141, 0))), .inr (.inr (some (13, 0))), .inr (.inr (some (173, 0)))], sm_aI S_ 173 0 (vx11_ / 2).toNat 1)) rfl ?_
          refine sm_T_iald (n := 2048) rfl rfl (by omega) (by omega) ?_
          have bx14_ : 0 ≤ S_.2.2.1 141 0 n_.toNat ∧ S_.2.2.1 141 0 n_.toNat ≤ 2047 := hI_.2 141 0 _
          refine sm_T_go 0 (c1 := (146, [some (.inr (.inr (some (13, 0)))), some (.inl o_), some (.inl (c_ + 1)), some (.inl n_)], [.inl (S_.2.2.1 141 0 n_.toNat), .inr (.inr (some (13, 0))), .inr (.inr (some (173, 0)))], sm_aI S_ 173 0 (vx11_ / 2).toNat 1)) rfl ?_
          refine sm_T_cal (d1 := 0) (Q1 := vq_355 (S_.2.2.1 141 0 n_.toNat) (sm_aI S_ 173 0 (vx11_ / 2).toNat 1)) rfl rfl (by decide) (vc_355 (S_.2.2.1 141 0 n_.toNat) (sm_aI S_ 173 0 (vx11_ / 2).toNat 1) hIx12_ (by (rw [f41_]; omega))) (fun u_ Sx15_ px18_ => ?_)
          obtain ⟨rfl, vx20_, rfl, px18_⟩ := px18_
          have e146_ := px18_
          simp only [rd_ne, ne_eq, Nat.reduceEqDiff, not_false_eq_true] at e146_
          rw [f72_, f41_] at e146_
          have sw146_ := rsl_n hs_ (l_ := S0_.2.2.1 141 0 n_.toNat) (by omega) (by omega) n13_
          rw [← e146_] at sw146_
          refine sm_T_go 1 (c1 := (150, [some (.inr (.inr (some (13, 0)))), some (.inl o_), some (.inl (c_ + 1)), some (.inl n_)], [.inl 1, .inl vx20_, .inr (.inr (some (173, 0)))], sm_aI S_ 173 0 (vx11_ / 2).toNat 1)) rfl ?_
          refine sm_T_bin (w := (vx20_ / 2)) rfl (bi_shr (k := 1) (by decide) (by omega) (by omega)) ?_
          refine sm_T_go 1 (c1 := (152, [some (.inr (.inr (some (13, 0)))), some (.inl o_), some (.inl (c_ + 1)), some (.inl n_)], [.inl 1, .inl (vx20_ / 2), .inr (.inr (some (173, 0)))], sm_aI S_ 173 0 (vx11_ / 2).toNat 1)) rfl ?_
          refine sm_T_zas1 (n := 2048) rfl rfl (by omega) (by omega) (by omega) ?_
          have hIx21_ : gi (sm_aI (sm_aI S_ 173 0 (vx11_ / 2).toNat 1) 173 0 (vx20_ / 2).toNat 1) := gi_aI hIx12_ (show 0 ≤ 1 ∧ 1 ≤ 1 from ⟨by omega, by omega⟩)
          have hFx22_ : ai_fr (sx_W vw_356) S0_ (sm_aI (sm_aI S_ 173 0 (vx11_ / 2).toNat 1) 173 0 (vx20_ / 2).toNat 1) := ai_fr_tr hFx13_ (ai_fr_aI rfl)
          refine sm_T_inc (a := 3) (z := (-1)) (v := n_) (w := n_ - 1) rfl rfl (by omega) (by omega) (by omega) ?_
          refine sm_T_go 1 (c1 := (97, [some (.inr (.inr (some (13, 0)))), some (.inl o_), some (.inl (c_ + 1)), some (.inl (n_ - 1))], [], sm_aI (sm_aI S_ 173 0 (vx11_ / 2).toNat 1) 173 0 (vx20_ / 2).toNat 1)) rfl ?_
          refine ih_.2.2.2 (c_ + 1) (n_ - 1) (sm_aI (sm_aI S_ 173 0 (vx11_ / 2).toNat 1) 173 0 (vx20_ / 2).toNat 1) hIx21_ hFx22_ ⟨?_, trivial⟩ ?_
          · omega
          · omega
set_option maxHeartbeats 1500000 in
theorem vc_356 {sc_ : Nat × (Nat → Int)} (o_ : Int) (F_ : Nat) (S0_ : sm_S) (hI_ : gi S0_) (hg_ : rgr F_ S0_) (hr_ : rrt o_ S0_) (hs_ : rsw F_ S0_) : sm_T (mt_P sc_) 1 356 (0, [some (.inr (.inr (some (13, 0)))), some (.inl o_), none, none], [], S0_) (fun ro9_ => ∃ u_ S1_, ro9_ = (.inl u_, S1_, 0) ∧ vq_356 o_ F_ S0_ u_ S1_) := by
  have hF_ : ai_fr (sx_W vw_356) S0_ S0_ := ai_fr_rf
  refine sm_T_go 2 (c1 := (2, [some (.inr (.inr (some (13, 0)))), some (.inl o_), some (.inl 0), none], [], S0_)) rfl ?_
  refine (vl_356 o_ F_ S0_ hg_ hr_ hs_ _).1 0 S0_ hI_ hF_ ⟨?_, trivial⟩ (Nat.lt_succ_self _)
  · (have g1_ := hg_.1; have g2_ := hg_.2.1; omega)
end
/-! 99.zi3e -/
section
/-! M_.bitOf -/
end
/-! 99.zi3f -/
section
/-! M_.reach -/
def vw_361 : sx_Wl := ([], [176], [])
def vq_361 (d_ : Int) (S0_ : sm_S) (u_ : Option sm_V) (S1_ : sm_S) : Prop := ∃ v_ : Int, u_ = some (.inl v_) ∧ gi S1_ ∧ ai_fr (sx_W vw_361) S0_ S1_ ∧ (1 ≤ v_ ∧ v_ ≤ 64)
set_option maxHeartbeats 400000 in
theorem vl_361 {sc_ : Nat × (Nat → Int)} (d_ : Int) (S0_ : sm_S) (hd_ : 0 ≤ d_ ∧ d_ < 6) (hb_ : (S0_.2.2.1 154 0 (d_.toNat)) + (S0_.2.2.1 155 0 (d_.toNat)) ≤ 12) : ∀ nn_ : Nat, (∀ (s_ : Int) (S_ : sm_S), gi S_ → ai_fr (sx_W vw_361) S0_ S_ → ((0 ≤ s_ ∧ s_ ≤ 64) ∧ (∀ k_ : Nat, (k_ : Int) < s_ → (S_.2.2.1 176 0 (k_)) = if (k_ : Int) = (S_.2.2.1 157 0 (d_.toNat)) then 1 else 0) ∧ True) → (400000 + (64 - s_).toNat) < nn_ → sm_T (mt_P sc_) 0 361 (2, [some (.inr (.inr (some (13, 0)))), some (.inl d_), some (.inl s_), none, none, none], [], S_) (fun ro9_ => ∃ u_ S1_, ro9_ = (.inl u_, S1_, 0) ∧ vq_361 d_ S0_ u_ S1_)) ∧ (∀ (many : Int) (had_ : Int) (S_ : sm_S), gi S_ → ai_fr (sx_W vw_361) S0_ S_ → ((0 ≤ had_ ∧ had_ ≤ many ∧ 1 ≤ many) ∧ (many = cn1 (fun k_ => (S_.2.2.1 176 0 (k_))) 64) ∧ True) → (((65 - had_) * 5000).toNat) < nn_ → sm_T (mt_P sc_) 0 361 (39, [some (.inr (.inr (some (13, 0)))), some (.inl d_), some (.inl many), some (.inl had_), none, none], [], S_) (fun ro9_ => ∃ u_ S1_, ro9_ = (.inl u_, S1_, 0) ∧ vq_361 d_ S0_ u_ S1_)) ∧ (∀ (many : Int) (had_ : Int) (p_ : Int) (S_ : sm_S), gi S_ → ai_fr (sx_W vw_361) S0_ S_ → ((1 ≤ had_ ∧ had_ ≤ many ∧ 0 ≤ p_ ∧ p_ ≤ 4096) ∧ (many = cn1 (fun k_ => (S_.2.2.1 176 0 (k_))) 64) ∧ True) → (((65 - had_) * 5000 + (4097 - p_)).toNat) < nn_ → sm_T (mt_P sc_) 0 361 (49, [some (.inr (.inr (some (13, 0)))), some (.inl d_), some (.inl many), some (.inl had_), some (.inl p_), none], [], S_) (fun ro9_ => ∃ u_ S1_, ro9_ = (.inl u_, S1_, 0) ∧ vq_361 d_ S0_ u_ S1_)) := by
  intro nn_
  induction nn_ with
  | zero => exact ⟨fun _ _ _ _ _ h_ => absurd h_ (Nat.not_lt_zero _), fun _ _ _ _ _ _ h_ => absurd h_ (Nat.not_lt_zero _), fun _ _ _ _ _ _ _ h_ => absurd h_ (Nat.not_lt_zero _)⟩
  | succ nn_ ih_ =>
    refine ⟨?_, ?_, ?_⟩
    · rintro s_ S_ hI_ hF_ ⟨h1_, h2_, -⟩ hm_
      refine sm_T_go 2 (c1 := (5, [some (.inr (.inr (some (13, 0)))), some (.inl d_), some (.inl s_), none, none, none], [.inl 64, .inl s_], S_)) rfl ?_
      refine sm_T_br (a := 3) (z := 30) rfl (fun cx1_ => ?_) (fun cx1_ => ?_)
      · have cx1_ : 64 ≤ s_ := of_decide_eq_true cx1_
        refine sm_T_go 4 (c1 := (39, [some (.inr (.inr (some (13, 0)))), some (.inl d_), some (.inl 1), some (.inl 0), none, none], [], S_)) rfl ?_
        refine ih_.2.1 1 0 S_ hI_ hF_ ⟨?_, ?_, trivial⟩ ?_
        · omega
        · have e_ := cn1_one (f := fun k_ : Nat => if (k_ : Int) = S_.2.2.1 157 0 d_.toNat then 1 else 0) (j := (S_.2.2.1 157 0 d_.toNat).toNat) (by intro k_; have := hI_.2 157 0 d_.toNat; have a1_ : 0 ≤ S_.2.2.1 157 0 d_.toNat := this.1; constructor <;> intro h_ <;> first | (split at h_ <;> omega) | (rw [if_pos (by omega)])) 64
          have b9_ : 0 ≤ S_.2.2.1 157 0 d_.toNat ∧ S_.2.2.1 157 0 d_.toNat ≤ 63 := hI_.2 157 0 _
          rw [if_pos (by omega)] at e_
          rw [cn1_cg (fun k_ hk_ => h2_ k_ (by omega)), e_]
          rfl
        · omega
      · have cx1_ : ¬ (64 ≤ s_) := of_decide_eq_false cx1_
        refine sm_T_go 7 (c1 := (19, [some (.inr (.inr (some (13, 0)))), some (.inl d_), some (.inl s_), none, none, none], [.inl d_, .inr (.inr (some (157, 0))), .inl s_, .inl s_, .inr (.inr (some (176, 0)))], S_)) rfl ?_
        refine sm_T_iald (n := 6) rfl rfl (by omega) (by omega) ?_
        have bx2_ : 0 ≤ S_.2.2.1 157 0 d_.toNat ∧ S_.2.2.1 157 0 d_.toNat ≤ 63 := hI_.2 157 0 _
        refine sm_T_br (a := 1) (z := 7) rfl (fun cx3_ => ?_) (fun cx3_ => ?_)
        · have cx3_ : s_ ≠ (S_.2.2.1 157 0 d_.toNat) := of_decide_eq_true cx3_
          refine sm_T_go 1 (c1 := (28, [some (.inr (.inr (some (13, 0)))), some (.inl d_), some (.inl s_), none, none, none], [.inl 0, .inl s_, .inr (.inr (some (176, 0)))], S_)) rfl ?_
          refine sm_T_zas1 (n := 64) rfl rfl (by omega) (by omega) (by omega) ?_
          have hIx4_ : gi (sm_aI S_ 176 0 s_.toNat 0) := gi_aI hI_ (show 0 ≤ 0 ∧ 0 ≤ 1 from ⟨by omega, by omega⟩)
          have hFx5_ : ai_fr (sx_W vw_361) S0_ (sm_aI S_ 176 0 s_.toNat 0) := ai_fr_tr hF_ (ai_fr_aI rfl)
          refine sm_T_inc (a := 2) (z := 1) (v := s_) (w := s_ + 1) rfl rfl (by omega) (by omega) (by omega) ?_
          refine sm_T_go 1 (c1 := (2, [some (.inr (.inr (some (13, 0)))), some (.inl d_), some (.inl (s_ + 1)), none, none, none], [], sm_aI S_ 176 0 s_.toNat 0)) rfl ?_
          refine ih_.1 (s_ + 1) (sm_aI S_ 176 0 s_.toNat 0) hIx4_ hFx5_ ⟨?_, ?_, trivial⟩ ?_
          · omega
          · intro k_ hk_
            (try simp only [rd_eq, rd_ne, rf_eq, rf_nk, rf_nt, rd_fa, rd_af, rd_fl, rd_al, rd_lf, rd_la, rd_leq, rd_lne, rd_fr, rd_ar, ne_eq, Nat.reduceEqDiff, not_false_eq_true])
            grind
          · omega
        · have cx3_ : ¬ (s_ ≠ (S_.2.2.1 157 0 d_.toNat)) := of_decide_eq_false cx3_
          refine sm_T_go 2 (c1 := (28, [some (.inr (.inr (some (13, 0)))), some (.inl d_), some (.inl s_), none, none, none], [.inl 1, .inl s_, .inr (.inr (some (176, 0)))], S_)) rfl ?_
          refine sm_T_zas1 (n := 64) rfl rfl (by omega) (by omega) (by omega) ?_
          have hIx6_ : gi (sm_aI S_ 176 0 s_.toNat 1) := gi_aI hI_ (show 0 ≤ 1 ∧ 1 ≤ 1 from ⟨by omega, by omega⟩)
          have hFx7_ : ai_fr (sx_W vw_361) S0_ (sm_aI S_ 176 0 s_.toNat 1) := ai_fr_tr hF_ (ai_fr_aI rfl)
          refine sm_T_inc (a := 2) (z := 1) (v := s_) (w := s_ + 1) rfl rfl (by omega) (by omega) (by omega) ?_
          refine sm_T_go 1 (c1 := (2, [some (.inr (.inr (some (13, 0)))), some (.inl d_), some (.inl (s_ + 1)), none, none, none], [], sm_aI S_ 176 0 s_.toNat 1)) rfl ?_
          refine ih_.1 (s_ + 1) (sm_aI S_ 176 0 s_.toNat 1) hIx6_ hFx7_ ⟨?_, ?_, trivial⟩ ?_
          · omega
          · intro k_ hk_
            (try simp only [rd_eq, rd_ne, rf_eq, rf_nk, rf_nt, rd_fa, rd_af, rd_fl, rd_al, rd_lf, rd_la, rd_leq, rd_lne, rd_fr, rd_ar, ne_eq, Nat.reduceEqDiff, not_false_eq_true])
            grind
          · omega
    · rintro many had_ S_ hI_ hF_ ⟨h1_, h2_, -⟩ hm_
      have hc_ := cn1_le (fun k_ => (S_.2.2.1 176 0 (k_))) 64
      refine sm_T_go 2 (c1 := (41, [some (.inr (.inr (some (13, 0)))), some (.inl d_), some (.inl many), some (.inl had_), none, none], [.inl had_, .inl many], S_)) rfl ?_
      refine sm_T_br (a := 0) (z := 90) rfl (fun cx1_ => ?_) (fun cx1_ => ?_)
      · have cx1_ : many = had_ := of_decide_eq_true cx1_
        refine sm_T_go 1 (c1 := (132, [some (.inr (.inr (some (13, 0)))), some (.inl d_), some (.inl many), some (.inl had_), none, none], [.inl many], S_)) rfl ?_
        refine sm_T_ri rfl ⟨_, _, rfl, _, rfl, hI_, hF_, ?_⟩
        omega
      · have cx1_ : ¬ (many = had_) := of_decide_eq_false cx1_
        refine sm_T_go 4 (c1 := (49, [some (.inr (.inr (some (13, 0)))), some (.inl d_), some (.inl many), some (.inl many), some (.inl 0), none], [], S_)) rfl ?_
        refine ih_.2.2 many many 0 S_ hI_ hF_ ⟨?_, ?_, trivial⟩ ?_
        · omega
        · omega
        · omega
    · rintro many had_ p_ S_ hI_ hF_ ⟨h1_, h2_, -⟩ hm_
      have hc_ := cn1_le (fun k_ => (S_.2.2.1 176 0 (k_))) 64
      have e1_ := (hF_.2.2 154 rfl 0 d_.toNat).1
      have e2_ := (hF_.2.2 155 rfl 0 d_.toNat).1
      refine sm_T_go 5 (c1 := (57, [some (.inr (.inr (some (13, 0)))), some (.inl d_), some (.inl many), some (.inl had_), some (.inl p_), none], [.inl d_, .inr (.inr (some (154, 0))), .inl 1, .inl p_], S_)) rfl ?_
      refine sm_T_iald (n := 6) rfl rfl (by omega) (by omega) ?_
      have bx1_ : 0 ≤ S_.2.2.1 154 0 d_.toNat ∧ S_.2.2.1 154 0 d_.toNat ≤ 12 := hI_.2 154 0 _
      refine sm_T_go 3 (c1 := (63, [some (.inr (.inr (some (13, 0)))), some (.inl d_), some (.inl many), some (.inl had_), some (.inl p_), none], [.inl d_, .inr (.inr (some (155, 0))), .inl (S_.2.2.1 154 0 d_.toNat), .inl 1, .inl p_], S_)) rfl ?_
      refine sm_T_iald (n := 6) rfl rfl (by omega) (by omega) ?_
      have bx2_ : 0 ≤ S_.2.2.1 155 0 d_.toNat ∧ S_.2.2.1 155 0 d_.toNat ≤ 6 := hI_.2 155 0 _
      refine sm_T_bin (w := (S_.2.2.1 154 0 d_.toNat) + (S_.2.2.1 155 0 d_.toNat)) rfl (bi_add (by omega) (by omega) (by omega)) ?_
      refine sm_T_bin (w := (i_shl 1 ((S_.2.2.1 154 0 d_.toNat) + (S_.2.2.1 155 0 d_.toNat)))) rfl rfl ?_
      have bx3_ := i_shl1 (e := ((S_.2.2.1 154 0 d_.toNat) + (S_.2.2.1 155 0 d_.toNat))) (by omega) (by omega)
      have hp_ := pw_le (n := (((S_.2.2.1 154 0 d_.toNat) + (S_.2.2.1 155 0 d_.toNat))).toNat) (m := 12) (by omega)
      have hp0_ := pw_pos (((S_.2.2.1 154 0 d_.toNat) + (S_.2.2.1 155 0 d_.toNat))).toNat
      refine sm_T_br (a := 3) (z := 62) rfl (fun cx6_ => ?_) (fun cx6_ => ?_)
      · have cx6_ : (i_shl 1 ((S_.2.2.1 154 0 d_.toNat) + (S_.2.2.1 155 0 d_.toNat))) ≤ p_ := of_decide_eq_true cx6_
        refine sm_T_go 1 (c1 := (39, [some (.inr (.inr (some (13, 0)))), some (.inl d_), some (.inl many), some (.inl had_), some (.inl p_), none], [], S_)) rfl ?_
        refine sm_T_wk [some (.inr (.inr (some (13, 0)))), some (.inl d_), some (.inl many), some (.inl had_), none, none] (by exact ⟨rfl, rfl, rfl, rfl, trivial⟩) ?_
        refine ih_.2.1 many had_ S_ hI_ hF_ ⟨?_, ?_, trivial⟩ ?_
        · omega
        · omega
        · omega
      · have cx6_ : ¬ ((i_shl 1 ((S_.2.2.1 154 0 d_.toNat) + (S_.2.2.1 155 0 d_.toNat))) ≤ p_) := of_decide_eq_false cx6_
        refine sm_T_go 4 (c1 := (77, [some (.inr (.inr (some (13, 0)))), some (.inl d_), some (.inl many), some (.inl had_), some (.inl p_), none], [.inl d_, .inl 4096, .inr (.inr (some (170, 0)))], S_)) rfl ?_
        refine sm_T_bin (w := 4096 * d_) rfl (bi_mul (by omega) (by omega) (by omega)) ?_
        refine sm_T_go 1 (c1 := (80, [some (.inr (.inr (some (13, 0)))), some (.inl d_), some (.inl many), some (.inl had_), some (.inl p_), none], [.inl p_, .inl (4096 * d_), .inr (.inr (some (170, 0)))], S_)) rfl ?_
        refine sm_T_bin (w := 4096 * d_ + p_) rfl (bi_add (by omega) (by omega) (by omega)) ?_
        refine sm_T_iald (n := 24576) rfl rfl (by omega) (by omega) ?_
        have bx7_ : 0 ≤ S_.2.2.1 170 0 (4096 * d_ + p_).toNat ∧ S_.2.2.1 170 0 (4096 * d_ + p_).toNat ≤ 63 := hI_.2 170 0 _
        refine sm_T_go 7 (c1 := (95, [some (.inr (.inr (some (13, 0)))), some (.inl d_), some (.inl many), some (.inl had_), some (.inl p_), some (.inl (S_.2.2.1 170 0 (4096 * d_ + p_).toNat))], [.inl d_, .inr (.inr (some (154, 0))), .inl p_, .inr (.inr (some (176, 0)))], S_)) rfl ?_
        refine sm_T_iald (n := 6) rfl rfl (by omega) (by omega) ?_
        refine sm_T_bin (w := (i_shr p_ (S_.2.2.1 154 0 d_.toNat))) rfl rfl ?_
        have bx8_ := i_shrv (x := p_) (e := (S_.2.2.1 154 0 d_.toNat)) (by omega) (by omega) (by omega)
        have hq_ := shr_lt (x := p_) (a := (S_.2.2.1 154 0 d_.toNat)) (b := S_.2.2.1 155 0 d_.toNat) (by omega) (by omega) (by omega) (by omega)
        have hq2_ := pw_le (n := (S_.2.2.1 155 0 d_.toNat).toNat) (m := 6) (by omega)
        refine sm_T_zald (n := 64) rfl rfl (by omega) (by omega) ?_
        have bx11_ : 0 ≤ S_.2.2.1 176 0 (i_shr p_ (S_.2.2.1 154 0 d_.toNat)).toNat ∧ S_.2.2.1 176 0 (i_shr p_ (S_.2.2.1 154 0 d_.toNat)).toNat ≤ 1 := hI_.2 176 0 _
        refine sm_T_b0 (a := 0) (z := 24) rfl (fun cx12_ => ?_) (fun cx12_ => ?_)
        · have cx12_ : (S_.2.2.1 176 0 (i_shr p_ (S_.2.2.1 154 0 d_.toNat)).toNat) = 0 := of_decide_eq_true cx12_
          refine sm_T_inc (a := 4) (z := 1) (v := p_) (w := p_ + 1) rfl rfl (by omega) (by omega) (by omega) ?_
          refine sm_T_go 1 (c1 := (49, [some (.inr (.inr (some (13, 0)))), some (.inl d_), some (.inl many), some (.inl had_), some (.inl (p_ + 1)), some (.inl (S_.2.2.1 170 0 (4096 * d_ + p_).toNat))], [], S_)) rfl ?_
          refine sm_T_wk [some (.inr (.inr (some (13, 0)))), some (.inl d_), some (.inl many), some (.inl had_), some (.inl (p_ + 1)), none] (by exact ⟨rfl, rfl, rfl, rfl, rfl, trivial⟩) ?_
          refine ih_.2.2 many had_ (p_ + 1) S_ hI_ hF_ ⟨?_, ?_, trivial⟩ ?_
          · omega
          · exact h2_
          · omega
        · have cx12_ : ¬ ((S_.2.2.1 176 0 (i_shr p_ (S_.2.2.1 154 0 d_.toNat)).toNat) = 0) := of_decide_eq_false cx12_
          refine sm_T_go 3 (c1 := (107, [some (.inr (.inr (some (13, 0)))), some (.inl d_), some (.inl many), some (.inl had_), some (.inl p_), some (.inl (S_.2.2.1 170 0 (4096 * d_ + p_).toNat))], [.inl (S_.2.2.1 170 0 (4096 * d_ + p_).toNat), .inr (.inr (some (176, 0)))], S_)) rfl ?_
          refine sm_T_zald (n := 64) rfl rfl (by omega) (by omega) ?_
          have bx13_ : 0 ≤ S_.2.2.1 176 0 (S_.2.2.1 170 0 (4096 * d_ + p_).toNat).toNat ∧ S_.2.2.1 176 0 (S_.2.2.1 170 0 (4096 * d_ + p_).toNat).toNat ≤ 1 := hI_.2 176 0 _
          refine sm_T_b0 (a := 1) (z := 14) rfl (fun cx14_ => ?_) (fun cx14_ => ?_)
          · have cx14_ : (S_.2.2.1 176 0 (S_.2.2.1 170 0 (4096 * d_ + p_).toNat).toNat) ≠ 0 := of_decide_eq_true cx14_
            refine sm_T_inc (a := 4) (z := 1) (v := p_) (w := p_ + 1) rfl rfl (by omega) (by omega) (by omega) ?_
            refine sm_T_go 1 (c1 := (49, [some (.inr (.inr (some (13, 0)))), some (.inl d_), some (.inl many), some (.inl had_), some (.inl (p_ + 1)), some (.inl (S_.2.2.1 170 0 (4096 * d_ + p_).toNat))], [], S_)) rfl ?_
            refine sm_T_wk [some (.inr (.inr (some (13, 0)))), some (.inl d_), some (.inl many), some (.inl had_), some (.inl (p_ + 1)), none] (by exact ⟨rfl, rfl, rfl, rfl, rfl, trivial⟩) ?_
            refine ih_.2.2 many had_ (p_ + 1) S_ hI_ hF_ ⟨?_, ?_, trivial⟩ ?_
            · omega
            · exact h2_
            · omega
          · have cx14_ : ¬ ((S_.2.2.1 176 0 (S_.2.2.1 170 0 (4096 * d_ + p_).toNat).toNat) ≠ 0) := of_decide_eq_false cx14_
            refine sm_T_go 4 (c1 := (118, [some (.inr (.inr (some (13, 0)))), some (.inl d_), some (.inl many), some (.inl had_), some (.inl p_), some (.inl (S_.2.2.1 170 0 (4096 * d_ + p_).toNat))], [.inl 1, .inl (S_.2.2.1 170 0 (4096 * d_ + p_).toNat), .inr (.inr (some (176, 0)))], S_)) rfl ?_
            refine sm_T_zas1 (n := 64) rfl rfl (by omega) (by omega) (by omega) ?_
            have hIx15_ : gi (sm_aI S_ 176 0 (S_.2.2.1 170 0 (4096 * d_ + p_).toNat).toNat 1) := gi_aI hI_ (show 0 ≤ 1 ∧ 1 ≤ 1 from ⟨by omega, by omega⟩)
            have hFx16_ : ai_fr (sx_W vw_361) S0_ (sm_aI S_ 176 0 (S_.2.2.1 170 0 (4096 * d_ + p_).toNat).toNat 1) := ai_fr_tr hF_ (ai_fr_aI rfl)
            refine sm_T_inc (a := 2) (z := 1) (v := many) (w := many + 1) rfl rfl (by omega) (by omega) (by omega) ?_
            refine sm_T_inc (a := 4) (z := 1) (v := p_) (w := p_ + 1) rfl rfl (by omega) (by omega) (by omega) ?_
            refine sm_T_go 1 (c1 := (49, [some (.inr (.inr (some (13, 0)))), some (.inl d_), some (.inl (many + 1)), some (.inl had_), some (.inl (p_ + 1)), some (.inl (S_.2.2.1 170 0 (4096 * d_ + p_).toNat))], [], sm_aI S_ 176 0 (S_.2.2.1 170 0 (4096 * d_ + p_).toNat).toNat 1)) rfl ?_
            refine sm_T_wk [some (.inr (.inr (some (13, 0)))), some (.inl d_), some (.inl (many + 1)), some (.inl had_), some (.inl (p_ + 1)), none] (by exact ⟨rfl, rfl, rfl, rfl, rfl, trivial⟩) ?_
            refine ih_.2.2 (many + 1) had_ (p_ + 1) (sm_aI S_ 176 0 (S_.2.2.1 170 0 (4096 * d_ + p_).toNat).toNat 1) hIx15_ hFx16_ ⟨?_, ?_, trivial⟩ ?_
            · omega
            · have := cn1_up (f := fun k_ => S_.2.2.1 176 0 k_) (g := fun k_ => (sm_aI S_ 176 0 (S_.2.2.1 170 0 (4096 * d_ + p_).toNat).toNat 1).2.2.1 176 0 k_) (j := (S_.2.2.1 170 0 (4096 * d_ + p_).toNat).toNat) (by show S_.2.2.1 176 0 _ ≠ 1; omega) (by show _ = _; rw [rd_aa, if_pos ⟨rfl, rfl, rfl⟩]) (by intro k_ hk_; show _ = _; rw [rd_aa, if_neg (by omega)]) (n := 64) (by omega)
              omega
            · omega
set_option maxHeartbeats 400000 in
theorem vc_361 {sc_ : Nat × (Nat → Int)} (d_ : Int) (S0_ : sm_S) (hI_ : gi S0_) (hd_ : 0 ≤ d_ ∧ d_ < 6) (hb_ : (S0_.2.2.1 154 0 (d_.toNat)) + (S0_.2.2.1 155 0 (d_.toNat)) ≤ 12) : sm_T (mt_P sc_) 0 361 (0, [some (.inr (.inr (some (13, 0)))), some (.inl d_), none, none, none, none], [], S0_) (fun ro9_ => ∃ u_ S1_, ro9_ = (.inl u_, S1_, 0) ∧ vq_361 d_ S0_ u_ S1_) := by
  have hF_ : ai_fr (sx_W vw_361) S0_ S0_ := ai_fr_rf
  refine sm_T_go 2 (c1 := (2, [some (.inr (.inr (some (13, 0)))), some (.inl d_), some (.inl 0), none, none, none], [], S0_)) rfl ?_
  refine (vl_361 d_ S0_ hd_ hb_ _).1 0 S0_ hI_ hF_ ⟨?_, ?_, trivial⟩ (Nat.lt_succ_self _)
  · omega
  · intro k_ hk_; omega
end
/-! 99.zi4a -/
section
/-! the reference keeps a design; written by wip/p55/gen/vg -/

/-! the_ reference keeps a_ design -/
def rds (t_ : Nat) : Nat := if t_ ≤ 163 then 1 else if t_ ≤ 166 then 2048 else if t_ = 167 then 16 else if t_ = 168 then 6 else 4096
/-- the_ other designs stay as_ they were -/
def rdf (d_ : Nat) (S_ S'_ : sm_S) : Prop := ∀ t_, t_ < 171 → 153 ≤ t_ → ∀ j_, (j_ < rds t_ * d_ ∨ rds t_ * d_ + rds t_ ≤ j_) → S'_.2.2.1 t_ 0 j_ = S_.2.2.1 t_ 0 j_
theorem rdf_rf {d_ : Nat} {S_ : sm_S} : rdf d_ S_ S_ := fun _ _ _ _ _ => rfl
theorem rdf_tr {d_ : Nat} {S_ S'_ S2_ : sm_S} (h_ : rdf d_ S_ S'_) (g_ : rdf d_ S'_ S2_) : rdf d_ S_ S2_ := fun t_ h1_ h2_ j_ hj_ => (g_ t_ h1_ h2_ j_ hj_).trans (h_ t_ h1_ h2_ j_ hj_)
theorem rdf_fr {w_ : sx_Wl} {d_ : Nat} {S_ S'_ : sm_S} (g_ : ai_fr (sx_W w_) S_ S'_) (h_ : ∀ t_, t_ < 171 → 153 ≤ t_ → (sx_W w_).2.1 t_ = false) : rdf d_ S_ S'_ := fun t_ h1_ h2_ j_ _ => congrFun (fr_arr g_ (h_ t_ h1_ h2_)) j_
theorem rdf_aI {d_ t_ k_ : Nat} {S_ S'_ : sm_S} {v_ : Int} (h_ : rdf d_ S_ S'_) (g_ : (t_ < 153 ∨ 170 < t_) ∨ (rds t_ * d_ ≤ k_ ∧ k_ < rds t_ * d_ + rds t_)) : rdf d_ S_ (sm_aI S'_ t_ 0 k_ v_) := fun t1_ h1_ h2_ j_ hj_ => by
  rw [rd_aa, if_neg (by
    rintro ⟨q1_, -, q3_⟩
    rcases g_ with g_ | g_
    · omega
    · rw [q1_] at hj_; omega)]
  exact h_ t1_ h1_ h2_ j_ hj_
/-- how_ far_ a_ design is_ kept -/
def kdB (dd_ F_ : Nat) (I_ o_ bg_ : Int) (R_ n_ k1_ k2_ p_ : Nat) (S_ : sm_S) : Prop := (S_.2.2.1 153 0 dd_ = 1 ∧ S_.2.2.1 154 0 dd_ = I_ ∧ S_.2.2.1 155 0 dd_ = (R_ : Int) ∧ S_.2.2.1 156 0 dd_ = o_ ∧ S_.2.2.1 157 0 dd_ = bg_ ∧ S_.2.2.1 158 0 dd_ = bg_ ∧ S_.2.2.1 159 0 dd_ = S_.1 13 0 37 ∧ S_.2.2.1 160 0 dd_ = (F_ : Int)) ∧ (rgr F_ S_ ∧ rsw F_ S_ ∧ rrt o_ S_ ∧ S_.1 13 0 53 = (R_ : Int)) ∧ (∀ j_, j_ < n_ → S_.2.2.1 164 0 (2048 * dd_ + j_) = S_.2.2.1 140 0 j_ ∧ S_.2.2.1 165 0 (2048 * dd_ + j_) = S_.2.2.1 141 0 j_ ∧ S_.2.2.1 166 0 (2048 * dd_ + j_) = S_.2.2.1 172 0 j_) ∧ (∀ j_, j_ < k1_ → S_.2.2.1 167 0 (16 * dd_ + j_) = S_.2.2.1 175 0 j_) ∧ (∀ j_, j_ < k2_ → S_.2.2.1 168 0 (6 * dd_ + j_) = S_.2.2.1 151 0 j_) ∧ ∀ j_, j_ < p_ → 0 ≤ S_.2.2.1 170 0 (4096 * dd_ + j_) ∧ S_.2.2.1 170 0 (4096 * dd_ + j_) < 2 ^ R_
theorem kd8 {S_ : sm_S} {d_ : Nat} {v0_ v1_ v2_ v3_ v4_ v5_ v6_ v7_ : Int} : ((sm_aI (sm_aI (sm_aI (sm_aI (sm_aI (sm_aI (sm_aI (sm_aI S_ 153 0 d_ v0_) 154 0 d_ v1_) 155 0 d_ v2_) 156 0 d_ v3_) 157 0 d_ v4_) 158 0 d_ v5_) 159 0 d_ v6_) 160 0 d_ v7_).2.2.1 153 0 d_ = v0_ ∧ (sm_aI (sm_aI (sm_aI (sm_aI (sm_aI (sm_aI (sm_aI (sm_aI S_ 153 0 d_ v0_) 154 0 d_ v1_) 155 0 d_ v2_) 156 0 d_ v3_) 157 0 d_ v4_) 158 0 d_ v5_) 159 0 d_ v6_) 160 0 d_ v7_).2.2.1 154 0 d_ = v1_ ∧ (sm_aI (sm_aI (sm_aI (sm_aI (sm_aI (sm_aI (sm_aI (sm_aI S_ 153 0 d_ v0_) 154 0 d_ v1_) 155 0 d_ v2_) 156 0 d_ v3_) 157 0 d_ v4_) 158 0 d_ v5_) 159 0 d_ v6_) 160 0 d_ v7_).2.2.1 155 0 d_ = v2_ ∧ (sm_aI (sm_aI (sm_aI (sm_aI (sm_aI (sm_aI (sm_aI (sm_aI S_ 153 0 d_ v0_) 154 0 d_ v1_) 155 0 d_ v2_) 156 0 d_ v3_) 157 0 d_ v4_) 158 0 d_ v5_) 159 0 d_ v6_) 160 0 d_ v7_).2.2.1 156 0 d_ = v3_ ∧ (sm_aI (sm_aI (sm_aI (sm_aI (sm_aI (sm_aI (sm_aI (sm_aI S_ 153 0 d_ v0_) 154 0 d_ v1_) 155 0 d_ v2_) 156 0 d_ v3_) 157 0 d_ v4_) 158 0 d_ v5_) 159 0 d_ v6_) 160 0 d_ v7_).2.2.1 157 0 d_ = v4_ ∧ (sm_aI (sm_aI (sm_aI (sm_aI (sm_aI (sm_aI (sm_aI (sm_aI S_ 153 0 d_ v0_) 154 0 d_ v1_) 155 0 d_ v2_) 156 0 d_ v3_) 157 0 d_ v4_) 158 0 d_ v5_) 159 0 d_ v6_) 160 0 d_ v7_).2.2.1 158 0 d_ = v5_ ∧ (sm_aI (sm_aI (sm_aI (sm_aI (sm_aI (sm_aI (sm_aI (sm_aI S_ 153 0 d_ v0_) 154 0 d_ v1_) 155 0 d_ v2_) 156 0 d_ v3_) 157 0 d_ v4_) 158 0 d_ v5_) 159 0 d_ v6_) 160 0 d_ v7_).2.2.1 159 0 d_ = v6_ ∧ (sm_aI (sm_aI (sm_aI (sm_aI (sm_aI (sm_aI (sm_aI (sm_aI S_ 153 0 d_ v0_) 154 0 d_ v1_) 155 0 d_ v2_) 156 0 d_ v3_) 157 0 d_ v4_) 158 0 d_ v5_) 159 0 d_ v6_) 160 0 d_ v7_).2.2.1 160 0 d_ = v7_) ∧ ai_fr (sx_W ([], [153, 154, 155, 156, 157, 158, 159, 160], [])) S_ (sm_aI (sm_aI (sm_aI (sm_aI (sm_aI (sm_aI (sm_aI (sm_aI S_ 153 0 d_ v0_) 154 0 d_ v1_) 155 0 d_ v2_) 156 0 d_ v3_) 157 0 d_ v4_) 158 0 d_ v5_) 159 0 d_ v6_) 160 0 d_ v7_) := by
  refine ⟨⟨?_, ?_, ?_, ?_, ?_, ?_, ?_, ?_⟩, ai_fr_tr (ai_fr_tr (ai_fr_tr (ai_fr_tr (ai_fr_tr (ai_fr_tr (ai_fr_tr (ai_fr_aI rfl) (ai_fr_aI rfl)) (ai_fr_aI rfl)) (ai_fr_aI rfl)) (ai_fr_aI rfl)) (ai_fr_aI rfl)) (ai_fr_aI rfl)) (ai_fr_aI rfl)⟩
  all_goals (simp only [rd_eq, rd_ne, ne_eq, Nat.reduceEqDiff, not_false_eq_true, if_true])
section KD_
variable {dd_ F_ R_ n_ k1_ k2_ p_ : Nat} {I_ o_ bg_ : Int} {S_ S'_ : sm_S}
theorem kdB_k (h_ : kdB dd_ F_ I_ o_ bg_ R_ n_ k1_ k2_ p_ S_) (g_ : ai_fr (sx_W ([], [164, 165, 166], [])) S_ S'_) (e1_ : ∀ j_, S'_.2.2.1 164 0 j_ = if j_ = 2048 * dd_ + n_ then S_.2.2.1 140 0 n_ else S_.2.2.1 164 0 j_) (e2_ : ∀ j_, S'_.2.2.1 165 0 j_ = if j_ = 2048 * dd_ + n_ then S_.2.2.1 141 0 n_ else S_.2.2.1 165 0 j_) (e3_ : ∀ j_, S'_.2.2.1 166 0 j_ = if j_ = 2048 * dd_ + n_ then S_.2.2.1 172 0 n_ else S_.2.2.1 166 0 j_) : kdB dd_ F_ I_ o_ bg_ R_ (n_ + 1) k1_ k2_ p_ S'_ := by
  obtain ⟨h1_, h2_, h3_, h4_, h5_, h6_⟩ := h_
  refine ⟨?_, ⟨rgr_fr h2_.1 g_ rfl rfl rfl rfl, rsw_fr h2_.2.1 g_ rfl rfl rfl rfl, rrt_fr h2_.2.2.1 g_ rfl rfl rfl rfl, (g_.1 13 0 53 rfl).trans h2_.2.2.2⟩, fun j_ hj_ => ?_, fun j_ hj_ => ?_, fun j_ hj_ => ?_, fun j_ hj_ => ?_⟩
  · rw [fr_arr (t := 153) g_ rfl, fr_arr (t := 154) g_ rfl, fr_arr (t := 155) g_ rfl, fr_arr (t := 156) g_ rfl, fr_arr (t := 157) g_ rfl, fr_arr (t := 158) g_ rfl, fr_arr (t := 159) g_ rfl, fr_arr (t := 160) g_ rfl, g_.1 13 0 37 rfl]
    exact h1_
  · rw [e1_, e2_, e3_, fr_arr (t := 140) g_ rfl, fr_arr (t := 141) g_ rfl, fr_arr (t := 172) g_ rfl]
    by_cases z_ : j_ = n_
    · rw [if_pos (by omega), if_pos (by omega), if_pos (by omega), z_]
      exact ⟨rfl, rfl, rfl⟩
    · rw [if_neg (by omega), if_neg (by omega), if_neg (by omega)]
      exact h3_ j_ (by omega)
  · rw [fr_arr (t := 167) g_ rfl, fr_arr (t := 175) g_ rfl]; exact h4_ j_ hj_
  · rw [fr_arr (t := 168) g_ rfl, fr_arr (t := 151) g_ rfl]; exact h5_ j_ hj_
  · rw [fr_arr (t := 170) g_ rfl]; exact h6_ j_ hj_
theorem kdB_o (h_ : kdB dd_ F_ I_ o_ bg_ R_ n_ k1_ k2_ p_ S_) (g_ : ai_fr (sx_W ([], [167], [])) S_ S'_) (e1_ : ∀ j_, S'_.2.2.1 167 0 j_ = if j_ = 16 * dd_ + k1_ then S_.2.2.1 175 0 k1_ else S_.2.2.1 167 0 j_) : kdB dd_ F_ I_ o_ bg_ R_ n_ (k1_ + 1) k2_ p_ S'_ := by
  obtain ⟨h1_, h2_, h3_, h4_, h5_, h6_⟩ := h_
  refine ⟨?_, ⟨rgr_fr h2_.1 g_ rfl rfl rfl rfl, rsw_fr h2_.2.1 g_ rfl rfl rfl rfl, rrt_fr h2_.2.2.1 g_ rfl rfl rfl rfl, (g_.1 13 0 53 rfl).trans h2_.2.2.2⟩, fun j_ hj_ => ?_, fun j_ hj_ => ?_, fun j_ hj_ => ?_, fun j_ hj_ => ?_⟩
  · rw [fr_arr (t := 153) g_ rfl, fr_arr (t := 154) g_ rfl, fr_arr (t := 155) g_ rfl, fr_arr (t := 156) g_ rfl, fr_arr (t := 157) g_ rfl, fr_arr (t := 158) g_ rfl, fr_arr (t := 159) g_ rfl, fr_arr (t := 160) g_ rfl, g_.1 13 0 37 rfl]
    exact h1_
  · rw [fr_arr (t := 164) g_ rfl, fr_arr (t := 165) g_ rfl, fr_arr (t := 166) g_ rfl, fr_arr (t := 140) g_ rfl, fr_arr (t := 141) g_ rfl, fr_arr (t := 172) g_ rfl]; exact h3_ j_ hj_
  · rw [e1_, fr_arr (t := 175) g_ rfl]
    by_cases z_ : j_ = k1_
    · rw [if_pos (by omega), z_]
    · rw [if_neg (by omega)]; exact h4_ j_ (by omega)
  · rw [fr_arr (t := 168) g_ rfl, fr_arr (t := 151) g_ rfl]; exact h5_ j_ hj_
  · rw [fr_arr (t := 170) g_ rfl]; exact h6_ j_ hj_
theorem kdB_x (h_ : kdB dd_ F_ I_ o_ bg_ R_ n_ k1_ k2_ p_ S_) (g_ : ai_fr (sx_W ([], [168], [])) S_ S'_) (e1_ : ∀ j_, S'_.2.2.1 168 0 j_ = if j_ = 6 * dd_ + k2_ then S_.2.2.1 151 0 k2_ else S_.2.2.1 168 0 j_) : kdB dd_ F_ I_ o_ bg_ R_ n_ k1_ (k2_ + 1) p_ S'_ := by
  obtain ⟨h1_, h2_, h3_, h4_, h5_, h6_⟩ := h_
  refine ⟨?_, ⟨rgr_fr h2_.1 g_ rfl rfl rfl rfl, rsw_fr h2_.2.1 g_ rfl rfl rfl rfl, rrt_fr h2_.2.2.1 g_ rfl rfl rfl rfl, (g_.1 13 0 53 rfl).trans h2_.2.2.2⟩, fun j_ hj_ => ?_, fun j_ hj_ => ?_, fun j_ hj_ => ?_, fun j_ hj_ => ?_⟩
  · rw [fr_arr (t := 153) g_ rfl, fr_arr (t := 154) g_ rfl, fr_arr (t := 155) g_ rfl, fr_arr (t := 156) g_ rfl, fr_arr (t := 157) g_ rfl, fr_arr (t := 158) g_ rfl, fr_arr (t := 159) g_ rfl, fr_arr (t := 160) g_ rfl, g_.1 13 0 37 rfl]
    exact h1_
  · rw [fr_arr (t := 164) g_ rfl, fr_arr (t := 165) g_ rfl, fr_arr (t := 166) g_ rfl, fr_arr (t := 140) g_ rfl, fr_arr (t := 141) g_ rfl, fr_arr (t := 172) g_ rfl]; exact h3_ j_ hj_
  · rw [fr_arr (t := 167) g_ rfl, fr_arr (t := 175) g_ rfl]; exact h4_ j_ hj_
  · rw [e1_, fr_arr (t := 151) g_ rfl]
    by_cases z_ : j_ = k2_
    · rw [if_pos (by omega), z_]
    · rw [if_neg (by omega)]; exact h5_ j_ (by omega)
  · rw [fr_arr (t := 170) g_ rfl]; exact h6_ j_ hj_
theorem kdB_t {v_ : Int} (h_ : kdB dd_ F_ I_ o_ bg_ R_ n_ k1_ k2_ p_ S_) (g_ : ai_fr (sx_W ([], [169, 170], [])) S_ S'_) (hv_ : 0 ≤ v_ ∧ v_ < 2 ^ R_) (e1_ : ∀ j_, S'_.2.2.1 170 0 j_ = if j_ = 4096 * dd_ + p_ then v_ else S_.2.2.1 170 0 j_) : kdB dd_ F_ I_ o_ bg_ R_ n_ k1_ k2_ (p_ + 1) S'_ := by
  obtain ⟨h1_, h2_, h3_, h4_, h5_, h6_⟩ := h_
  refine ⟨?_, ⟨rgr_fr h2_.1 g_ rfl rfl rfl rfl, rsw_fr h2_.2.1 g_ rfl rfl rfl rfl, rrt_fr h2_.2.2.1 g_ rfl rfl rfl rfl, (g_.1 13 0 53 rfl).trans h2_.2.2.2⟩, fun j_ hj_ => ?_, fun j_ hj_ => ?_, fun j_ hj_ => ?_, fun j_ hj_ => ?_⟩
  · rw [fr_arr (t := 153) g_ rfl, fr_arr (t := 154) g_ rfl, fr_arr (t := 155) g_ rfl, fr_arr (t := 156) g_ rfl, fr_arr (t := 157) g_ rfl, fr_arr (t := 158) g_ rfl, fr_arr (t := 159) g_ rfl, fr_arr (t := 160) g_ rfl, g_.1 13 0 37 rfl]
    exact h1_
  · rw [fr_arr (t := 164) g_ rfl, fr_arr (t := 165) g_ rfl, fr_arr (t := 166) g_ rfl, fr_arr (t := 140) g_ rfl, fr_arr (t := 141) g_ rfl, fr_arr (t := 172) g_ rfl]; exact h3_ j_ hj_
  · rw [fr_arr (t := 167) g_ rfl, fr_arr (t := 175) g_ rfl]; exact h4_ j_ hj_
  · rw [fr_arr (t := 168) g_ rfl, fr_arr (t := 151) g_ rfl]; exact h5_ j_ hj_
  · rw [e1_]
    by_cases z_ : j_ = p_
    · rw [if_pos (by omega)]; exact hv_
    · rw [if_neg (by omega)]; exact h6_ j_ (by omega)
end KD_
/-- a_ design that the_ reference keeps -/
def dRk (d_ : Nat) (S_ : sm_S) : Prop := ∃ (F_ I_ R_ N_ : Nat), (S_.2.2.1 154 0 d_ = (I_ : Int) ∧ S_.2.2.1 155 0 d_ = (R_ : Int) ∧ S_.2.2.1 159 0 d_ = (N_ : Int) ∧ S_.2.2.1 160 0 d_ = (F_ : Int) ∧ F_ = 1 + I_ + R_ ∧ F_ ≤ 13 ∧ R_ ≤ 6 ∧ F_ ≤ N_ ∧ N_ ≤ F_ + 1000 ∧ 1 ≤ S_.2.2.1 156 0 d_ ∧ S_.2.2.1 156 0 d_ ≤ 16) ∧ glo F_ N_ (fun k_ => S_.2.2.1 164 0 (2048 * d_ + k_)) (fun k_ => S_.2.2.1 165 0 (2048 * d_ + k_)) ∧ (S_.2.2.1 166 0 (2048 * d_) = 0 ∧ ∀ m_, m_ < N_ → sfo F_ (fun k_ => S_.2.2.1 164 0 (2048 * d_ + k_)) (fun k_ => S_.2.2.1 165 0 (2048 * d_ + k_)) (fun k_ => S_.2.2.1 166 0 (2048 * d_ + k_)) m_) ∧ (∀ k_ : Nat, (k_ : Int) < S_.2.2.1 156 0 d_ → 0 ≤ S_.2.2.1 167 0 (16 * d_ + k_) ∧ S_.2.2.1 167 0 (16 * d_ + k_) < 2 * (N_ : Int)) ∧ (∀ k_, k_ < R_ → 0 ≤ S_.2.2.1 168 0 (6 * d_ + k_) ∧ S_.2.2.1 168 0 (6 * d_ + k_) < 2 * (N_ : Int)) ∧ (0 ≤ S_.2.2.1 157 0 d_ ∧ S_.2.2.1 157 0 d_ < 2 ^ R_) ∧ (0 ≤ S_.2.2.1 158 0 d_ ∧ S_.2.2.1 158 0 d_ < 2 ^ R_) ∧ ∀ p_, p_ < 2 ^ (I_ + R_) → 0 ≤ S_.2.2.1 170 0 (4096 * d_ + p_) ∧ S_.2.2.1 170 0 (4096 * d_ + p_) < 2 ^ R_
theorem sfo_ap {F_ n_ m_ : Nat} {lo_ hi_ sf_ lo'_ hi'_ sf'_ : Nat → Int} (hg_ : F_ ≤ m_ → 2 ≤ lo_ m_ ∧ lo_ m_ < hi_ m_ ∧ hi_ m_ < 2 * (m_ : Int)) (hm_ : m_ < n_) (h_ : sfo F_ lo_ hi_ sf_ m_) (e1_ : ∀ k_, k_ < n_ → lo'_ k_ = lo_ k_) (e2_ : ∀ k_, k_ < n_ → hi'_ k_ = hi_ k_) (e3_ : ∀ k_, k_ < n_ → sf'_ k_ = sf_ k_) : sfo F_ lo'_ hi'_ sf'_ m_ := by
  unfold sfo at *
  rw [e3_ m_ hm_, e3_ _ (by omega)]
  refine ⟨h_.1, h_.2.1, fun a_ b_ => ?_⟩
  have g_ := hg_ a_
  have q_ := h_.2.2 a_ b_
  unfold m3 at *
  rw [e1_ m_ hm_, e2_ m_ hm_, e3_ _ (by omega), e3_ _ (by omega)]
  exact q_
theorem kdB_end {dd_ F_ I_ R_ N_ : Nat} {o_ bg_ : Int} {S_ : sm_S} (h_ : kdB dd_ F_ (I_ : Int) o_ bg_ R_ N_ o_.toNat R_ (2 ^ (I_ + R_)) S_) (hN_ : S_.1 13 0 37 = (N_ : Int)) (hF_ : F_ = 1 + I_ + R_) (hF13_ : F_ ≤ 13) (hR_ : R_ ≤ 6) (ho_ : 1 ≤ o_ ∧ o_ ≤ 16) (hb_ : 0 ≤ bg_ ∧ bg_ < 2 ^ R_) : dRk dd_ S_ := by
  obtain ⟨h1_, ⟨g1_, g2_, g3_, g4_⟩, h3_, h4_, h5_, h6_⟩ := h_
  have gg_ := g1_.2.1
  refine ⟨F_, I_, R_, N_, ⟨h1_.2.1, h1_.2.2.1, h1_.2.2.2.2.2.2.1.trans hN_, h1_.2.2.2.2.2.2.2, hF_, hF13_, hR_, by omega, by omega, by rw [h1_.2.2.2.1]; exact ho_.1, by rw [h1_.2.2.2.1]; exact ho_.2⟩, fun k_ a_ b_ => ?_, ⟨?_, fun m_ hm_ => ?_⟩, fun k_ hk_ => ?_, fun k_ hk_ => ?_, by rw [h1_.2.2.2.2.1]; exact hb_, by rw [h1_.2.2.2.2.2.1]; exact hb_, h6_⟩
  · show 2 ≤ S_.2.2.1 164 0 (2048 * dd_ + k_) ∧ S_.2.2.1 164 0 (2048 * dd_ + k_) < S_.2.2.1 165 0 (2048 * dd_ + k_) ∧ S_.2.2.1 165 0 (2048 * dd_ + k_) < 2 * (k_ : Int)
    rw [(h3_ k_ b_).1, (h3_ k_ b_).2.1]
    exact g1_.2.2 k_ a_ (by omega)
  · have e_ := (h3_ 0 (by omega)).2.2
    rw [Nat.add_zero] at e_
    rw [e_]
    exact g2_.1
  · exact sfo_ap (n_ := N_) (fun a_ => g1_.2.2 m_ a_ (by omega)) hm_ (g2_.2 m_ (by omega)) (fun k_ hk_ => (h3_ k_ hk_).1) (fun k_ hk_ => (h3_ k_ hk_).2.1) (fun k_ hk_ => (h3_ k_ hk_).2.2)
  · rw [h1_.2.2.2.1] at hk_
    rw [h4_ k_ (by omega)]
    have := g3_.2.2.1 k_ hk_
    omega
  · rw [h5_ k_ hk_]
    have := g3_.2.2.2 k_ (by omega)
    omega
theorem dRk_fr {w_ : sx_Wl} {d_ : Nat} {S_ S'_ : sm_S} (h_ : dRk d_ S_) (g_ : ai_fr (sx_W w_) S_ S'_) (hw_ : ∀ t_, t_ < 171 → (153 < t_ ∧ t_ ≠ 161 ∧ t_ ≠ 162 ∧ t_ ≠ 163) → (sx_W w_).2.1 t_ = false) : dRk d_ S'_ := by
  unfold dRk
  rw [fr_arr (t := 154) g_ (hw_ _ (by decide) (by decide)), fr_arr (t := 155) g_ (hw_ _ (by decide) (by decide)), fr_arr (t := 156) g_ (hw_ _ (by decide) (by decide)), fr_arr (t := 157) g_ (hw_ _ (by decide) (by decide)), fr_arr (t := 158) g_ (hw_ _ (by decide) (by decide)), fr_arr (t := 159) g_ (hw_ _ (by decide) (by decide)), fr_arr (t := 160) g_ (hw_ _ (by decide) (by decide)), fr_arr (t := 164) g_ (hw_ _ (by decide) (by decide)), fr_arr (t := 165) g_ (hw_ _ (by decide) (by decide)), fr_arr (t := 166) g_ (hw_ _ (by decide) (by decide)), fr_arr (t := 167) g_ (hw_ _ (by decide) (by decide)), fr_arr (t := 168) g_ (hw_ _ (by decide) (by decide)), fr_arr (t := 170) g_ (hw_ _ (by decide) (by decide))]
  exact h_
/-! M_.keepDesign -/
end
/-! 99.zi5a -/
section
/-! the reference: design; written by wip/p55/gen/vg -/

/-! the_ reference: a_ text becomes a_ design -/
/-- the_ sums that both programs tell come to_ the_ same -/
theorem rT_lm {b_ : Nat → Int} {n_ T_ : Nat} {r_ : pD} {S_ : sm_S} (hn_ : n_ ≤ 1280) (hr_ : p_de b_ n_ = .inr r_) (h_ : rT b_ n_ T_ r_.1 r_.2.1 r_.2.2.1 S_) : p_lm (S_.2.2.1 135 0 (r_.2.2.1 - 1)) (S_.2.2.1 132 0 (r_.2.2.1 - 1)) (S_.2.2.1 134 0 (r_.2.2.1 - 1)) (S_.2.2.1 133 0 (r_.2.2.1 - 1)) = d_lm r_ ∧ S_.2.2.1 132 0 (d_tp r_) = (d_I r_ : Int) ∧ (d_lm r_ = 0 → S_.2.2.1 134 0 (d_tp r_) = (d_R r_ : Int)) := by
  obtain ⟨h1_, h2_⟩ := de_ch hn_ hr_
  obtain ⟨i1_, i2_, i3_, i4_, i5_⟩ := d_in hn_ hr_
  have hA_ : ∀ m_, m_ < r_.2.2.1 → a_ok b_ n_ r_.1 m_ := fun m_ hm_ => (h1_ m_ hm_).2
  have g_ := g_sum hA_
  have rs_ := h_.2.2.2.2.1
  have s_ := sat_eq (r1_ := S_.2.2.1 134 0) (i1_ := S_.2.2.1 135 0) (r2_ := gR r_.1 r_.2.2.1) (i2_ := gI r_.1 r_.2.2.1) hA_ (fun m_ hm_ => (rs_ m_ hm_).2.2.1) (fun m_ hm_ => (g_.2 m_ hm_).1) (fun m_ hm_ => (rs_ m_ hm_).2.2.2) (fun m_ hm_ => (g_.2 m_ hm_).2) (d_tp r_ + 1) (d_tp r_) (by omega) i3_
  have t_ := rs_ (d_tp r_) i3_
  have e_ : p_lm (S_.2.2.1 135 0 (d_tp r_)) (S_.2.2.1 132 0 (d_tp r_)) (S_.2.2.1 134 0 (d_tp r_)) (S_.2.2.1 133 0 (d_tp r_)) = d_lm r_ := by
    rw [s_.1.1, s_.2.1, t_.1, t_.2.1, lm_sat s_.2.2 s_.1.2 (by rw [← i1_]; omega)]
    rfl
  refine ⟨e_, by rw [t_.1, i1_], fun l0_ => ?_⟩
  have l_ := lm_0 l0_
  rw [s_.1.1, i2_]
  unfold mn
  rw [if_neg (by omega)]
theorem gmd_of {b_ : Nat → Int} {n_ T_ m_ : Nat} {r_ : pD} {S_ : sm_S} (hn_ : n_ ≤ 1280) (hr_ : p_de b_ n_ = .inr r_) (h_ : rT b_ n_ T_ r_.1 r_.2.1 r_.2.2.1 S_) (hm_ : m_ < r_.2.2.1) : gmd b_ n_ T_ r_.1 r_.2.1 (dC r_) m_ S_ := by
  obtain ⟨h1_, h2_⟩ := de_ch hn_ hr_
  obtain ⟨f_, A_, c0_, u_, ce_, l_, w1_, w2_, w3_, w4_, -⟩ := dC_r hn_ (h1_ m_ hm_).1
  obtain ⟨u'_, i_, y1_, y2_, y3_⟩ := h_.2.2.2.2.2.2 m_ hm_
  have e_ : u'_ = u_ := by
    unfold bod at w4_
    rw [y1_] at w4_
    cases w4_
    rfl
  exact ⟨f_, A_, c0_, u_, ce_, i_, w1_, w2_, w3_, by rw [← e_]; exact y2_, y3_⟩
def pD0 : pD := ((fun _ => 0, fun _ => 0, fun _ => 0, fun _ => 0, fun _ => 0), fun _ => 0, 0, fun _ => 0, [])
def gz0 : gQ × gE := (([], 0, 0), fun _ => [])
/-- what the_ reference knows when it_ has_ read a_ text -/
def rdy (b_ : Nat → Int) (n_ T_ : Nat) (r_ : pD) (z_ : gQ × gE) (S_ : sm_S) : Prop := p_de b_ n_ = .inr r_ ∧ d_lm r_ = 0 ∧ d_gr r_ z_ ∧ z_.1.2.1 = d_R r_ ∧ (∀ s_, s_ < r_.1.1 (d_tp r_) → r_.1.2.2.1 (40 * d_tp r_ + s_) ≠ 5 → ((z_.2 s_).length : Int) = r_.1.2.2.2.1 (40 * d_tp r_ + s_)) ∧ rT b_ n_ T_ r_.1 r_.2.1 r_.2.2.1 S_
/-! M_.design -/
def vw_363 : sx_Wl := ([(13, 0), (13, 2), (13, 3), (13, 9), (13, 10), (13, 11), (13, 12), (13, 25), (13, 26), (13, 27), (13, 28), (13, 29), (13, 32), (13, 33), (13, 34), (13, 37), (13, 38), (13, 52), (13, 53), (13, 79)], [119, 120, 121, 122, 123, 124, 125, 126, 127, 128, 129, 130, 131, 132, 133, 134, 135, 136, 137, 138, 139, 140, 141, 142, 143, 144, 145, 146, 147, 148, 149, 150, 151, 152, 153, 154, 155, 156, 157, 158, 159, 160, 161, 162, 163, 164, 165, 166, 167, 168, 169, 170, 171, 172, 173, 174, 175, 176], [])
def vq_363 (b_ : Nat → Int) (n_ : Nat) (S0_ : sm_S) (u_ : Option sm_V) (S1_ : sm_S) : Prop := ∃ v_ : Int, u_ = some (.inl v_) ∧ gi S1_ ∧ ai_fr (sx_W vw_363) S0_ S1_ ∧ (((S1_.1 13 0 0) = 1 ∧ (∀ j_ : Nat, j_ < 6 → S0_.2.2.1 153 0 j_ = 1) ∧ (S1_.1 13 0 2) = (S0_.1 13 0 2) ∧ rdf 6 S0_ S1_) ∨ ((S1_.1 13 0 0) = 0 ∧ ∃ sl_ : Nat, sl_ < 6 ∧ S0_.2.2.1 153 0 sl_ = 0 ∧ (∀ j_ : Nat, j_ < sl_ → S0_.2.2.1 153 0 j_ = 1) ∧ (S1_.1 13 0 2) = 0 ∧ rdf sl_ S0_ S1_ ∧ ((dacc b_ n_ ∧ S1_.2.2.1 153 0 sl_ = 1 ∧ dRk sl_ S1_) ∨ (¬ dacc b_ n_ ∧ S1_.2.2.1 153 0 sl_ = 0))))
end
/-! 99.zj1a -/
section
/-! calls that throw; written by wip/p55/gen/vg -/

/-! calls that throw one_ of_ several; arithmetic that may_ wrap -/
theorem sm_T_cale {P_ : sm_P} {d_ d1_ mid_ pc_ n0_ a_ b_ v_ : Nat} {z_ : Int} {L_ : sm_L} {st_ : List sm_V} {S_ : sm_S} {Q_ : sm_R → Prop} {Q1_ : Option sm_V → sm_S → Prop} {Q2_ : Nat → sm_S → Prop} (hx_ : P_.1 mid_ pc_ = some (40, n0_, a_, b_, v_, z_))
    (hc_ : (L_.length = (P_.2.1 mid_).2 && (st_.take b_).length = b_ && ((st_.drop b_).map sm_cat).sum ≤ 8 && (v_ = 1 || sm_rcv (P_.2.1 a_).1 (st_.take b_).reverse) && (sm_vsl (st_.take b_).reverse).length ≤ (P_.2.1 a_).2) = true)
    (hd_ : d1_ ≤ d_) (hsub : sm_T P_ d1_ a_ (0, sm_ent (P_.2.1 a_).2 (st_.take b_).reverse, [], S_) (fun r_ => (∃ u_ S1_, r_ = (.inl u_, S1_, 0) ∧ Q1_ u_ S1_) ∨ ∃ ex_ S1_, r_ = (.inr ex_, S1_, 1) ∧ Q2_ ex_ S1_))
    (hh_ : P_.2.2.1 mid_ = []) (kx_ : ∀ ex_ S1_, Q2_ ex_ S1_ → Q_ (.inr ex_, S1_, 1))
    (kn_ : ∀ u_ S1_, Q1_ u_ S1_ → sm_T P_ (d_ + 1) mid_ (pc_ + 3, L_, u_.toList ++ st_.drop b_, S1_) Q_) : sm_T P_ (d_ + 1) mid_ (pc_, L_, st_, S_) Q_ := by
  refine sm_T_call hx_ hc_ (hsub.deep hd_) (fun u_ S1_ k1_ q_ => ?_) (fun ex_ S1_ k1_ q_ => ?_)
  · rcases q_ with ⟨u'_, S1'_, e_, q_⟩ | ⟨ex'_, S1'_, e_, q_⟩
    · cases e_
      exact (kn_ _ _ q_).mono (fun r_ h_ => by rw [sm_add_0]; exact h_)
    · cases e_
  · rcases q_ with ⟨u'_, S1'_, e_, q_⟩ | ⟨ex'_, S1'_, e_, q_⟩
    · cases e_
    · cases e_
      rw [hh_]
      exact ⟨rfl, kx_ _ _ q_⟩
def i_add (x_ y_ : Int) : Int := (Int32.ofInt x_ + Int32.ofInt y_).toInt
def i_sub (x_ y_ : Int) : Int := (Int32.ofInt x_ - Int32.ofInt y_).toInt
theorem i_add_r (x_ y_ : Int) : -2147483648 ≤ i_add x_ y_ ∧ i_add x_ y_ ≤ 2147483647 := ⟨Int32.le_toInt _, by have := Int32.toInt_lt (Int32.ofInt x_ + Int32.ofInt y_); unfold i_add; omega⟩
theorem i_sub_r (x_ y_ : Int) : -2147483648 ≤ i_sub x_ y_ ∧ i_sub x_ y_ ≤ 2147483647 := ⟨Int32.le_toInt _, by have := Int32.toInt_lt (Int32.ofInt x_ - Int32.ofInt y_); unfold i_sub; omega⟩
/-- all_ designs that are_ there are_ right -/
def dAll (S_ : sm_S) : Prop := ∀ i_, i_ < 6 → S_.1 3 i_ 0 = 1 → dOk i_ S_
/-! ChipFlow.needThere -/
def vw_265e : sx_Wl := ([], [], [])
def vq_265e (k_ : Int) (S0_ : sm_S) (u_ : Option sm_V) (S1_ : sm_S) : Prop := u_ = none ∧ gi S1_ ∧ ai_fr (sx_W vw_265e) S0_ S1_ ∧ (k_ ≠ 0 ∧ S0_ = S1_)
def vx_265e (k_ : Int) (S0_ : sm_S) (S1_ : sm_S) : Prop := gi S1_ ∧ ai_fr (sx_W vw_265e) S0_ S1_ ∧ (k_ = 0 ∧ S1_ = S0_)
set_option maxHeartbeats 400000 in
theorem vc_265e {sc_ : Nat × (Nat → Int)} (k_ : Int) (S0_ : sm_S) (hI_ : gi S0_)  : sm_T (mt_P sc_) 0 265 (0, [some (.inl k_)], [], S0_) (fun ro9_ => (∃ u_ S1_, ro9_ = (.inl u_, S1_, 0) ∧ vq_265e k_ S0_ u_ S1_) ∨ ∃ ex_ S1_, ro9_ = (.inr ex_, S1_, 1) ∧ ex_ ∈ ([0] : List Nat) ∧ vx_265e k_ S0_ S1_) := by
  have hF_ : ai_fr (sx_W vw_265e) S0_ S0_ := ai_fr_rf
  refine sm_T_go 1 (c1 := (1, [some (.inl k_)], [.inl k_], S0_)) rfl ?_
  refine sm_T_b0 (a := 1) (z := 11) rfl (fun cx1_ => ?_) (fun cx1_ => ?_)
  · have cx1_ : k_ ≠ 0 := of_decide_eq_true cx1_
    refine sm_T_rv rfl (Or.inl ⟨_, _, rfl, rfl, hI_, hF_, ?_⟩)
    exact ⟨by omega, rfl⟩
  · have cx1_ : ¬ (k_ ≠ 0) := of_decide_eq_false cx1_
    refine sm_T_th rfl rfl (Or.inr ⟨_, _, rfl, by decide, hI_, hF_, ?_⟩)
    exact ⟨by omega, rfl⟩
end
/-! 99.zj1b -/
section
/-! ChipFlow.needRange -/
def vw_266e : sx_Wl := ([], [], [])
def vq_266e (k_ : Int) (S0_ : sm_S) (u_ : Option sm_V) (S1_ : sm_S) : Prop := u_ = none ∧ gi S1_ ∧ ai_fr (sx_W vw_266e) S0_ S1_ ∧ (k_ ≠ 0 ∧ S0_ = S1_)
def vx_266e (k_ : Int) (S0_ : sm_S) (S1_ : sm_S) : Prop := gi S1_ ∧ ai_fr (sx_W vw_266e) S0_ S1_ ∧ (k_ = 0 ∧ S1_ = S0_)
set_option maxHeartbeats 400000 in
theorem vc_266e {sc_ : Nat × (Nat → Int)} (k_ : Int) (S0_ : sm_S) (hI_ : gi S0_)  : sm_T (mt_P sc_) 0 266 (0, [some (.inl k_)], [], S0_) (fun ro9_ => (∃ u_ S1_, ro9_ = (.inl u_, S1_, 0) ∧ vq_266e k_ S0_ u_ S1_) ∨ ∃ ex_ S1_, ro9_ = (.inr ex_, S1_, 1) ∧ ex_ ∈ ([1] : List Nat) ∧ vx_266e k_ S0_ S1_) := by
  have hF_ : ai_fr (sx_W vw_266e) S0_ S0_ := ai_fr_rf
  refine sm_T_go 1 (c1 := (1, [some (.inl k_)], [.inl k_], S0_)) rfl ?_
  refine sm_T_b0 (a := 1) (z := 11) rfl (fun cx1_ => ?_) (fun cx1_ => ?_)
  · have cx1_ : k_ ≠ 0 := of_decide_eq_true cx1_
    refine sm_T_rv rfl (Or.inl ⟨_, _, rfl, rfl, hI_, hF_, ?_⟩)
    exact ⟨by omega, rfl⟩
  · have cx1_ : ¬ (k_ ≠ 0) := of_decide_eq_false cx1_
    refine sm_T_th rfl rfl (Or.inr ⟨_, _, rfl, by decide, hI_, hF_, ?_⟩)
    exact ⟨by omega, rfl⟩
end
/-! 99.zj1c -/
section
/-! ChipFlow.needNow -/
def vw_267e : sx_Wl := ([], [], [])
def vq_267e (k_ : Int) (S0_ : sm_S) (u_ : Option sm_V) (S1_ : sm_S) : Prop := u_ = none ∧ gi S1_ ∧ ai_fr (sx_W vw_267e) S0_ S1_ ∧ (k_ ≠ 0 ∧ S0_ = S1_)
def vx_267e (k_ : Int) (S0_ : sm_S) (S1_ : sm_S) : Prop := gi S1_ ∧ ai_fr (sx_W vw_267e) S0_ S1_ ∧ (k_ = 0 ∧ S1_ = S0_)
set_option maxHeartbeats 400000 in
theorem vc_267e {sc_ : Nat × (Nat → Int)} (k_ : Int) (S0_ : sm_S) (hI_ : gi S0_)  : sm_T (mt_P sc_) 0 267 (0, [some (.inl k_)], [], S0_) (fun ro9_ => (∃ u_ S1_, ro9_ = (.inl u_, S1_, 0) ∧ vq_267e k_ S0_ u_ S1_) ∨ ∃ ex_ S1_, ro9_ = (.inr ex_, S1_, 1) ∧ ex_ ∈ ([2] : List Nat) ∧ vx_267e k_ S0_ S1_) := by
  have hF_ : ai_fr (sx_W vw_267e) S0_ S0_ := ai_fr_rf
  refine sm_T_go 1 (c1 := (1, [some (.inl k_)], [.inl k_], S0_)) rfl ?_
  refine sm_T_b0 (a := 1) (z := 11) rfl (fun cx1_ => ?_) (fun cx1_ => ?_)
  · have cx1_ : k_ ≠ 0 := of_decide_eq_true cx1_
    refine sm_T_rv rfl (Or.inl ⟨_, _, rfl, rfl, hI_, hF_, ?_⟩)
    exact ⟨by omega, rfl⟩
  · have cx1_ : ¬ (k_ ≠ 0) := of_decide_eq_false cx1_
    refine sm_T_th rfl rfl (Or.inr ⟨_, _, rfl, by decide, hI_, hF_, ?_⟩)
    exact ⟨by omega, rfl⟩
end
/-! 99.zj1d -/
section
/-! ChipFlow.needRoom -/
def vw_268e : sx_Wl := ([], [], [])
def vq_268e (k_ : Int) (S0_ : sm_S) (u_ : Option sm_V) (S1_ : sm_S) : Prop := u_ = none ∧ gi S1_ ∧ ai_fr (sx_W vw_268e) S0_ S1_ ∧ (k_ ≠ 0 ∧ S0_ = S1_)
def vx_268e (k_ : Int) (S0_ : sm_S) (S1_ : sm_S) : Prop := gi S1_ ∧ ai_fr (sx_W vw_268e) S0_ S1_ ∧ (k_ = 0 ∧ S1_ = S0_)
set_option maxHeartbeats 400000 in
theorem vc_268e {sc_ : Nat × (Nat → Int)} (k_ : Int) (S0_ : sm_S) (hI_ : gi S0_)  : sm_T (mt_P sc_) 0 268 (0, [some (.inl k_)], [], S0_) (fun ro9_ => (∃ u_ S1_, ro9_ = (.inl u_, S1_, 0) ∧ vq_268e k_ S0_ u_ S1_) ∨ ∃ ex_ S1_, ro9_ = (.inr ex_, S1_, 1) ∧ ex_ ∈ ([3] : List Nat) ∧ vx_268e k_ S0_ S1_) := by
  have hF_ : ai_fr (sx_W vw_268e) S0_ S0_ := ai_fr_rf
  refine sm_T_go 1 (c1 := (1, [some (.inl k_)], [.inl k_], S0_)) rfl ?_
  refine sm_T_b0 (a := 1) (z := 11) rfl (fun cx1_ => ?_) (fun cx1_ => ?_)
  · have cx1_ : k_ ≠ 0 := of_decide_eq_true cx1_
    refine sm_T_rv rfl (Or.inl ⟨_, _, rfl, rfl, hI_, hF_, ?_⟩)
    exact ⟨by omega, rfl⟩
  · have cx1_ : ¬ (k_ ≠ 0) := of_decide_eq_false cx1_
    refine sm_T_th rfl rfl (Or.inr ⟨_, _, rfl, by decide, hI_, hF_, ?_⟩)
    exact ⟨by omega, rfl⟩
end
/-! 99.zj1e -/
section
/-! ChipFlow.designAt -/
def vw_270 : sx_Wl := ([], [], [])
def vq_270 (k_ : Int) (S0_ : sm_S) (u_ : Option sm_V) (S1_ : sm_S) : Prop := u_ = some (.inr (.inr (some (3, k_.toNat)))) ∧ gi S1_ ∧ ai_fr (sx_W vw_270) S0_ S1_ ∧ (S0_ = S1_ ∧ (0 ≤ k_ ∧ k_ < 6) ∧ S0_.1 3 k_.toNat 0 = 1)
def vx_270 (k_ : Int) (S0_ : sm_S) (S1_ : sm_S) : Prop := gi S1_ ∧ ai_fr (sx_W vw_270) S0_ S1_ ∧ (S1_ = S0_)
set_option maxHeartbeats 400000 in
theorem vc_270 {sc_ : Nat × (Nat → Int)} (k_ : Int) (S0_ : sm_S) (hI_ : gi S0_)  : sm_T (mt_P sc_) 1 270 (0, [some (.inr (.inr (some (12, 0)))), some (.inl k_)], [], S0_) (fun ro9_ => (∃ u_ S1_, ro9_ = (.inl u_, S1_, 0) ∧ vq_270 k_ S0_ u_ S1_) ∨ ∃ ex_ S1_, ro9_ = (.inr ex_, S1_, 1) ∧ ex_ ∈ ([0] : List Nat) ∧ vx_270 k_ S0_ S1_) := by
  have hF_ : ai_fr (sx_W vw_270) S0_ S0_ := ai_fr_rf
  refine sm_T_go 1 (c1 := (1, [some (.inr (.inr (some (12, 0)))), some (.inl k_)], [.inl k_], S0_)) rfl ?_
  refine sm_T_b0 (a := 2) (z := 25) rfl (fun cx1_ => ?_) (fun cx1_ => ?_)
  · have cx1_ : k_ < 0 := of_decide_eq_true cx1_
    refine sm_T_go 1 (c1 := (27, [some (.inr (.inr (some (12, 0)))), some (.inl k_)], [.inl 0], S0_)) rfl ?_
    refine sm_T_cale (d1_ := 0) (Q1_ := vq_265e 0 S0_) (Q2_ := (fun ex_ S1_ => ex_ ∈ ([0] : List Nat) ∧ vx_265e 0 S0_ S1_)) rfl rfl (by decide) (vc_265e 0 S0_ hI_ ) rfl (fun xx7_ Sx2_ px5_ => ?_) (fun u_ Sx2_ px5_ => ?_)
    · obtain ⟨px5m, hIx3_, hFx4_, px5_⟩ := px5_
      refine Or.inr ⟨_, _, rfl, by first | exact px5m | (simp only [List.mem_cons, List.not_mem_nil, or_false] at px5m ⊢; omega), hIx3_, ai_fr_tr hF_ (fr_le hFx4_ rfl), ?_⟩
      exact px5_.2
    · exact absurd rfl px5_.2.2.2.1
  · have cx1_ : ¬ (k_ < 0) := of_decide_eq_false cx1_
    refine sm_T_go 2 (c1 := (7, [some (.inr (.inr (some (12, 0)))), some (.inl k_)], [.inl 6, .inl k_], S0_)) rfl ?_
    refine sm_T_br (a := 3) (z := 19) rfl (fun cx8_ => ?_) (fun cx8_ => ?_)
    · have cx8_ : 6 ≤ k_ := of_decide_eq_true cx8_
      refine sm_T_go 1 (c1 := (27, [some (.inr (.inr (some (12, 0)))), some (.inl k_)], [.inl 0], S0_)) rfl ?_
      refine sm_T_cale (d1_ := 0) (Q1_ := vq_265e 0 S0_) (Q2_ := (fun ex_ S1_ => ex_ ∈ ([0] : List Nat) ∧ vx_265e 0 S0_ S1_)) rfl rfl (by decide) (vc_265e 0 S0_ hI_ ) rfl (fun xx14_ Sx9_ px12_ => ?_) (fun u_ Sx9_ px12_ => ?_)
      · obtain ⟨px12m, hIx10_, hFx11_, px12_⟩ := px12_
        refine Or.inr ⟨_, _, rfl, by first | exact px12m | (simp only [List.mem_cons, List.not_mem_nil, or_false] at px12m ⊢; omega), hIx10_, ai_fr_tr hF_ (fr_le hFx11_ rfl), ?_⟩
        exact px12_.2
      · exact absurd rfl px12_.2.2.2.1
    · have cx8_ : ¬ (6 ≤ k_) := of_decide_eq_false cx8_
      refine sm_T_go 3 (c1 := (15, [some (.inr (.inr (some (12, 0)))), some (.inl k_)], [.inl k_, .inr (.inr (some (110, 0)))], S0_)) rfl ?_
      refine sm_T_aald (t0 := 4) (n := 6) rfl rfl (by omega) (by omega) ?_
      have bx15_ : 0 ≤ S0_.1 3 k_.toNat 0 ∧ S0_.1 3 k_.toNat 0 ≤ 1 := hI_.1 3 k_.toNat 0 rfl
      refine sm_T_go 1 (c1 := (19, [some (.inr (.inr (some (12, 0)))), some (.inl k_)], [.inl (S0_.1 3 k_.toNat 0)], S0_)) rfl ?_
      refine sm_T_b0 (a := 0) (z := 7) rfl (fun cx16_ => ?_) (fun cx16_ => ?_)
      · have cx16_ : (S0_.1 3 k_.toNat 0) = 0 := of_decide_eq_true cx16_
        refine sm_T_go 1 (c1 := (27, [some (.inr (.inr (some (12, 0)))), some (.inl k_)], [.inl 0], S0_)) rfl ?_
        refine sm_T_cale (d1_ := 0) (Q1_ := vq_265e 0 S0_) (Q2_ := (fun ex_ S1_ => ex_ ∈ ([0] : List Nat) ∧ vx_265e 0 S0_ S1_)) rfl rfl (by decide) (vc_265e 0 S0_ hI_ ) rfl (fun xx22_ Sx17_ px20_ => ?_) (fun u_ Sx17_ px20_ => ?_)
        · obtain ⟨px20m, hIx18_, hFx19_, px20_⟩ := px20_
          refine Or.inr ⟨_, _, rfl, by first | exact px20m | (simp only [List.mem_cons, List.not_mem_nil, or_false] at px20m ⊢; omega), hIx18_, ai_fr_tr hF_ (fr_le hFx19_ rfl), ?_⟩
          exact px20_.2
        · exact absurd rfl px20_.2.2.2.1
      · have cx16_ : ¬ ((S0_.1 3 k_.toNat 0) = 0) := of_decide_eq_false cx16_
        refine sm_T_go 2 (c1 := (27, [some (.inr (.inr (some (12, 0)))), some (.inl k_)], [.inl 1], S0_)) rfl ?_
        refine sm_T_cale (d1_ := 0) (Q1_ := vq_265e 1 S0_) (Q2_ := (fun ex_ S1_ => ex_ ∈ ([0] : List Nat) ∧ vx_265e 1 S0_ S1_)) rfl rfl (by decide) (vc_265e 1 S0_ hI_ ) rfl (fun xx28_ Sx23_ px26_ => ?_) (fun u_ Sx23_ px26_ => ?_)
        · exact absurd px26_.2.2.2.1 (by decide)
        obtain ⟨rfl, -, -, px26_, rfl⟩ := px26_
        refine sm_T_go 3 (c1 := (35, [some (.inr (.inr (some (12, 0)))), some (.inl k_)], [.inl k_, .inr (.inr (some (110, 0)))], S0_)) rfl ?_
        refine sm_T_aald (t0 := 4) (n := 6) rfl rfl (by omega) (by omega) ?_
        refine sm_T_ra rfl (Or.inl ⟨_, _, rfl, rfl, hI_, hF_, ?_⟩)
        exact ⟨rfl, by omega, by omega⟩
end
/-! 99.zj1f -/
section
/-! ChipFlow.libraryAt -/
def vw_271 : sx_Wl := ([], [], [])
def vq_271 (k_ : Int) (S0_ : sm_S) (u_ : Option sm_V) (S1_ : sm_S) : Prop := u_ = some (.inr (.inr (some (5, k_.toNat)))) ∧ gi S1_ ∧ ai_fr (sx_W vw_271) S0_ S1_ ∧ (S0_ = S1_ ∧ (0 ≤ k_ ∧ k_ < 3) ∧ S0_.1 5 k_.toNat 0 = 1)
def vx_271 (k_ : Int) (S0_ : sm_S) (S1_ : sm_S) : Prop := gi S1_ ∧ ai_fr (sx_W vw_271) S0_ S1_ ∧ (S1_ = S0_)
set_option maxHeartbeats 400000 in
theorem vc_271 {sc_ : Nat × (Nat → Int)} (k_ : Int) (S0_ : sm_S) (hI_ : gi S0_)  : sm_T (mt_P sc_) 1 271 (0, [some (.inr (.inr (some (12, 0)))), some (.inl k_)], [], S0_) (fun ro9_ => (∃ u_ S1_, ro9_ = (.inl u_, S1_, 0) ∧ vq_271 k_ S0_ u_ S1_) ∨ ∃ ex_ S1_, ro9_ = (.inr ex_, S1_, 1) ∧ ex_ ∈ ([0] : List Nat) ∧ vx_271 k_ S0_ S1_) := by
  have hF_ : ai_fr (sx_W vw_271) S0_ S0_ := ai_fr_rf
  refine sm_T_go 1 (c1 := (1, [some (.inr (.inr (some (12, 0)))), some (.inl k_)], [.inl k_], S0_)) rfl ?_
  refine sm_T_b0 (a := 2) (z := 24) rfl (fun cx1_ => ?_) (fun cx1_ => ?_)
  · have cx1_ : k_ < 0 := of_decide_eq_true cx1_
    refine sm_T_go 1 (c1 := (26, [some (.inr (.inr (some (12, 0)))), some (.inl k_)], [.inl 0], S0_)) rfl ?_
    refine sm_T_cale (d1_ := 0) (Q1_ := vq_265e 0 S0_) (Q2_ := (fun ex_ S1_ => ex_ ∈ ([0] : List Nat) ∧ vx_265e 0 S0_ S1_)) rfl rfl (by decide) (vc_265e 0 S0_ hI_ ) rfl (fun xx7_ Sx2_ px5_ => ?_) (fun u_ Sx2_ px5_ => ?_)
    · obtain ⟨px5m, hIx3_, hFx4_, px5_⟩ := px5_
      refine Or.inr ⟨_, _, rfl, by first | exact px5m | (simp only [List.mem_cons, List.not_mem_nil, or_false] at px5m ⊢; omega), hIx3_, ai_fr_tr hF_ (fr_le hFx4_ rfl), ?_⟩
      exact px5_.2
    · exact absurd rfl px5_.2.2.2.1
  · have cx1_ : ¬ (k_ < 0) := of_decide_eq_false cx1_
    refine sm_T_go 2 (c1 := (6, [some (.inr (.inr (some (12, 0)))), some (.inl k_)], [.inl 3, .inl k_], S0_)) rfl ?_
    refine sm_T_br (a := 3) (z := 19) rfl (fun cx8_ => ?_) (fun cx8_ => ?_)
    · have cx8_ : 3 ≤ k_ := of_decide_eq_true cx8_
      refine sm_T_go 1 (c1 := (26, [some (.inr (.inr (some (12, 0)))), some (.inl k_)], [.inl 0], S0_)) rfl ?_
      refine sm_T_cale (d1_ := 0) (Q1_ := vq_265e 0 S0_) (Q2_ := (fun ex_ S1_ => ex_ ∈ ([0] : List Nat) ∧ vx_265e 0 S0_ S1_)) rfl rfl (by decide) (vc_265e 0 S0_ hI_ ) rfl (fun xx14_ Sx9_ px12_ => ?_) (fun u_ Sx9_ px12_ => ?_)
      · obtain ⟨px12m, hIx10_, hFx11_, px12_⟩ := px12_
        refine Or.inr ⟨_, _, rfl, by first | exact px12m | (simp only [List.mem_cons, List.not_mem_nil, or_false] at px12m ⊢; omega), hIx10_, ai_fr_tr hF_ (fr_le hFx11_ rfl), ?_⟩
        exact px12_.2
      · exact absurd rfl px12_.2.2.2.1
    · have cx8_ : ¬ (3 ≤ k_) := of_decide_eq_false cx8_
      refine sm_T_go 3 (c1 := (14, [some (.inr (.inr (some (12, 0)))), some (.inl k_)], [.inl k_, .inr (.inr (some (111, 0)))], S0_)) rfl ?_
      refine sm_T_aald (t0 := 5) (n := 3) rfl rfl (by omega) (by omega) ?_
      have bx15_ : 0 ≤ S0_.1 5 k_.toNat 0 ∧ S0_.1 5 k_.toNat 0 ≤ 1 := hI_.1 5 k_.toNat 0 rfl
      refine sm_T_go 1 (c1 := (18, [some (.inr (.inr (some (12, 0)))), some (.inl k_)], [.inl (S0_.1 5 k_.toNat 0)], S0_)) rfl ?_
      refine sm_T_b0 (a := 0) (z := 7) rfl (fun cx16_ => ?_) (fun cx16_ => ?_)
      · have cx16_ : (S0_.1 5 k_.toNat 0) = 0 := of_decide_eq_true cx16_
        refine sm_T_go 1 (c1 := (26, [some (.inr (.inr (some (12, 0)))), some (.inl k_)], [.inl 0], S0_)) rfl ?_
        refine sm_T_cale (d1_ := 0) (Q1_ := vq_265e 0 S0_) (Q2_ := (fun ex_ S1_ => ex_ ∈ ([0] : List Nat) ∧ vx_265e 0 S0_ S1_)) rfl rfl (by decide) (vc_265e 0 S0_ hI_ ) rfl (fun xx22_ Sx17_ px20_ => ?_) (fun u_ Sx17_ px20_ => ?_)
        · obtain ⟨px20m, hIx18_, hFx19_, px20_⟩ := px20_
          refine Or.inr ⟨_, _, rfl, by first | exact px20m | (simp only [List.mem_cons, List.not_mem_nil, or_false] at px20m ⊢; omega), hIx18_, ai_fr_tr hF_ (fr_le hFx19_ rfl), ?_⟩
          exact px20_.2
        · exact absurd rfl px20_.2.2.2.1
      · have cx16_ : ¬ ((S0_.1 5 k_.toNat 0) = 0) := of_decide_eq_false cx16_
        refine sm_T_go 2 (c1 := (26, [some (.inr (.inr (some (12, 0)))), some (.inl k_)], [.inl 1], S0_)) rfl ?_
        refine sm_T_cale (d1_ := 0) (Q1_ := vq_265e 1 S0_) (Q2_ := (fun ex_ S1_ => ex_ ∈ ([0] : List Nat) ∧ vx_265e 1 S0_ S1_)) rfl rfl (by decide) (vc_265e 1 S0_ hI_ ) rfl (fun xx28_ Sx23_ px26_ => ?_) (fun u_ Sx23_ px26_ => ?_)
        · exact absurd px26_.2.2.2.1 (by decide)
        obtain ⟨rfl, -, -, px26_, rfl⟩ := px26_
        refine sm_T_go 3 (c1 := (34, [some (.inr (.inr (some (12, 0)))), some (.inl k_)], [.inl k_, .inr (.inr (some (111, 0)))], S0_)) rfl ?_
        refine sm_T_aald (t0 := 5) (n := 3) rfl rfl (by omega) (by omega) ?_
        refine sm_T_ra rfl (Or.inl ⟨_, _, rfl, rfl, hI_, hF_, ?_⟩)
        exact ⟨rfl, by omega, by omega⟩
end
/-! 99.zj1g -/
section
/-! ChipFlow.chipAt -/
def vw_272 : sx_Wl := ([], [], [])
def vq_272 (k_ : Int) (S0_ : sm_S) (u_ : Option sm_V) (S1_ : sm_S) : Prop := u_ = some (.inr (.inr (some (2, k_.toNat)))) ∧ gi S1_ ∧ ai_fr (sx_W vw_272) S0_ S1_ ∧ (S0_ = S1_ ∧ (0 ≤ k_ ∧ k_ < 4) ∧ S0_.1 2 k_.toNat 0 = 1)
def vx_272 (k_ : Int) (S0_ : sm_S) (S1_ : sm_S) : Prop := gi S1_ ∧ ai_fr (sx_W vw_272) S0_ S1_ ∧ (S1_ = S0_)
set_option maxHeartbeats 400000 in
theorem vc_272 {sc_ : Nat × (Nat → Int)} (k_ : Int) (S0_ : sm_S) (hI_ : gi S0_)  : sm_T (mt_P sc_) 1 272 (0, [some (.inr (.inr (some (12, 0)))), some (.inl k_)], [], S0_) (fun ro9_ => (∃ u_ S1_, ro9_ = (.inl u_, S1_, 0) ∧ vq_272 k_ S0_ u_ S1_) ∨ ∃ ex_ S1_, ro9_ = (.inr ex_, S1_, 1) ∧ ex_ ∈ ([0] : List Nat) ∧ vx_272 k_ S0_ S1_) := by
  have hF_ : ai_fr (sx_W vw_272) S0_ S0_ := ai_fr_rf
  refine sm_T_go 1 (c1 := (1, [some (.inr (.inr (some (12, 0)))), some (.inl k_)], [.inl k_], S0_)) rfl ?_
  refine sm_T_b0 (a := 2) (z := 24) rfl (fun cx1_ => ?_) (fun cx1_ => ?_)
  · have cx1_ : k_ < 0 := of_decide_eq_true cx1_
    refine sm_T_go 1 (c1 := (26, [some (.inr (.inr (some (12, 0)))), some (.inl k_)], [.inl 0], S0_)) rfl ?_
    refine sm_T_cale (d1_ := 0) (Q1_ := vq_265e 0 S0_) (Q2_ := (fun ex_ S1_ => ex_ ∈ ([0] : List Nat) ∧ vx_265e 0 S0_ S1_)) rfl rfl (by decide) (vc_265e 0 S0_ hI_ ) rfl (fun xx7_ Sx2_ px5_ => ?_) (fun u_ Sx2_ px5_ => ?_)
    · obtain ⟨px5m, hIx3_, hFx4_, px5_⟩ := px5_
      refine Or.inr ⟨_, _, rfl, by first | exact px5m | (simp only [List.mem_cons, List.not_mem_nil, or_false] at px5m ⊢; omega), hIx3_, ai_fr_tr hF_ (fr_le hFx4_ rfl), ?_⟩
      exact px5_.2
    · exact absurd rfl px5_.2.2.2.1
  · have cx1_ : ¬ (k_ < 0) := of_decide_eq_false cx1_
    refine sm_T_go 2 (c1 := (6, [some (.inr (.inr (some (12, 0)))), some (.inl k_)], [.inl 4, .inl k_], S0_)) rfl ?_
    refine sm_T_br (a := 3) (z := 19) rfl (fun cx8_ => ?_) (fun cx8_ => ?_)
    · have cx8_ : 4 ≤ k_ := of_decide_eq_true cx8_
      refine sm_T_go 1 (c1 := (26, [some (.inr (.inr (some (12, 0)))), some (.inl k_)], [.inl 0], S0_)) rfl ?_
      refine sm_T_cale (d1_ := 0) (Q1_ := vq_265e 0 S0_) (Q2_ := (fun ex_ S1_ => ex_ ∈ ([0] : List Nat) ∧ vx_265e 0 S0_ S1_)) rfl rfl (by decide) (vc_265e 0 S0_ hI_ ) rfl (fun xx14_ Sx9_ px12_ => ?_) (fun u_ Sx9_ px12_ => ?_)
      · obtain ⟨px12m, hIx10_, hFx11_, px12_⟩ := px12_
        refine Or.inr ⟨_, _, rfl, by first | exact px12m | (simp only [List.mem_cons, List.not_mem_nil, or_false] at px12m ⊢; omega), hIx10_, ai_fr_tr hF_ (fr_le hFx11_ rfl), ?_⟩
        exact px12_.2
      · exact absurd rfl px12_.2.2.2.1
    · have cx8_ : ¬ (4 ≤ k_) := of_decide_eq_false cx8_
      refine sm_T_go 3 (c1 := (14, [some (.inr (.inr (some (12, 0)))), some (.inl k_)], [.inl k_, .inr (.inr (some (112, 0)))], S0_)) rfl ?_
      refine sm_T_aald (t0 := 6) (n := 4) rfl rfl (by omega) (by omega) ?_
      have bx15_ : 0 ≤ S0_.1 2 k_.toNat 0 ∧ S0_.1 2 k_.toNat 0 ≤ 1 := hI_.1 2 k_.toNat 0 rfl
      refine sm_T_go 1 (c1 := (18, [some (.inr (.inr (some (12, 0)))), some (.inl k_)], [.inl (S0_.1 2 k_.toNat 0)], S0_)) rfl ?_
      refine sm_T_b0 (a := 0) (z := 7) rfl (fun cx16_ => ?_) (fun cx16_ => ?_)
      · have cx16_ : (S0_.1 2 k_.toNat 0) = 0 := of_decide_eq_true cx16_
        refine sm_T_go 1 (c1 := (26, [some (.inr (.inr (some (12, 0)))), some (.inl k_)], [.inl 0], S0_)) rfl ?_
        refine sm_T_cale (d1_ := 0) (Q1_ := vq_265e 0 S0_) (Q2_ := (fun ex_ S1_ => ex_ ∈ ([0] : List Nat) ∧ vx_265e 0 S0_ S1_)) rfl rfl (by decide) (vc_265e 0 S0_ hI_ ) rfl (fun xx22_ Sx17_ px20_ => ?_) (fun u_ Sx17_ px20_ => ?_)
        · obtain ⟨px20m, hIx18_, hFx19_, px20_⟩ := px20_
          refine Or.inr ⟨_, _, rfl, by first | exact px20m | (simp only [List.mem_cons, List.not_mem_nil, or_false] at px20m ⊢; omega), hIx18_, ai_fr_tr hF_ (fr_le hFx19_ rfl), ?_⟩
          exact px20_.2
        · exact absurd rfl px20_.2.2.2.1
      · have cx16_ : ¬ ((S0_.1 2 k_.toNat 0) = 0) := of_decide_eq_false cx16_
        refine sm_T_go 2 (c1 := (26, [some (.inr (.inr (some (12, 0)))), some (.inl k_)], [.inl 1], S0_)) rfl ?_
        refine sm_T_cale (d1_ := 0) (Q1_ := vq_265e 1 S0_) (Q2_ := (fun ex_ S1_ => ex_ ∈ ([0] : List Nat) ∧ vx_265e 1 S0_ S1_)) rfl rfl (by decide) (vc_265e 1 S0_ hI_ ) rfl (fun xx28_ Sx23_ px26_ => ?_) (fun u_ Sx23_ px26_ => ?_)
        · exact absurd px26_.2.2.2.1 (by decide)
        obtain ⟨rfl, -, -, px26_, rfl⟩ := px26_
        refine sm_T_go 3 (c1 := (34, [some (.inr (.inr (some (12, 0)))), some (.inl k_)], [.inl k_, .inr (.inr (some (112, 0)))], S0_)) rfl ?_
        refine sm_T_aald (t0 := 6) (n := 4) rfl rfl (by omega) (by omega) ?_
        refine sm_T_ra rfl (Or.inl ⟨_, _, rfl, rfl, hI_, hF_, ?_⟩)
        exact ⟨rfl, by omega, by omega⟩
end
/-! 99.zj2a -/
section
/-! the face of the class: small calls; written by wip/p55/gen/vg -/
/-! ChipFlow.fault -/
def vw_215 : sx_Wl := ([], [], [])
def vq_215  (S0_ : sm_S) (u_ : Option sm_V) (S1_ : sm_S) : Prop := ∃ v_ : Int, u_ = some (.inl v_) ∧ gi S1_ ∧ ai_fr (sx_W vw_215) S0_ S1_ ∧ (True)
set_option maxHeartbeats 400000 in
theorem vc_215 {sc_ : Nat × (Nat → Int)}  (S0_ : sm_S) (hI_ : gi S0_)  : sm_T (mt_P sc_) 0 215 (0, [some (.inr (.inr (some (12, 0))))], [], S0_) (fun ro9_ => ∃ u_ S1_, ro9_ = (.inl u_, S1_, 0) ∧ vq_215  S0_ u_ S1_) := by
  have hF_ : ai_fr (sx_W vw_215) S0_ S0_ := ai_fr_rf
  have bx1_ : 0 ≤ S0_.1 12 0 10 ∧ S0_.1 12 0 10 ≤ 23 := hI_.1 12 0 10 rfl
  refine sm_T_go 2 (c1 := (4, [some (.inr (.inr (some (12, 0))))], [.inl (S0_.1 12 0 10)], S0_)) rfl ?_
  refine sm_T_ri rfl ⟨_, _, rfl, _, rfl, hI_, hF_, ?_⟩
  trivial
end
/-! 99.zj2b -/
section
/-! ChipFlow.tape -/
def vw_216 : sx_Wl := ([], [], [])
def vq_216  (S0_ : sm_S) (u_ : Option sm_V) (S1_ : sm_S) : Prop := ∃ v_ : Int, u_ = some (.inl v_) ∧ gi S1_ ∧ ai_fr (sx_W vw_216) S0_ S1_ ∧ (v_ = (S1_.1 10 0 1) ∧ S1_ = S0_)
set_option maxHeartbeats 400000 in
theorem vc_216 {sc_ : Nat × (Nat → Int)}  (S0_ : sm_S) (hI_ : gi S0_)  : sm_T (mt_P sc_) 0 216 (0, [some (.inr (.inr (some (12, 0))))], [], S0_) (fun ro9_ => ∃ u_ S1_, ro9_ = (.inl u_, S1_, 0) ∧ vq_216  S0_ u_ S1_) := by
  have hF_ : ai_fr (sx_W vw_216) S0_ S0_ := ai_fr_rf
  have bx1_ : 0 ≤ S0_.1 10 0 1 ∧ S0_.1 10 0 1 ≤ 1280 := hI_.1 10 0 1 rfl
  refine sm_T_go 3 (c1 := (7, [some (.inr (.inr (some (12, 0))))], [.inl (S0_.1 10 0 1)], S0_)) rfl ?_
  refine sm_T_ri rfl ⟨_, _, rfl, _, rfl, hI_, hF_, ?_⟩
  exact ⟨rfl, rfl⟩
end
/-! 99.zj2c -/
section
/-! ChipFlow.end -/
end
/-! 99.zj2d -/
section
/-! ChipFlow.isThere -/
def vw_218 : sx_Wl := ([], [], [])
def vq_218 (kd_ : Int) (k_ : Int) (S0_ : sm_S) (u_ : Option sm_V) (S1_ : sm_S) : Prop := ∃ v_ : Int, u_ = some (.inl v_) ∧ gi S1_ ∧ ai_fr (sx_W vw_218) S0_ S1_ ∧ (S1_ = S0_)
def vx_218 (kd_ : Int) (k_ : Int) (S0_ : sm_S) (S1_ : sm_S) : Prop := gi S1_ ∧ ai_fr (sx_W vw_218) S0_ S1_ ∧ (S1_ = S0_)
set_option maxHeartbeats 400000 in
theorem vc_218 {sc_ : Nat × (Nat → Int)} (kd_ : Int) (k_ : Int) (S0_ : sm_S) (hI_ : gi S0_)  : sm_T (mt_P sc_) 1 218 (0, [some (.inr (.inr (some (12, 0)))), some (.inl kd_), some (.inl k_)], [], S0_) (fun ro9_ => (∃ u_ S1_, ro9_ = (.inl u_, S1_, 0) ∧ vq_218 kd_ k_ S0_ u_ S1_) ∨ ∃ ex_ S1_, ro9_ = (.inr ex_, S1_, 1) ∧ ex_ ∈ ([1] : List Nat) ∧ vx_218 kd_ k_ S0_ S1_) := by
  have hF_ : ai_fr (sx_W vw_218) S0_ S0_ := ai_fr_rf
  refine sm_T_go 1 (c1 := (1, [some (.inr (.inr (some (12, 0)))), some (.inl kd_), some (.inl k_)], [.inl kd_], S0_)) rfl ?_
  refine sm_T_b0 (a := 2) (z := 12) rfl (fun cx1_ => ?_) (fun cx1_ => ?_)
  · have cx1_ : kd_ < 0 := of_decide_eq_true cx1_
    refine sm_T_go 1 (c1 := (14, [some (.inr (.inr (some (12, 0)))), some (.inl kd_), some (.inl k_)], [.inl 0], S0_)) rfl ?_
    refine sm_T_cale (d1_ := 0) (Q1_ := vq_266e 0 S0_) (Q2_ := (fun ex_ S1_ => ex_ ∈ ([1] : List Nat) ∧ vx_266e 0 S0_ S1_)) rfl rfl (by decide) (vc_266e 0 S0_ hI_ ) rfl (fun xx7_ Sx2_ px5_ => ?_) (fun u_ Sx2_ px5_ => ?_)
    · obtain ⟨px5m, hIx3_, hFx4_, px5_⟩ := px5_
      refine Or.inr ⟨_, _, rfl, by first | exact px5m | (simp only [List.mem_cons, List.not_mem_nil, or_false] at px5m ⊢; omega), hIx3_, ai_fr_tr hF_ (fr_le hFx4_ rfl), ?_⟩
      first | exact px5_.2 | exact px5_ | rfl
    · exact absurd rfl px5_.2.2.2.1
  · have cx1_ : ¬ (kd_ < 0) := of_decide_eq_false cx1_
    refine sm_T_go 2 (c1 := (6, [some (.inr (.inr (some (12, 0)))), some (.inl kd_), some (.inl k_)], [.inl 2, .inl kd_], S0_)) rfl ?_
    refine sm_T_br (a := 4) (z := 7) rfl (fun cx8_ => ?_) (fun cx8_ => ?_)
    · have cx8_ : 2 < kd_ := of_decide_eq_true cx8_
      refine sm_T_go 1 (c1 := (14, [some (.inr (.inr (some (12, 0)))), some (.inl kd_), some (.inl k_)], [.inl 0], S0_)) rfl ?_
      refine sm_T_cale (d1_ := 0) (Q1_ := vq_266e 0 S0_) (Q2_ := (fun ex_ S1_ => ex_ ∈ ([1] : List Nat) ∧ vx_266e 0 S0_ S1_)) rfl rfl (by decide) (vc_266e 0 S0_ hI_ ) rfl (fun xx14_ Sx9_ px12_ => ?_) (fun u_ Sx9_ px12_ => ?_)
      · obtain ⟨px12m, hIx10_, hFx11_, px12_⟩ := px12_
        refine Or.inr ⟨_, _, rfl, by first | exact px12m | (simp only [List.mem_cons, List.not_mem_nil, or_false] at px12m ⊢; omega), hIx10_, ai_fr_tr hF_ (fr_le hFx11_ rfl), ?_⟩
        first | exact px12_.2 | exact px12_ | rfl
      · exact absurd rfl px12_.2.2.2.1
    · have cx8_ : ¬ (2 < kd_) := of_decide_eq_false cx8_
      refine sm_T_go 2 (c1 := (14, [some (.inr (.inr (some (12, 0)))), some (.inl kd_), some (.inl k_)], [.inl 1], S0_)) rfl ?_
      refine sm_T_cale (d1_ := 0) (Q1_ := vq_266e 1 S0_) (Q2_ := (fun ex_ S1_ => ex_ ∈ ([1] : List Nat) ∧ vx_266e 1 S0_ S1_)) rfl rfl (by decide) (vc_266e 1 S0_ hI_ ) rfl (fun xx20_ Sx15_ px18_ => ?_) (fun u_ Sx15_ px18_ => ?_)
      · exact absurd px18_.2.2.2.1 (by decide)
      obtain ⟨rfl, -, -, px18_, rfl⟩ := px18_
      refine sm_T_go 1 (c1 := (18, [some (.inr (.inr (some (12, 0)))), some (.inl kd_), some (.inl k_)], [.inl kd_], S0_)) rfl ?_
      refine sm_T_b0 (a := 1) (z := 31) rfl (fun cx21_ => ?_) (fun cx21_ => ?_)
      · have cx21_ : kd_ ≠ 0 := of_decide_eq_true cx21_
        refine sm_T_go 2 (c1 := (51, [some (.inr (.inr (some (12, 0)))), some (.inl kd_), some (.inl k_)], [.inl 1, .inl kd_], S0_)) rfl ?_
        refine sm_T_br (a := 1) (z := 30) rfl (fun cx22_ => ?_) (fun cx22_ => ?_)
        · have cx22_ : kd_ ≠ 1 := of_decide_eq_true cx22_
          refine sm_T_go 1 (c1 := (82, [some (.inr (.inr (some (12, 0)))), some (.inl kd_), some (.inl k_)], [.inl k_], S0_)) rfl ?_
          refine sm_T_b0 (a := 2) (z := 24) rfl (fun cx23_ => ?_) (fun cx23_ => ?_)
          · have cx23_ : k_ < 0 := of_decide_eq_true cx23_
            refine sm_T_go 1 (c1 := (107, [some (.inr (.inr (some (12, 0)))), some (.inl kd_), some (.inl k_)], [.inl 0], S0_)) rfl ?_
            refine sm_T_rz rfl (by omega) (Or.inl ⟨_, _, rfl, _, rfl, hI_, hF_, ?_⟩)
            rfl
          · have cx23_ : ¬ (k_ < 0) := of_decide_eq_false cx23_
            refine sm_T_go 2 (c1 := (87, [some (.inr (.inr (some (12, 0)))), some (.inl kd_), some (.inl k_)], [.inl 4, .inl k_], S0_)) rfl ?_
            refine sm_T_br (a := 3) (z := 19) rfl (fun cx24_ => ?_) (fun cx24_ => ?_)
            · have cx24_ : 4 ≤ k_ := of_decide_eq_true cx24_
              refine sm_T_go 1 (c1 := (107, [some (.inr (.inr (some (12, 0)))), some (.inl kd_), some (.inl k_)], [.inl 0], S0_)) rfl ?_
              refine sm_T_rz rfl (by omega) (Or.inl ⟨_, _, rfl, _, rfl, hI_, hF_, ?_⟩)
              rfl
            · have cx24_ : ¬ (4 ≤ k_) := of_decide_eq_false cx24_
              refine sm_T_go 3 (c1 := (95, [some (.inr (.inr (some (12, 0)))), some (.inl kd_), some (.inl k_)], [.inl k_, .inr (.inr (some (112, 0)))], S0_)) rfl ?_
              refine sm_T_aald (t0 := 6) (n := 4) rfl rfl (by omega) (by omega) ?_
              have bx25_ : 0 ≤ S0_.1 2 k_.toNat 0 ∧ S0_.1 2 k_.toNat 0 ≤ 1 := hI_.1 2 k_.toNat 0 rfl
              refine sm_T_go 1 (c1 := (99, [some (.inr (.inr (some (12, 0)))), some (.inl kd_), some (.inl k_)], [.inl (S0_.1 2 k_.toNat 0)], S0_)) rfl ?_
              refine sm_T_b0 (a := 0) (z := 7) rfl (fun cx26_ => ?_) (fun cx26_ => ?_)
              · have cx26_ : (S0_.1 2 k_.toNat 0) = 0 := of_decide_eq_true cx26_
                refine sm_T_go 1 (c1 := (107, [some (.inr (.inr (some (12, 0)))), some (.inl kd_), some (.inl k_)], [.inl 0], S0_)) rfl ?_
                refine sm_T_rz rfl (by omega) (Or.inl ⟨_, _, rfl, _, rfl, hI_, hF_, ?_⟩)
                rfl
              · have cx26_ : ¬ ((S0_.1 2 k_.toNat 0) = 0) := of_decide_eq_false cx26_
                refine sm_T_go 2 (c1 := (107, [some (.inr (.inr (some (12, 0)))), some (.inl kd_), some (.inl k_)], [.inl 1], S0_)) rfl ?_
                refine sm_T_rz rfl (by omega) (Or.inl ⟨_, _, rfl, _, rfl, hI_, hF_, ?_⟩)
                rfl
        · have cx22_ : ¬ (kd_ ≠ 1) := of_decide_eq_false cx22_
          refine sm_T_go 1 (c1 := (55, [some (.inr (.inr (some (12, 0)))), some (.inl kd_), some (.inl k_)], [.inl k_], S0_)) rfl ?_
          refine sm_T_b0 (a := 2) (z := 24) rfl (fun cx27_ => ?_) (fun cx27_ => ?_)
          · have cx27_ : k_ < 0 := of_decide_eq_true cx27_
            refine sm_T_go 1 (c1 := (80, [some (.inr (.inr (some (12, 0)))), some (.inl kd_), some (.inl k_)], [.inl 0], S0_)) rfl ?_
            refine sm_T_rz rfl (by omega) (Or.inl ⟨_, _, rfl, _, rfl, hI_, hF_, ?_⟩)
            rfl
          · have cx27_ : ¬ (k_ < 0) := of_decide_eq_false cx27_
            refine sm_T_go 2 (c1 := (60, [some (.inr (.inr (some (12, 0)))), some (.inl kd_), some (.inl k_)], [.inl 3, .inl k_], S0_)) rfl ?_
            refine sm_T_br (a := 3) (z := 19) rfl (fun cx28_ => ?_) (fun cx28_ => ?_)
            · have cx28_ : 3 ≤ k_ := of_decide_eq_true cx28_
              refine sm_T_go 1 (c1 := (80, [some (.inr (.inr (some (12, 0)))), some (.inl kd_), some (.inl k_)], [.inl 0], S0_)) rfl ?_
              refine sm_T_rz rfl (by omega) (Or.inl ⟨_, _, rfl, _, rfl, hI_, hF_, ?_⟩)
              rfl
            · have cx28_ : ¬ (3 ≤ k_) := of_decide_eq_false cx28_
              refine sm_T_go 3 (c1 := (68, [some (.inr (.inr (some (12, 0)))), some (.inl kd_), some (.inl k_)], [.inl k_, .inr (.inr (some (111, 0)))], S0_)) rfl ?_
              refine sm_T_aald (t0 := 5) (n := 3) rfl rfl (by omega) (by omega) ?_
              have bx29_ : 0 ≤ S0_.1 5 k_.toNat 0 ∧ S0_.1 5 k_.toNat 0 ≤ 1 := hI_.1 5 k_.toNat 0 rfl
              refine sm_T_go 1 (c1 := (72, [some (.inr (.inr (some (12, 0)))), some (.inl kd_), some (.inl k_)], [.inl (S0_.1 5 k_.toNat 0)], S0_)) rfl ?_
              refine sm_T_b0 (a := 0) (z := 7) rfl (fun cx30_ => ?_) (fun cx30_ => ?_)
              · have cx30_ : (S0_.1 5 k_.toNat 0) = 0 := of_decide_eq_true cx30_
                refine sm_T_go 1 (c1 := (80, [some (.inr (.inr (some (12, 0)))), some (.inl kd_), some (.inl k_)], [.inl 0], S0_)) rfl ?_
                refine sm_T_rz rfl (by omega) (Or.inl ⟨_, _, rfl, _, rfl, hI_, hF_, ?_⟩)
                rfl
              · have cx30_ : ¬ ((S0_.1 5 k_.toNat 0) = 0) := of_decide_eq_false cx30_
                refine sm_T_go 2 (c1 := (80, [some (.inr (.inr (some (12, 0)))), some (.inl kd_), some (.inl k_)], [.inl 1], S0_)) rfl ?_
                refine sm_T_rz rfl (by omega) (Or.inl ⟨_, _, rfl, _, rfl, hI_, hF_, ?_⟩)
                rfl
      · have cx21_ : ¬ (kd_ ≠ 0) := of_decide_eq_false cx21_
        refine sm_T_go 1 (c1 := (22, [some (.inr (.inr (some (12, 0)))), some (.inl kd_), some (.inl k_)], [.inl k_], S0_)) rfl ?_
        refine sm_T_b0 (a := 2) (z := 25) rfl (fun cx31_ => ?_) (fun cx31_ => ?_)
        · have cx31_ : k_ < 0 := of_decide_eq_true cx31_
          refine sm_T_go 1 (c1 := (48, [some (.inr (.inr (some (12, 0)))), some (.inl kd_), some (.inl k_)], [.inl 0], S0_)) rfl ?_
          refine sm_T_rz rfl (by omega) (Or.inl ⟨_, _, rfl, _, rfl, hI_, hF_, ?_⟩)
          rfl
        · have cx31_ : ¬ (k_ < 0) := of_decide_eq_false cx31_
          refine sm_T_go 2 (c1 := (28, [some (.inr (.inr (some (12, 0)))), some (.inl kd_), some (.inl k_)], [.inl 6, .inl k_], S0_)) rfl ?_
          refine sm_T_br (a := 3) (z := 19) rfl (fun cx32_ => ?_) (fun cx32_ => ?_)
          · have cx32_ : 6 ≤ k_ := of_decide_eq_true cx32_
            refine sm_T_go 1 (c1 := (48, [some (.inr (.inr (some (12, 0)))), some (.inl kd_), some (.inl k_)], [.inl 0], S0_)) rfl ?_
            refine sm_T_rz rfl (by omega) (Or.inl ⟨_, _, rfl, _, rfl, hI_, hF_, ?_⟩)
            rfl
          · have cx32_ : ¬ (6 ≤ k_) := of_decide_eq_false cx32_
            refine sm_T_go 3 (c1 := (36, [some (.inr (.inr (some (12, 0)))), some (.inl kd_), some (.inl k_)], [.inl k_, .inr (.inr (some (110, 0)))], S0_)) rfl ?_
            refine sm_T_aald (t0 := 4) (n := 6) rfl rfl (by omega) (by omega) ?_
            have bx33_ : 0 ≤ S0_.1 3 k_.toNat 0 ∧ S0_.1 3 k_.toNat 0 ≤ 1 := hI_.1 3 k_.toNat 0 rfl
            refine sm_T_go 1 (c1 := (40, [some (.inr (.inr (some (12, 0)))), some (.inl kd_), some (.inl k_)], [.inl (S0_.1 3 k_.toNat 0)], S0_)) rfl ?_
            refine sm_T_b0 (a := 0) (z := 7) rfl (fun cx34_ => ?_) (fun cx34_ => ?_)
            · have cx34_ : (S0_.1 3 k_.toNat 0) = 0 := of_decide_eq_true cx34_
              refine sm_T_go 1 (c1 := (48, [some (.inr (.inr (some (12, 0)))), some (.inl kd_), some (.inl k_)], [.inl 0], S0_)) rfl ?_
              refine sm_T_rz rfl (by omega) (Or.inl ⟨_, _, rfl, _, rfl, hI_, hF_, ?_⟩)
              rfl
            · have cx34_ : ¬ ((S0_.1 3 k_.toNat 0) = 0) := of_decide_eq_false cx34_
              refine sm_T_go 2 (c1 := (48, [some (.inr (.inr (some (12, 0)))), some (.inl kd_), some (.inl k_)], [.inl 1], S0_)) rfl ?_
              refine sm_T_rz rfl (by omega) (Or.inl ⟨_, _, rfl, _, rfl, hI_, hF_, ?_⟩)
              rfl
end
/-! 99.zj2e -/
section
/-! ChipFlow.witness -/
def vw_229 : sx_Wl := ([], [], [])
def vq_229 (k_ : Int) (S0_ : sm_S) (u_ : Option sm_V) (S1_ : sm_S) : Prop := ∃ v_ : Int, u_ = some (.inl v_) ∧ gi S1_ ∧ ai_fr (sx_W vw_229) S0_ S1_ ∧ (True)
def vx_229 (k_ : Int) (S0_ : sm_S) (S1_ : sm_S) : Prop := gi S1_ ∧ ai_fr (sx_W vw_229) S0_ S1_ ∧ (S1_ = S0_)
set_option maxHeartbeats 400000 in
theorem vc_229 {sc_ : Nat × (Nat → Int)} (k_ : Int) (S0_ : sm_S) (hI_ : gi S0_)  : sm_T (mt_P sc_) 1 229 (0, [some (.inr (.inr (some (12, 0)))), some (.inl k_)], [], S0_) (fun ro9_ => (∃ u_ S1_, ro9_ = (.inl u_, S1_, 0) ∧ vq_229 k_ S0_ u_ S1_) ∨ ∃ ex_ S1_, ro9_ = (.inr ex_, S1_, 1) ∧ ex_ ∈ ([0] : List Nat) ∧ vx_229 k_ S0_ S1_) := by
  have hF_ : ai_fr (sx_W vw_229) S0_ S0_ := ai_fr_rf
  refine sm_T_go 1 (c1 := (1, [some (.inr (.inr (some (12, 0)))), some (.inl k_)], [.inl k_], S0_)) rfl ?_
  refine sm_T_b0 (a := 2) (z := 15) rfl (fun cx1_ => ?_) (fun cx1_ => ?_)
  · have cx1_ : k_ < 0 := of_decide_eq_true cx1_
    refine sm_T_go 1 (c1 := (17, [some (.inr (.inr (some (12, 0)))), some (.inl k_)], [.inl 0], S0_)) rfl ?_
    refine sm_T_cale (d1_ := 0) (Q1_ := vq_265e 0 S0_) (Q2_ := (fun ex_ S1_ => ex_ ∈ ([0] : List Nat) ∧ vx_265e 0 S0_ S1_)) rfl rfl (by decide) (vc_265e 0 S0_ hI_ ) rfl (fun xx7_ Sx2_ px5_ => ?_) (fun u_ Sx2_ px5_ => ?_)
    · obtain ⟨px5m, hIx3_, hFx4_, px5_⟩ := px5_
      refine Or.inr ⟨_, _, rfl, by first | exact px5m | (simp only [List.mem_cons, List.not_mem_nil, or_false] at px5m ⊢; omega), hIx3_, ai_fr_tr hF_ (fr_le hFx4_ rfl), ?_⟩
      first | exact px5_.2 | exact px5_ | rfl
    · exact absurd rfl px5_.2.2.2.1
  · have cx1_ : ¬ (k_ < 0) := of_decide_eq_false cx1_
    have bx8_ : 0 ≤ S0_.1 12 0 16 ∧ S0_.1 12 0 16 ≤ 4096 := hI_.1 12 0 16 rfl
    refine sm_T_go 3 (c1 := (9, [some (.inr (.inr (some (12, 0)))), some (.inl k_)], [.inl (S0_.1 12 0 16), .inl k_], S0_)) rfl ?_
    refine sm_T_br (a := 3) (z := 7) rfl (fun cx9_ => ?_) (fun cx9_ => ?_)
    · have cx9_ : (S0_.1 12 0 16) ≤ k_ := of_decide_eq_true cx9_
      refine sm_T_go 1 (c1 := (17, [some (.inr (.inr (some (12, 0)))), some (.inl k_)], [.inl 0], S0_)) rfl ?_
      refine sm_T_cale (d1_ := 0) (Q1_ := vq_265e 0 S0_) (Q2_ := (fun ex_ S1_ => ex_ ∈ ([0] : List Nat) ∧ vx_265e 0 S0_ S1_)) rfl rfl (by decide) (vc_265e 0 S0_ hI_ ) rfl (fun xx15_ Sx10_ px13_ => ?_) (fun u_ Sx10_ px13_ => ?_)
      · obtain ⟨px13m, hIx11_, hFx12_, px13_⟩ := px13_
        refine Or.inr ⟨_, _, rfl, by first | exact px13m | (simp only [List.mem_cons, List.not_mem_nil, or_false] at px13m ⊢; omega), hIx11_, ai_fr_tr hF_ (fr_le hFx12_ rfl), ?_⟩
        first | exact px13_.2 | exact px13_ | rfl
      · exact absurd rfl px13_.2.2.2.1
    · have cx9_ : ¬ ((S0_.1 12 0 16) ≤ k_) := of_decide_eq_false cx9_
      refine sm_T_go 2 (c1 := (17, [some (.inr (.inr (some (12, 0)))), some (.inl k_)], [.inl 1], S0_)) rfl ?_
      refine sm_T_cale (d1_ := 0) (Q1_ := vq_265e 1 S0_) (Q2_ := (fun ex_ S1_ => ex_ ∈ ([0] : List Nat) ∧ vx_265e 1 S0_ S1_)) rfl rfl (by decide) (vc_265e 1 S0_ hI_ ) rfl (fun xx21_ Sx16_ px19_ => ?_) (fun u_ Sx16_ px19_ => ?_)
      · exact absurd px19_.2.2.2.1 (by decide)
      obtain ⟨rfl, -, -, px19_, rfl⟩ := px19_
      refine sm_T_go 3 (c1 := (25, [some (.inr (.inr (some (12, 0)))), some (.inl k_)], [.inl k_, .inr (.inr (some (117, 0)))], S0_)) rfl ?_
      refine sm_T_iald (n := 4096) rfl rfl (by omega) (by omega) ?_
      have bx22_ : 0 ≤ S0_.2.2.1 117 0 k_.toNat ∧ S0_.2.2.1 117 0 k_.toNat ≤ 4095 := hI_.2 117 0 _
      refine sm_T_ri rfl (Or.inl ⟨_, _, rfl, _, rfl, hI_, hF_, ?_⟩)
      trivial
end
/-! 99.zj3a -/
section
/-! the face of the class: designs; written by wip/p55/gen/vg -/

/-! designs and the_ calls that ask_ for_ them -/
theorem dOk_b {i_ : Nat} {S_ : sm_S} (h_ : dOk i_ S_) : (0 ≤ S_.1 3 i_ 1 ∧ 0 ≤ S_.1 3 i_ 2 ∧ S_.1 3 i_ 1 + S_.1 3 i_ 2 ≤ 12) ∧ (1 ≤ S_.1 3 i_ 3 ∧ S_.1 3 i_ 3 ≤ 16 ∧ S_.1 3 i_ 2 ≤ 6) ∧ (0 ≤ S_.1 3 i_ 5 ∧ S_.1 3 i_ 5 < 2 ^ (S_.1 3 i_ 2).toNat) ∧ (0 ≤ S_.1 3 i_ 6 ∧ S_.1 3 i_ 6 < 2 ^ (S_.1 3 i_ 2).toNat) ∧ dtb i_ S_ := by
  obtain ⟨F_, h1_, h2_, h3_, h4_, h5_, h6_⟩ := h_
  have a_ := h1_.1
  have b_ := h2_.1
  exact ⟨by omega, by omega, h5_, h6_, h4_⟩
theorem dOk_fr {w_ : sx_Wl} {i_ : Nat} {S_ S'_ : sm_S} (h_ : dOk i_ S_) (g_ : ai_fr (sx_W w_) S_ S'_) (h1_ : ∀ k_, k_ < 7 → (0 < k_) → (sx_W w_).1 3 k_ = false) (h2_ : ∀ t_, t_ < 48 → 42 ≤ t_ → (sx_W w_).2.1 t_ = false) : dOk i_ S'_ := by
  obtain ⟨F_, a1_, a2_, a3_, a4_, a5_, a6_⟩ := h_
  refine ⟨F_, dgr_fr a1_ g_ (h1_ _ (by decide) (by decide)) (h1_ _ (by decide) (by decide)) (h1_ _ (by decide) (by decide)) (h2_ _ (by decide) (by decide)) (h2_ _ (by decide) (by decide)), drt_fr a2_ g_ (h1_ _ (by decide) (by decide)) (h1_ _ (by decide) (by decide)) (h1_ _ (by decide) (by decide)) (h2_ _ (by decide) (by decide)) (h2_ _ (by decide) (by decide)), swp_fr a3_ g_ (h1_ _ (by decide) (by decide)) (h2_ _ (by decide) (by decide)) (h2_ _ (by decide) (by decide)) (h2_ _ (by decide) (by decide)), dtb_fr a4_ g_ (h1_ _ (by decide) (by decide)) (h2_ _ (by decide) (by decide)), ?_⟩
  rw [g_.1 3 i_ 5 (h1_ _ (by decide) (by decide)), g_.1 3 i_ 6 (h1_ _ (by decide) (by decide)), g_.1 3 i_ 2 (h1_ _ (by decide) (by decide))]
  exact ⟨a5_, a6_⟩
theorem dAll_fr {w_ : sx_Wl} {S_ S'_ : sm_S} (h_ : dAll S_) (g_ : ai_fr (sx_W w_) S_ S'_) (h1_ : ∀ k_, k_ < 7 → (sx_W w_).1 3 k_ = false) (h2_ : ∀ t_, t_ < 48 → 42 ≤ t_ → (sx_W w_).2.1 t_ = false) : dAll S'_ := by
  intro j_ hj_ q_
  rw [g_.1 3 j_ 0 (h1_ _ (by decide))] at q_
  exact dOk_fr (h_ j_ hj_ q_) g_ (fun k_ hk_ _ => h1_ k_ hk_) h2_
/-- a_ design's state changes -/
theorem dAll_st {i_ : Nat} {S_ : sm_S} {v_ : Int} (h_ : dAll S_) (hv_ : 0 ≤ v_ ∧ v_ < 2 ^ (S_.1 3 i_ 2).toNat) : dAll (sm_pI S_ 3 i_ 6 v_) := by
  intro j_ hj_ q_
  rw [rf_nk (by decide)] at q_
  obtain ⟨F_, h1_, h2_, h3_, h4_, h5_, h6_⟩ := h_ j_ hj_ q_
  have fx : ai_fr (sx_W ([(3, 6)], [], [])) S_ (sm_pI S_ 3 i_ 6 v_) := ai_fr_pI rfl
  refine ⟨F_, dgr_fr h1_ fx rfl rfl rfl rfl rfl, drt_fr h2_ fx rfl rfl rfl rfl rfl, swp_fr h3_ fx rfl rfl rfl rfl, dtb_fr h4_ fx rfl rfl, ?_, ?_⟩
  · rw [fx.1 3 j_ 5 rfl, fx.1 3 j_ 2 rfl]; exact h5_
  · rw [fx.1 3 j_ 2 rfl, rd_ff]
    by_cases z_ : j_ = i_
    · rw [z_, if_pos ⟨rfl, rfl, rfl⟩]; exact hv_
    · rw [if_neg (fun q_ => z_ q_.2.1)]; exact h6_
theorem dAll_dr {i_ : Nat} {S_ : sm_S} (h_ : dAll S_) : dAll (sm_pI S_ 3 i_ 0 0) := by
  intro j_ hj_ q_
  have fx : ai_fr (sx_W ([(3, 0)], [], [])) S_ (sm_pI S_ 3 i_ 0 0) := ai_fr_pI rfl
  by_cases z_ : j_ = i_
  · rw [z_, rf_eq] at q_
    exact absurd q_ (by decide)
  · rw [rd_ff, if_neg (fun q_ => z_ q_.2.1)] at q_
    exact dOk_fr (h_ j_ hj_ q_) fx (by decide) (by decide)
theorem i_or_c {x_ y_ : Int} : i_or x_ y_ = i_or y_ x_ := by
  unfold i_or
  rw [Int32.or_comm]
/-! ChipFlow.graph -/
def vw_219 : sx_Wl := ([], [], [])
def vq_219 (kk_ : Int) (wh_ : Int) (S0_ : sm_S) (u_ : Option sm_V) (S1_ : sm_S) : Prop := ∃ v_ : Int, u_ = some (.inl v_) ∧ gi S1_ ∧ ai_fr (sx_W vw_219) S0_ S1_ ∧ (True)
def vx_219 (kk_ : Int) (wh_ : Int) (S0_ : sm_S) (S1_ : sm_S) : Prop := gi S1_ ∧ ai_fr (sx_W vw_219) S0_ S1_ ∧ (S1_ = S0_)
set_option maxHeartbeats 400000 in
theorem vc_219 {sc_ : Nat × (Nat → Int)} (kk_ : Int) (wh_ : Int) (S0_ : sm_S) (hI_ : gi S0_) (hJ_ : dAll S0_) : sm_T (mt_P sc_) 2 219 (0, [some (.inr (.inr (some (12, 0)))), some (.inl kk_), some (.inl wh_), none], [], S0_) (fun ro9_ => (∃ u_ S1_, ro9_ = (.inl u_, S1_, 0) ∧ vq_219 kk_ wh_ S0_ u_ S1_) ∨ ∃ ex_ S1_, ro9_ = (.inr ex_, S1_, 1) ∧ ex_ ∈ ([0, 1] : List Nat) ∧ vx_219 kk_ wh_ S0_ S1_) := by
  have hF_ : ai_fr (sx_W vw_219) S0_ S0_ := ai_fr_rf
  refine sm_T_go 2 (c1 := (2, [some (.inr (.inr (some (12, 0)))), some (.inl kk_), some (.inl wh_), none], [.inl kk_, .inr (.inr (some (12, 0)))], S0_)) rfl ?_
  refine sm_T_cale (d1_ := 1) (Q1_ := vq_270 kk_ S0_) (Q2_ := (fun ex_ S1_ => ex_ ∈ ([0] : List Nat) ∧ vx_270 kk_ S0_ S1_)) rfl rfl (by decide) (vc_270 kk_ S0_ hI_ ) rfl (fun xx6_ Sx1_ px4_ => ?_) (fun u_ Sx1_ px4_ => ?_)
  · obtain ⟨px4m, hIx2_, hFx3_, px4_⟩ := px4_
    refine Or.inr ⟨_, _, rfl, by first | exact px4m | (simp only [List.mem_cons, List.not_mem_nil, or_false] at px4m ⊢; omega), hIx2_, ai_fr_tr hF_ (fr_le hFx3_ rfl), ?_⟩
    first | exact px4_.2 | exact px4_ | rfl
  obtain ⟨rfl, -, -, rfl, px4_⟩ := px4_
  have a9_ := px4_
  have J9_ := dOk_b (hJ_ kk_.toNat (by omega) a9_.2)
  have J9a := J9_.1
  have J9b := J9_.2.1
  refine sm_T_go 2 (c1 := (7, [some (.inr (.inr (some (12, 0)))), some (.inl kk_), some (.inl wh_), some (.inr (.inr (some (3, kk_.toNat))))], [.inl wh_], S0_)) rfl ?_
  refine sm_T_b0 (a := 2) (z := 13) rfl (fun cx7_ => ?_) (fun cx7_ => ?_)
  · have cx7_ : wh_ < 0 := of_decide_eq_true cx7_
    refine sm_T_go 1 (c1 := (21, [some (.inr (.inr (some (12, 0)))), some (.inl kk_), some (.inl wh_), some (.inr (.inr (some (3, kk_.toNat))))], [.inl 0], S0_)) rfl ?_
    refine sm_T_cale (d1_ := 0) (Q1_ := vq_266e 0 S0_) (Q2_ := (fun ex_ S1_ => ex_ ∈ ([1] : List Nat) ∧ vx_266e 0 S0_ S1_)) rfl rfl (by decide) (vc_266e 0 S0_ hI_ ) rfl (fun xx13_ Sx8_ px11_ => ?_) (fun u_ Sx8_ px11_ => ?_)
    · obtain ⟨px11m, hIx9_, hFx10_, px11_⟩ := px11_
      refine Or.inr ⟨_, _, rfl, by first | exact px11m | (simp only [List.mem_cons, List.not_mem_nil, or_false] at px11m ⊢; omega), hIx9_, ai_fr_tr hF_ (fr_le hFx10_ rfl), ?_⟩
      first | exact px11_.2 | exact px11_ | rfl
    · exact absurd rfl px11_.2.2.2.1
  · have cx7_ : ¬ (wh_ < 0) := of_decide_eq_false cx7_
    refine sm_T_go 2 (c1 := (13, [some (.inr (.inr (some (12, 0)))), some (.inl kk_), some (.inl wh_), some (.inr (.inr (some (3, kk_.toNat))))], [.inl 7, .inl wh_], S0_)) rfl ?_
    refine sm_T_br (a := 4) (z := 7) rfl (fun cx14_ => ?_) (fun cx14_ => ?_)
    · have cx14_ : 7 < wh_ := of_decide_eq_true cx14_
      refine sm_T_go 1 (c1 := (21, [some (.inr (.inr (some (12, 0)))), some (.inl kk_), some (.inl wh_), some (.inr (.inr (some (3, kk_.toNat))))], [.inl 0], S0_)) rfl ?_
      refine sm_T_cale (d1_ := 0) (Q1_ := vq_266e 0 S0_) (Q2_ := (fun ex_ S1_ => ex_ ∈ ([1] : List Nat) ∧ vx_266e 0 S0_ S1_)) rfl rfl (by decide) (vc_266e 0 S0_ hI_ ) rfl (fun xx20_ Sx15_ px18_ => ?_) (fun u_ Sx15_ px18_ => ?_)
      · obtain ⟨px18m, hIx16_, hFx17_, px18_⟩ := px18_
        refine Or.inr ⟨_, _, rfl, by first | exact px18m | (simp only [List.mem_cons, List.not_mem_nil, or_false] at px18m ⊢; omega), hIx16_, ai_fr_tr hF_ (fr_le hFx17_ rfl), ?_⟩
        first | exact px18_.2 | exact px18_ | rfl
      · exact absurd rfl px18_.2.2.2.1
    · have cx14_ : ¬ (7 < wh_) := of_decide_eq_false cx14_
      refine sm_T_go 2 (c1 := (21, [some (.inr (.inr (some (12, 0)))), some (.inl kk_), some (.inl wh_), some (.inr (.inr (some (3, kk_.toNat))))], [.inl 1], S0_)) rfl ?_
      refine sm_T_cale (d1_ := 0) (Q1_ := vq_266e 1 S0_) (Q2_ := (fun ex_ S1_ => ex_ ∈ ([1] : List Nat) ∧ vx_266e 1 S0_ S1_)) rfl rfl (by decide) (vc_266e 1 S0_ hI_ ) rfl (fun xx26_ Sx21_ px24_ => ?_) (fun u_ Sx21_ px24_ => ?_)
      · exact absurd px24_.2.2.2.1 (by decide)
      obtain ⟨rfl, -, -, px24_, rfl⟩ := px24_
      refine sm_T_go 1 (c1 := (25, [some (.inr (.inr (some (12, 0)))), some (.inl kk_), some (.inl wh_), some (.inr (.inr (some (3, kk_.toNat))))], [.inl wh_], S0_)) rfl ?_
      by_cases cx27_ : wh_ = 0
      · refine sm_T_sw (t := 68) rfl rfl (by rw [cx27_]; rfl) ?_
        have bx28_ : 0 ≤ S0_.1 3 kk_.toNat 1 ∧ S0_.1 3 kk_.toNat 1 ≤ 320 := hI_.1 3 kk_.toNat 1 rfl
        refine sm_T_go 2 (c1 := (72, [some (.inr (.inr (some (12, 0)))), some (.inl kk_), some (.inl wh_), some (.inr (.inr (some (3, kk_.toNat))))], [.inl (S0_.1 3 kk_.toNat 1)], S0_)) rfl ?_
        refine sm_T_ri rfl (Or.inl ⟨_, _, rfl, _, rfl, hI_, hF_, ?_⟩)
        trivial
      by_cases cx29_ : wh_ = 1
      · refine sm_T_sw (t := 73) rfl rfl (by rw [cx29_]; rfl) ?_
        have bx30_ : 0 ≤ S0_.1 3 kk_.toNat 2 ∧ S0_.1 3 kk_.toNat 2 ≤ 100000 := hI_.1 3 kk_.toNat 2 rfl
        refine sm_T_go 2 (c1 := (77, [some (.inr (.inr (some (12, 0)))), some (.inl kk_), some (.inl wh_), some (.inr (.inr (some (3, kk_.toNat))))], [.inl (S0_.1 3 kk_.toNat 2)], S0_)) rfl ?_
        refine sm_T_ri rfl (Or.inl ⟨_, _, rfl, _, rfl, hI_, hF_, ?_⟩)
        trivial
      by_cases cx31_ : wh_ = 2
      · refine sm_T_sw (t := 78) rfl rfl (by rw [cx31_]; rfl) ?_
        have bx32_ : 0 ≤ S0_.1 3 kk_.toNat 3 ∧ S0_.1 3 kk_.toNat 3 ≤ 320 := hI_.1 3 kk_.toNat 3 rfl
        refine sm_T_go 2 (c1 := (82, [some (.inr (.inr (some (12, 0)))), some (.inl kk_), some (.inl wh_), some (.inr (.inr (some (3, kk_.toNat))))], [.inl (S0_.1 3 kk_.toNat 3)], S0_)) rfl ?_
        refine sm_T_ri rfl (Or.inl ⟨_, _, rfl, _, rfl, hI_, hF_, ?_⟩)
        trivial
      by_cases cx33_ : wh_ = 3
      · refine sm_T_sw (t := 83) rfl rfl (by rw [cx33_]; rfl) ?_
        have bx34_ : 0 ≤ S0_.1 3 kk_.toNat 4 ∧ S0_.1 3 kk_.toNat 4 ≤ 1013 := hI_.1 3 kk_.toNat 4 rfl
        refine sm_T_go 3 (c1 := (88, [some (.inr (.inr (some (12, 0)))), some (.inl kk_), some (.inl wh_), some (.inr (.inr (some (3, kk_.toNat))))], [.inr (.inr (some (3, kk_.toNat))), .inl (S0_.1 3 kk_.toNat 4)], S0_)) rfl ?_
        refine sm_T_cal (d1 := 0) (Q1 := vq_63 kk_.toNat S0_) rfl rfl (by decide) (vc_63 kk_.toNat S0_ hI_ (by omega)) (fun u_ Sx35_ px38_ => ?_)
        obtain ⟨rfl, vx40_, rfl, px38_⟩ := px38_
        have f88_ := px38_
        refine sm_T_bin (w := (S0_.1 3 kk_.toNat 4) - vx40_) rfl (bi_sub (by omega) (by omega) (by omega)) ?_
        refine sm_T_ri rfl (Or.inl ⟨_, _, rfl, _, rfl, hI_, hF_, ?_⟩)
        trivial
      by_cases cx41_ : wh_ = 4
      · refine sm_T_sw (t := 93) rfl rfl (by rw [cx41_]; rfl) ?_
        have bx42_ : 0 ≤ S0_.1 3 kk_.toNat 7 ∧ S0_.1 3 kk_.toNat 7 ≤ 1000 := hI_.1 3 kk_.toNat 7 rfl
        refine sm_T_go 2 (c1 := (97, [some (.inr (.inr (some (12, 0)))), some (.inl kk_), some (.inl wh_), some (.inr (.inr (some (3, kk_.toNat))))], [.inl (S0_.1 3 kk_.toNat 7)], S0_)) rfl ?_
        refine sm_T_ri rfl (Or.inl ⟨_, _, rfl, _, rfl, hI_, hF_, ?_⟩)
        trivial
      by_cases cx43_ : wh_ = 5
      · refine sm_T_sw (t := 98) rfl rfl (by rw [cx43_]; rfl) ?_
        have bx44_ : 0 ≤ S0_.1 3 kk_.toNat 8 ∧ S0_.1 3 kk_.toNat 8 ≤ 1000 := hI_.1 3 kk_.toNat 8 rfl
        refine sm_T_go 2 (c1 := (102, [some (.inr (.inr (some (12, 0)))), some (.inl kk_), some (.inl wh_), some (.inr (.inr (some (3, kk_.toNat))))], [.inl (S0_.1 3 kk_.toNat 8)], S0_)) rfl ?_
        refine sm_T_ri rfl (Or.inl ⟨_, _, rfl, _, rfl, hI_, hF_, ?_⟩)
        trivial
      by_cases cx45_ : wh_ = 6
      · refine sm_T_sw (t := 103) rfl rfl (by rw [cx45_]; rfl) ?_
        have bx46_ : 0 ≤ S0_.1 3 kk_.toNat 9 ∧ S0_.1 3 kk_.toNat 9 ≤ 64 := hI_.1 3 kk_.toNat 9 rfl
        refine sm_T_go 2 (c1 := (107, [some (.inr (.inr (some (12, 0)))), some (.inl kk_), some (.inl wh_), some (.inr (.inr (some (3, kk_.toNat))))], [.inl (S0_.1 3 kk_.toNat 9)], S0_)) rfl ?_
        refine sm_T_ri rfl (Or.inl ⟨_, _, rfl, _, rfl, hI_, hF_, ?_⟩)
        trivial
      refine sm_T_sw (t := 108) rfl rfl (by (have hh_ : wh_ < 0 ∨ 7 ≤ wh_ := by omega); rcases hh_ with hh_ | hh_; (exact sm_swd (Or.inl hh_)); (exact sm_swd (Or.inr (by simp only [List.length_cons, List.length_nil]; omega)))) ?_
      have bx47_ : 0 ≤ S0_.1 3 kk_.toNat 5 ∧ S0_.1 3 kk_.toNat 5 ≤ 63 := hI_.1 3 kk_.toNat 5 rfl
      refine sm_T_go 2 (c1 := (112, [some (.inr (.inr (some (12, 0)))), some (.inl kk_), some (.inl wh_), some (.inr (.inr (some (3, kk_.toNat))))], [.inl (S0_.1 3 kk_.toNat 5)], S0_)) rfl ?_
      refine sm_T_ri rfl (Or.inl ⟨_, _, rfl, _, rfl, hI_, hF_, ?_⟩)
      trivial
end
/-! 99.zj3b -/
section
/-! ChipFlow.literal -/
def vw_220 : sx_Wl := ([], [], [])
def vq_220 (kk_ : Int) (nd_ : Int) (sd_ : Int) (S0_ : sm_S) (u_ : Option sm_V) (S1_ : sm_S) : Prop := ∃ v_ : Int, u_ = some (.inl v_) ∧ gi S1_ ∧ ai_fr (sx_W vw_220) S0_ S1_ ∧ (True)
def vx_220 (kk_ : Int) (nd_ : Int) (sd_ : Int) (S0_ : sm_S) (S1_ : sm_S) : Prop := gi S1_ ∧ ai_fr (sx_W vw_220) S0_ S1_ ∧ (S1_ = S0_)
set_option maxHeartbeats 400000 in
theorem vc_220 {sc_ : Nat × (Nat → Int)} (kk_ : Int) (nd_ : Int) (sd_ : Int) (S0_ : sm_S) (hI_ : gi S0_) (hJ_ : dAll S0_) : sm_T (mt_P sc_) 2 220 (0, [some (.inr (.inr (some (12, 0)))), some (.inl kk_), some (.inl nd_), some (.inl sd_), none], [], S0_) (fun ro9_ => (∃ u_ S1_, ro9_ = (.inl u_, S1_, 0) ∧ vq_220 kk_ nd_ sd_ S0_ u_ S1_) ∨ ∃ ex_ S1_, ro9_ = (.inr ex_, S1_, 1) ∧ ex_ ∈ ([0] : List Nat) ∧ vx_220 kk_ nd_ sd_ S0_ S1_) := by
  have hF_ : ai_fr (sx_W vw_220) S0_ S0_ := ai_fr_rf
  refine sm_T_go 2 (c1 := (2, [some (.inr (.inr (some (12, 0)))), some (.inl kk_), some (.inl nd_), some (.inl sd_), none], [.inl kk_, .inr (.inr (some (12, 0)))], S0_)) rfl ?_
  refine sm_T_cale (d1_ := 1) (Q1_ := vq_270 kk_ S0_) (Q2_ := (fun ex_ S1_ => ex_ ∈ ([0] : List Nat) ∧ vx_270 kk_ S0_ S1_)) rfl rfl (by decide) (vc_270 kk_ S0_ hI_ ) rfl (fun xx6_ Sx1_ px4_ => ?_) (fun u_ Sx1_ px4_ => ?_)
  · obtain ⟨px4m, hIx2_, hFx3_, px4_⟩ := px4_
    refine Or.inr ⟨_, _, rfl, by first | exact px4m | (simp only [List.mem_cons, List.not_mem_nil, or_false] at px4m ⊢; omega), hIx2_, ai_fr_tr hF_ (fr_le hFx3_ rfl), ?_⟩
    first | exact px4_.2 | exact px4_ | rfl
  obtain ⟨rfl, -, -, rfl, px4_⟩ := px4_
  have a9_ := px4_
  have J9_ := dOk_b (hJ_ kk_.toNat (by omega) a9_.2)
  have J9a := J9_.1
  have J9b := J9_.2.1
  refine sm_T_go 3 (c1 := (10, [some (.inr (.inr (some (12, 0)))), some (.inl kk_), some (.inl nd_), some (.inl sd_), some (.inr (.inr (some (3, kk_.toNat))))], [.inr (.inr (some (3, kk_.toNat))), .inl nd_], S0_)) rfl ?_
  refine sm_T_cal (d1 := 0) (Q1 := vq_63 kk_.toNat S0_) rfl rfl (by decide) (vc_63 kk_.toNat S0_ hI_ (by omega)) (fun u_ Sx7_ px10_ => ?_)
  obtain ⟨rfl, vx12_, rfl, px10_⟩ := px10_
  have f10_ := px10_
  refine sm_T_br (a := 2) (z := 16) rfl (fun cx13_ => ?_) (fun cx13_ => ?_)
  · have cx13_ : nd_ < vx12_ := of_decide_eq_true cx13_
    refine sm_T_go 1 (c1 := (30, [some (.inr (.inr (some (12, 0)))), some (.inl kk_), some (.inl nd_), some (.inl sd_), some (.inr (.inr (some (3, kk_.toNat))))], [.inl 0], S0_)) rfl ?_
    refine sm_T_cale (d1_ := 0) (Q1_ := vq_265e 0 S0_) (Q2_ := (fun ex_ S1_ => ex_ ∈ ([0] : List Nat) ∧ vx_265e 0 S0_ S1_)) rfl rfl (by decide) (vc_265e 0 S0_ hI_ ) rfl (fun xx19_ Sx14_ px17_ => ?_) (fun u_ Sx14_ px17_ => ?_)
    · obtain ⟨px17m, hIx15_, hFx16_, px17_⟩ := px17_
      refine Or.inr ⟨_, _, rfl, by first | exact px17m | (simp only [List.mem_cons, List.not_mem_nil, or_false] at px17m ⊢; omega), hIx15_, ai_fr_tr hF_ (fr_le hFx16_ rfl), ?_⟩
      first | exact px17_.2 | exact px17_ | rfl
    · exact absurd rfl px17_.2.2.2.1
  · have cx13_ : ¬ (nd_ < vx12_) := of_decide_eq_false cx13_
    have bx20_ : 0 ≤ S0_.1 3 kk_.toNat 4 ∧ S0_.1 3 kk_.toNat 4 ≤ 1013 := hI_.1 3 kk_.toNat 4 rfl
    refine sm_T_go 3 (c1 := (22, [some (.inr (.inr (some (12, 0)))), some (.inl kk_), some (.inl nd_), some (.inl sd_), some (.inr (.inr (some (3, kk_.toNat))))], [.inl (S0_.1 3 kk_.toNat 4), .inl nd_], S0_)) rfl ?_
    refine sm_T_br (a := 3) (z := 7) rfl (fun cx21_ => ?_) (fun cx21_ => ?_)
    · have cx21_ : (S0_.1 3 kk_.toNat 4) ≤ nd_ := of_decide_eq_true cx21_
      refine sm_T_go 1 (c1 := (30, [some (.inr (.inr (some (12, 0)))), some (.inl kk_), some (.inl nd_), some (.inl sd_), some (.inr (.inr (some (3, kk_.toNat))))], [.inl 0], S0_)) rfl ?_
      refine sm_T_cale (d1_ := 0) (Q1_ := vq_265e 0 S0_) (Q2_ := (fun ex_ S1_ => ex_ ∈ ([0] : List Nat) ∧ vx_265e 0 S0_ S1_)) rfl rfl (by decide) (vc_265e 0 S0_ hI_ ) rfl (fun xx27_ Sx22_ px25_ => ?_) (fun u_ Sx22_ px25_ => ?_)
      · obtain ⟨px25m, hIx23_, hFx24_, px25_⟩ := px25_
        refine Or.inr ⟨_, _, rfl, by first | exact px25m | (simp only [List.mem_cons, List.not_mem_nil, or_false] at px25m ⊢; omega), hIx23_, ai_fr_tr hF_ (fr_le hFx24_ rfl), ?_⟩
        first | exact px25_.2 | exact px25_ | rfl
      · exact absurd rfl px25_.2.2.2.1
    · have cx21_ : ¬ ((S0_.1 3 kk_.toNat 4) ≤ nd_) := of_decide_eq_false cx21_
      refine sm_T_go 2 (c1 := (30, [some (.inr (.inr (some (12, 0)))), some (.inl kk_), some (.inl nd_), some (.inl sd_), some (.inr (.inr (some (3, kk_.toNat))))], [.inl 1], S0_)) rfl ?_
      refine sm_T_cale (d1_ := 0) (Q1_ := vq_265e 1 S0_) (Q2_ := (fun ex_ S1_ => ex_ ∈ ([0] : List Nat) ∧ vx_265e 1 S0_ S1_)) rfl rfl (by decide) (vc_265e 1 S0_ hI_ ) rfl (fun xx33_ Sx28_ px31_ => ?_) (fun u_ Sx28_ px31_ => ?_)
      · exact absurd px31_.2.2.2.1 (by decide)
      obtain ⟨rfl, -, -, px31_, rfl⟩ := px31_
      refine sm_T_go 1 (c1 := (34, [some (.inr (.inr (some (12, 0)))), some (.inl kk_), some (.inl nd_), some (.inl sd_), some (.inr (.inr (some (3, kk_.toNat))))], [.inl sd_], S0_)) rfl ?_
      refine sm_T_b0 (a := 0) (z := 8) rfl (fun cx34_ => ?_) (fun cx34_ => ?_)
      · have cx34_ : sd_ = 0 := of_decide_eq_true cx34_
        refine sm_T_go 2 (c1 := (47, [some (.inr (.inr (some (12, 0)))), some (.inl kk_), some (.inl nd_), some (.inl sd_), some (.inr (.inr (some (3, kk_.toNat))))], [.inl 1], S0_)) rfl ?_
        refine sm_T_cale (d1_ := 0) (Q1_ := vq_265e 1 S0_) (Q2_ := (fun ex_ S1_ => ex_ ∈ ([0] : List Nat) ∧ vx_265e 1 S0_ S1_)) rfl rfl (by decide) (vc_265e 1 S0_ hI_ ) rfl (fun xx40_ Sx35_ px38_ => ?_) (fun u_ Sx35_ px38_ => ?_)
        · exact absurd px38_.2.2.2.1 (by decide)
        obtain ⟨rfl, -, -, px38_, rfl⟩ := px38_
        refine sm_T_go 1 (c1 := (51, [some (.inr (.inr (some (12, 0)))), some (.inl kk_), some (.inl nd_), some (.inl sd_), some (.inr (.inr (some (3, kk_.toNat))))], [.inl sd_], S0_)) rfl ?_
        refine sm_T_b0 (a := 1) (z := 13) rfl (fun cx41_ => ?_) (fun cx41_ => ?_)
        · have cx41_ : sd_ ≠ 0 := of_decide_eq_true cx41_
          exfalso; omega
        · have cx41_ : ¬ (sd_ ≠ 0) := of_decide_eq_false cx41_
          refine sm_T_go 3 (c1 := (60, [some (.inr (.inr (some (12, 0)))), some (.inl kk_), some (.inl nd_), some (.inl sd_), some (.inr (.inr (some (3, kk_.toNat))))], [.inl nd_, .inr (.inr (some (42, (0 + kk_.toNat))))], S0_)) rfl ?_
          refine sm_T_iald (n := 1013) rfl rfl (by omega) (by omega) ?_
          have bx42_ : 0 ≤ S0_.2.2.1 42 (0 + kk_.toNat) nd_.toNat ∧ S0_.2.2.1 42 (0 + kk_.toNat) nd_.toNat ≤ 2025 := hI_.2 42 (0 + kk_.toNat) _
          refine sm_T_go 1 (c1 := (71, [some (.inr (.inr (some (12, 0)))), some (.inl kk_), some (.inl nd_), some (.inl sd_), some (.inr (.inr (some (3, kk_.toNat))))], [.inl (S0_.2.2.1 42 (0 + kk_.toNat) nd_.toNat)], S0_)) rfl ?_
          refine sm_T_ri rfl (Or.inl ⟨_, _, rfl, _, rfl, hI_, hF_, ?_⟩)
          trivial
      · have cx34_ : ¬ (sd_ = 0) := of_decide_eq_false cx34_
        refine sm_T_go 2 (c1 := (39, [some (.inr (.inr (some (12, 0)))), some (.inl kk_), some (.inl nd_), some (.inl sd_), some (.inr (.inr (some (3, kk_.toNat))))], [.inl 1, .inl sd_], S0_)) rfl ?_
        refine sm_T_br (a := 1) (z := 7) rfl (fun cx43_ => ?_) (fun cx43_ => ?_)
        · have cx43_ : sd_ ≠ 1 := of_decide_eq_true cx43_
          refine sm_T_go 1 (c1 := (47, [some (.inr (.inr (some (12, 0)))), some (.inl kk_), some (.inl nd_), some (.inl sd_), some (.inr (.inr (some (3, kk_.toNat))))], [.inl 0], S0_)) rfl ?_
          refine sm_T_cale (d1_ := 0) (Q1_ := vq_265e 0 S0_) (Q2_ := (fun ex_ S1_ => ex_ ∈ ([0] : List Nat) ∧ vx_265e 0 S0_ S1_)) rfl rfl (by decide) (vc_265e 0 S0_ hI_ ) rfl (fun xx49_ Sx44_ px47_ => ?_) (fun u_ Sx44_ px47_ => ?_)
          · obtain ⟨px47m, hIx45_, hFx46_, px47_⟩ := px47_
            refine Or.inr ⟨_, _, rfl, by first | exact px47m | (simp only [List.mem_cons, List.not_mem_nil, or_false] at px47m ⊢; omega), hIx45_, ai_fr_tr hF_ (fr_le hFx46_ rfl), ?_⟩
            first | exact px47_.2 | exact px47_ | rfl
          · exact absurd rfl px47_.2.2.2.1
        · have cx43_ : ¬ (sd_ ≠ 1) := of_decide_eq_false cx43_
          refine sm_T_go 2 (c1 := (47, [some (.inr (.inr (some (12, 0)))), some (.inl kk_), some (.inl nd_), some (.inl sd_), some (.inr (.inr (some (3, kk_.toNat))))], [.inl 1], S0_)) rfl ?_
          refine sm_T_cale (d1_ := 0) (Q1_ := vq_265e 1 S0_) (Q2_ := (fun ex_ S1_ => ex_ ∈ ([0] : List Nat) ∧ vx_265e 1 S0_ S1_)) rfl rfl (by decide) (vc_265e 1 S0_ hI_ ) rfl (fun xx55_ Sx50_ px53_ => ?_) (fun u_ Sx50_ px53_ => ?_)
          · exact absurd px53_.2.2.2.1 (by decide)
          obtain ⟨rfl, -, -, px53_, rfl⟩ := px53_
          refine sm_T_go 1 (c1 := (51, [some (.inr (.inr (some (12, 0)))), some (.inl kk_), some (.inl nd_), some (.inl sd_), some (.inr (.inr (some (3, kk_.toNat))))], [.inl sd_], S0_)) rfl ?_
          refine sm_T_b0 (a := 1) (z := 13) rfl (fun cx56_ => ?_) (fun cx56_ => ?_)
          · have cx56_ : sd_ ≠ 0 := of_decide_eq_true cx56_
            refine sm_T_go 3 (c1 := (70, [some (.inr (.inr (some (12, 0)))), some (.inl kk_), some (.inl nd_), some (.inl sd_), some (.inr (.inr (some (3, kk_.toNat))))], [.inl nd_, .inr (.inr (some (43, (0 + kk_.toNat))))], S0_)) rfl ?_
            refine sm_T_iald (n := 1013) rfl rfl (by omega) (by omega) ?_
            have bx57_ : 0 ≤ S0_.2.2.1 43 (0 + kk_.toNat) nd_.toNat ∧ S0_.2.2.1 43 (0 + kk_.toNat) nd_.toNat ≤ 2025 := hI_.2 43 (0 + kk_.toNat) _
            refine sm_T_ri rfl (Or.inl ⟨_, _, rfl, _, rfl, hI_, hF_, ?_⟩)
            trivial
          · have cx56_ : ¬ (sd_ ≠ 0) := of_decide_eq_false cx56_
            exfalso; omega
end
/-! 99.zj3c -/
section
/-! ChipFlow.swept -/
def vw_221 : sx_Wl := ([], [], [])
def vq_221 (kk_ : Int) (nd_ : Int) (S0_ : sm_S) (u_ : Option sm_V) (S1_ : sm_S) : Prop := ∃ v_ : Int, u_ = some (.inl v_) ∧ gi S1_ ∧ ai_fr (sx_W vw_221) S0_ S1_ ∧ (True)
def vx_221 (kk_ : Int) (nd_ : Int) (S0_ : sm_S) (S1_ : sm_S) : Prop := gi S1_ ∧ ai_fr (sx_W vw_221) S0_ S1_ ∧ (S1_ = S0_)
set_option maxHeartbeats 400000 in
theorem vc_221 {sc_ : Nat × (Nat → Int)} (kk_ : Int) (nd_ : Int) (S0_ : sm_S) (hI_ : gi S0_) (hJ_ : dAll S0_) : sm_T (mt_P sc_) 2 221 (0, [some (.inr (.inr (some (12, 0)))), some (.inl kk_), some (.inl nd_), none], [], S0_) (fun ro9_ => (∃ u_ S1_, ro9_ = (.inl u_, S1_, 0) ∧ vq_221 kk_ nd_ S0_ u_ S1_) ∨ ∃ ex_ S1_, ro9_ = (.inr ex_, S1_, 1) ∧ ex_ ∈ ([0] : List Nat) ∧ vx_221 kk_ nd_ S0_ S1_) := by
  have hF_ : ai_fr (sx_W vw_221) S0_ S0_ := ai_fr_rf
  refine sm_T_go 2 (c1 := (2, [some (.inr (.inr (some (12, 0)))), some (.inl kk_), some (.inl nd_), none], [.inl kk_, .inr (.inr (some (12, 0)))], S0_)) rfl ?_
  refine sm_T_cale (d1_ := 1) (Q1_ := vq_270 kk_ S0_) (Q2_ := (fun ex_ S1_ => ex_ ∈ ([0] : List Nat) ∧ vx_270 kk_ S0_ S1_)) rfl rfl (by decide) (vc_270 kk_ S0_ hI_ ) rfl (fun xx6_ Sx1_ px4_ => ?_) (fun u_ Sx1_ px4_ => ?_)
  · obtain ⟨px4m, hIx2_, hFx3_, px4_⟩ := px4_
    refine Or.inr ⟨_, _, rfl, by first | exact px4m | (simp only [List.mem_cons, List.not_mem_nil, or_false] at px4m ⊢; omega), hIx2_, ai_fr_tr hF_ (fr_le hFx3_ rfl), ?_⟩
    first | exact px4_.2 | exact px4_ | rfl
  obtain ⟨rfl, -, -, rfl, px4_⟩ := px4_
  have a9_ := px4_
  have J9_ := dOk_b (hJ_ kk_.toNat (by omega) a9_.2)
  have J9a := J9_.1
  have J9b := J9_.2.1
  refine sm_T_go 2 (c1 := (7, [some (.inr (.inr (some (12, 0)))), some (.inl kk_), some (.inl nd_), some (.inr (.inr (some (3, kk_.toNat))))], [.inl nd_], S0_)) rfl ?_
  refine sm_T_b0 (a := 2) (z := 15) rfl (fun cx7_ => ?_) (fun cx7_ => ?_)
  · have cx7_ : nd_ < 0 := of_decide_eq_true cx7_
    refine sm_T_go 1 (c1 := (23, [some (.inr (.inr (some (12, 0)))), some (.inl kk_), some (.inl nd_), some (.inr (.inr (some (3, kk_.toNat))))], [.inl 0], S0_)) rfl ?_
    refine sm_T_cale (d1_ := 0) (Q1_ := vq_265e 0 S0_) (Q2_ := (fun ex_ S1_ => ex_ ∈ ([0] : List Nat) ∧ vx_265e 0 S0_ S1_)) rfl rfl (by decide) (vc_265e 0 S0_ hI_ ) rfl (fun xx13_ Sx8_ px11_ => ?_) (fun u_ Sx8_ px11_ => ?_)
    · obtain ⟨px11m, hIx9_, hFx10_, px11_⟩ := px11_
      refine Or.inr ⟨_, _, rfl, by first | exact px11m | (simp only [List.mem_cons, List.not_mem_nil, or_false] at px11m ⊢; omega), hIx9_, ai_fr_tr hF_ (fr_le hFx10_ rfl), ?_⟩
      first | exact px11_.2 | exact px11_ | rfl
    · exact absurd rfl px11_.2.2.2.1
  · have cx7_ : ¬ (nd_ < 0) := of_decide_eq_false cx7_
    have bx14_ : 0 ≤ S0_.1 3 kk_.toNat 4 ∧ S0_.1 3 kk_.toNat 4 ≤ 1013 := hI_.1 3 kk_.toNat 4 rfl
    refine sm_T_go 3 (c1 := (15, [some (.inr (.inr (some (12, 0)))), some (.inl kk_), some (.inl nd_), some (.inr (.inr (some (3, kk_.toNat))))], [.inl (S0_.1 3 kk_.toNat 4), .inl nd_], S0_)) rfl ?_
    refine sm_T_br (a := 3) (z := 7) rfl (fun cx15_ => ?_) (fun cx15_ => ?_)
    · have cx15_ : (S0_.1 3 kk_.toNat 4) ≤ nd_ := of_decide_eq_true cx15_
      refine sm_T_go 1 (c1 := (23, [some (.inr (.inr (some (12, 0)))), some (.inl kk_), some (.inl nd_), some (.inr (.inr (some (3, kk_.toNat))))], [.inl 0], S0_)) rfl ?_
      refine sm_T_cale (d1_ := 0) (Q1_ := vq_265e 0 S0_) (Q2_ := (fun ex_ S1_ => ex_ ∈ ([0] : List Nat) ∧ vx_265e 0 S0_ S1_)) rfl rfl (by decide) (vc_265e 0 S0_ hI_ ) rfl (fun xx21_ Sx16_ px19_ => ?_) (fun u_ Sx16_ px19_ => ?_)
      · obtain ⟨px19m, hIx17_, hFx18_, px19_⟩ := px19_
        refine Or.inr ⟨_, _, rfl, by first | exact px19m | (simp only [List.mem_cons, List.not_mem_nil, or_false] at px19m ⊢; omega), hIx17_, ai_fr_tr hF_ (fr_le hFx18_ rfl), ?_⟩
        first | exact px19_.2 | exact px19_ | rfl
      · exact absurd rfl px19_.2.2.2.1
    · have cx15_ : ¬ ((S0_.1 3 kk_.toNat 4) ≤ nd_) := of_decide_eq_false cx15_
      refine sm_T_go 2 (c1 := (23, [some (.inr (.inr (some (12, 0)))), some (.inl kk_), some (.inl nd_), some (.inr (.inr (some (3, kk_.toNat))))], [.inl 1], S0_)) rfl ?_
      refine sm_T_cale (d1_ := 0) (Q1_ := vq_265e 1 S0_) (Q2_ := (fun ex_ S1_ => ex_ ∈ ([0] : List Nat) ∧ vx_265e 1 S0_ S1_)) rfl rfl (by decide) (vc_265e 1 S0_ hI_ ) rfl (fun xx27_ Sx22_ px25_ => ?_) (fun u_ Sx22_ px25_ => ?_)
      · exact absurd px25_.2.2.2.1 (by decide)
      obtain ⟨rfl, -, -, px25_, rfl⟩ := px25_
      refine sm_T_go 3 (c1 := (31, [some (.inr (.inr (some (12, 0)))), some (.inl kk_), some (.inl nd_), some (.inr (.inr (some (3, kk_.toNat))))], [.inl nd_, .inr (.inr (some (44, (0 + kk_.toNat))))], S0_)) rfl ?_
      refine sm_T_iald (n := 1013) rfl rfl (by omega) (by omega) ?_
      have bx28_ : 0 ≤ S0_.2.2.1 44 (0 + kk_.toNat) nd_.toNat ∧ S0_.2.2.1 44 (0 + kk_.toNat) nd_.toNat ≤ 2025 := hI_.2 44 (0 + kk_.toNat) _
      refine sm_T_ri rfl (Or.inl ⟨_, _, rfl, _, rfl, hI_, hF_, ?_⟩)
      trivial
end
/-! 99.zj3d -/
section
/-! ChipFlow.root -/
def vw_222 : sx_Wl := ([], [], [])
def vq_222 (kk_ : Int) (k_ : Int) (nx_ : Int) (S0_ : sm_S) (u_ : Option sm_V) (S1_ : sm_S) : Prop := ∃ v_ : Int, u_ = some (.inl v_) ∧ gi S1_ ∧ ai_fr (sx_W vw_222) S0_ S1_ ∧ (True)
def vx_222 (kk_ : Int) (k_ : Int) (nx_ : Int) (S0_ : sm_S) (S1_ : sm_S) : Prop := gi S1_ ∧ ai_fr (sx_W vw_222) S0_ S1_ ∧ (S1_ = S0_)
set_option maxHeartbeats 400000 in
theorem vc_222 {sc_ : Nat × (Nat → Int)} (kk_ : Int) (k_ : Int) (nx_ : Int) (S0_ : sm_S) (hI_ : gi S0_) (hJ_ : dAll S0_) : sm_T (mt_P sc_) 2 222 (0, [some (.inr (.inr (some (12, 0)))), some (.inl kk_), some (.inl k_), some (.inl nx_), none], [], S0_) (fun ro9_ => (∃ u_ S1_, ro9_ = (.inl u_, S1_, 0) ∧ vq_222 kk_ k_ nx_ S0_ u_ S1_) ∨ ∃ ex_ S1_, ro9_ = (.inr ex_, S1_, 1) ∧ ex_ ∈ ([0] : List Nat) ∧ vx_222 kk_ k_ nx_ S0_ S1_) := by
  have hF_ : ai_fr (sx_W vw_222) S0_ S0_ := ai_fr_rf
  refine sm_T_go 2 (c1 := (2, [some (.inr (.inr (some (12, 0)))), some (.inl kk_), some (.inl k_), some (.inl nx_), none], [.inl kk_, .inr (.inr (some (12, 0)))], S0_)) rfl ?_
  refine sm_T_cale (d1_ := 1) (Q1_ := vq_270 kk_ S0_) (Q2_ := (fun ex_ S1_ => ex_ ∈ ([0] : List Nat) ∧ vx_270 kk_ S0_ S1_)) rfl rfl (by decide) (vc_270 kk_ S0_ hI_ ) rfl (fun xx6_ Sx1_ px4_ => ?_) (fun u_ Sx1_ px4_ => ?_)
  · obtain ⟨px4m, hIx2_, hFx3_, px4_⟩ := px4_
    refine Or.inr ⟨_, _, rfl, by first | exact px4m | (simp only [List.mem_cons, List.not_mem_nil, or_false] at px4m ⊢; omega), hIx2_, ai_fr_tr hF_ (fr_le hFx3_ rfl), ?_⟩
    first | exact px4_.2 | exact px4_ | rfl
  obtain ⟨rfl, -, -, rfl, px4_⟩ := px4_
  have a9_ := px4_
  have J9_ := dOk_b (hJ_ kk_.toNat (by omega) a9_.2)
  have J9a := J9_.1
  have J9b := J9_.2.1
  refine sm_T_go 2 (c1 := (8, [some (.inr (.inr (some (12, 0)))), some (.inl kk_), some (.inl k_), some (.inl nx_), some (.inr (.inr (some (3, kk_.toNat))))], [.inl k_], S0_)) rfl ?_
  refine sm_T_b0 (a := 2) (z := 28) rfl (fun cx7_ => ?_) (fun cx7_ => ?_)
  · have cx7_ : k_ < 0 := of_decide_eq_true cx7_
    refine sm_T_go 1 (c1 := (37, [some (.inr (.inr (some (12, 0)))), some (.inl kk_), some (.inl k_), some (.inl nx_), some (.inr (.inr (some (3, kk_.toNat))))], [.inl 0], S0_)) rfl ?_
    refine sm_T_cale (d1_ := 0) (Q1_ := vq_265e 0 S0_) (Q2_ := (fun ex_ S1_ => ex_ ∈ ([0] : List Nat) ∧ vx_265e 0 S0_ S1_)) rfl rfl (by decide) (vc_265e 0 S0_ hI_ ) rfl (fun xx13_ Sx8_ px11_ => ?_) (fun u_ Sx8_ px11_ => ?_)
    · obtain ⟨px11m, hIx9_, hFx10_, px11_⟩ := px11_
      refine Or.inr ⟨_, _, rfl, by first | exact px11m | (simp only [List.mem_cons, List.not_mem_nil, or_false] at px11m ⊢; omega), hIx9_, ai_fr_tr hF_ (fr_le hFx10_ rfl), ?_⟩
      first | exact px11_.2 | exact px11_ | rfl
    · exact absurd rfl px11_.2.2.2.1
  · have cx7_ : ¬ (k_ < 0) := of_decide_eq_false cx7_
    refine sm_T_go 2 (c1 := (13, [some (.inr (.inr (some (12, 0)))), some (.inl kk_), some (.inl k_), some (.inl nx_), some (.inr (.inr (some (3, kk_.toNat))))], [.inl nx_, .inl k_], S0_)) rfl ?_
    refine sm_T_b0 (a := 0) (z := 11) rfl (fun cx14_ => ?_) (fun cx14_ => ?_)
    · have cx14_ : nx_ = 0 := of_decide_eq_true cx14_
      have bx15_ : 0 ≤ S0_.1 3 kk_.toNat 3 ∧ S0_.1 3 kk_.toNat 3 ≤ 320 := hI_.1 3 kk_.toNat 3 rfl
      refine sm_T_go 2 (c1 := (29, [some (.inr (.inr (some (12, 0)))), some (.inl kk_), some (.inl k_), some (.inl nx_), some (.inr (.inr (some (3, kk_.toNat))))], [.inl (S0_.1 3 kk_.toNat 3), .inl k_], S0_)) rfl ?_
      refine sm_T_br (a := 3) (z := 7) rfl (fun cx16_ => ?_) (fun cx16_ => ?_)
      · have cx16_ : (S0_.1 3 kk_.toNat 3) ≤ k_ := of_decide_eq_true cx16_
        refine sm_T_go 1 (c1 := (37, [some (.inr (.inr (some (12, 0)))), some (.inl kk_), some (.inl k_), some (.inl nx_), some (.inr (.inr (some (3, kk_.toNat))))], [.inl 0], S0_)) rfl ?_
        refine sm_T_cale (d1_ := 0) (Q1_ := vq_265e 0 S0_) (Q2_ := (fun ex_ S1_ => ex_ ∈ ([0] : List Nat) ∧ vx_265e 0 S0_ S1_)) rfl rfl (by decide) (vc_265e 0 S0_ hI_ ) rfl (fun xx22_ Sx17_ px20_ => ?_) (fun u_ Sx17_ px20_ => ?_)
        · obtain ⟨px20m, hIx18_, hFx19_, px20_⟩ := px20_
          refine Or.inr ⟨_, _, rfl, by first | exact px20m | (simp only [List.mem_cons, List.not_mem_nil, or_false] at px20m ⊢; omega), hIx18_, ai_fr_tr hF_ (fr_le hFx19_ rfl), ?_⟩
          first | exact px20_.2 | exact px20_ | rfl
        · exact absurd rfl px20_.2.2.2.1
      · have cx16_ : ¬ ((S0_.1 3 kk_.toNat 3) ≤ k_) := of_decide_eq_false cx16_
        refine sm_T_go 2 (c1 := (37, [some (.inr (.inr (some (12, 0)))), some (.inl kk_), some (.inl k_), some (.inl nx_), some (.inr (.inr (some (3, kk_.toNat))))], [.inl 1], S0_)) rfl ?_
        refine sm_T_cale (d1_ := 0) (Q1_ := vq_265e 1 S0_) (Q2_ := (fun ex_ S1_ => ex_ ∈ ([0] : List Nat) ∧ vx_265e 1 S0_ S1_)) rfl rfl (by decide) (vc_265e 1 S0_ hI_ ) rfl (fun xx28_ Sx23_ px26_ => ?_) (fun u_ Sx23_ px26_ => ?_)
        · exact absurd px26_.2.2.2.1 (by decide)
        obtain ⟨rfl, -, -, px26_, rfl⟩ := px26_
        refine sm_T_go 1 (c1 := (41, [some (.inr (.inr (some (12, 0)))), some (.inl kk_), some (.inl k_), some (.inl nx_), some (.inr (.inr (some (3, kk_.toNat))))], [.inl nx_], S0_)) rfl ?_
        refine sm_T_b0 (a := 0) (z := 13) rfl (fun cx29_ => ?_) (fun cx29_ => ?_)
        · have cx29_ : nx_ = 0 := of_decide_eq_true cx29_
          refine sm_T_go 3 (c1 := (60, [some (.inr (.inr (some (12, 0)))), some (.inl kk_), some (.inl k_), some (.inl nx_), some (.inr (.inr (some (3, kk_.toNat))))], [.inl k_, .inr (.inr (some (45, (0 + kk_.toNat))))], S0_)) rfl ?_
          refine sm_T_iald (n := 16) rfl rfl (by omega) (by omega) ?_
          have bx30_ : 0 ≤ S0_.2.2.1 45 (0 + kk_.toNat) k_.toNat ∧ S0_.2.2.1 45 (0 + kk_.toNat) k_.toNat ≤ 2025 := hI_.2 45 (0 + kk_.toNat) _
          refine sm_T_ri rfl (Or.inl ⟨_, _, rfl, _, rfl, hI_, hF_, ?_⟩)
          trivial
        · have cx29_ : ¬ (nx_ = 0) := of_decide_eq_false cx29_
          exfalso; omega
    · have cx14_ : ¬ (nx_ = 0) := of_decide_eq_false cx14_
      have bx31_ : 0 ≤ S0_.1 3 kk_.toNat 2 ∧ S0_.1 3 kk_.toNat 2 ≤ 100000 := hI_.1 3 kk_.toNat 2 rfl
      refine sm_T_go 3 (c1 := (29, [some (.inr (.inr (some (12, 0)))), some (.inl kk_), some (.inl k_), some (.inl nx_), some (.inr (.inr (some (3, kk_.toNat))))], [.inl (S0_.1 3 kk_.toNat 2), .inl k_], S0_)) rfl ?_
      refine sm_T_br (a := 3) (z := 7) rfl (fun cx32_ => ?_) (fun cx32_ => ?_)
      · have cx32_ : (S0_.1 3 kk_.toNat 2) ≤ k_ := of_decide_eq_true cx32_
        refine sm_T_go 1 (c1 := (37, [some (.inr (.inr (some (12, 0)))), some (.inl kk_), some (.inl k_), some (.inl nx_), some (.inr (.inr (some (3, kk_.toNat))))], [.inl 0], S0_)) rfl ?_
        refine sm_T_cale (d1_ := 0) (Q1_ := vq_265e 0 S0_) (Q2_ := (fun ex_ S1_ => ex_ ∈ ([0] : List Nat) ∧ vx_265e 0 S0_ S1_)) rfl rfl (by decide) (vc_265e 0 S0_ hI_ ) rfl (fun xx38_ Sx33_ px36_ => ?_) (fun u_ Sx33_ px36_ => ?_)
        · obtain ⟨px36m, hIx34_, hFx35_, px36_⟩ := px36_
          refine Or.inr ⟨_, _, rfl, by first | exact px36m | (simp only [List.mem_cons, List.not_mem_nil, or_false] at px36m ⊢; omega), hIx34_, ai_fr_tr hF_ (fr_le hFx35_ rfl), ?_⟩
          first | exact px36_.2 | exact px36_ | rfl
        · exact absurd rfl px36_.2.2.2.1
      · have cx32_ : ¬ ((S0_.1 3 kk_.toNat 2) ≤ k_) := of_decide_eq_false cx32_
        refine sm_T_go 2 (c1 := (37, [some (.inr (.inr (some (12, 0)))), some (.inl kk_), some (.inl k_), some (.inl nx_), some (.inr (.inr (some (3, kk_.toNat))))], [.inl 1], S0_)) rfl ?_
        refine sm_T_cale (d1_ := 0) (Q1_ := vq_265e 1 S0_) (Q2_ := (fun ex_ S1_ => ex_ ∈ ([0] : List Nat) ∧ vx_265e 1 S0_ S1_)) rfl rfl (by decide) (vc_265e 1 S0_ hI_ ) rfl (fun xx44_ Sx39_ px42_ => ?_) (fun u_ Sx39_ px42_ => ?_)
        · exact absurd px42_.2.2.2.1 (by decide)
        obtain ⟨rfl, -, -, px42_, rfl⟩ := px42_
        refine sm_T_go 1 (c1 := (41, [some (.inr (.inr (some (12, 0)))), some (.inl kk_), some (.inl k_), some (.inl nx_), some (.inr (.inr (some (3, kk_.toNat))))], [.inl nx_], S0_)) rfl ?_
        refine sm_T_b0 (a := 0) (z := 13) rfl (fun cx45_ => ?_) (fun cx45_ => ?_)
        · have cx45_ : nx_ = 0 := of_decide_eq_true cx45_
          refine sm_T_go 3 (c1 := (60, [some (.inr (.inr (some (12, 0)))), some (.inl kk_), some (.inl k_), some (.inl nx_), some (.inr (.inr (some (3, kk_.toNat))))], [.inl k_, .inr (.inr (some (45, (0 + kk_.toNat))))], S0_)) rfl ?_
          refine sm_T_iald (n := 16) rfl rfl (by omega) (by omega) ?_
          have bx46_ : 0 ≤ S0_.2.2.1 45 (0 + kk_.toNat) k_.toNat ∧ S0_.2.2.1 45 (0 + kk_.toNat) k_.toNat ≤ 2025 := hI_.2 45 (0 + kk_.toNat) _
          refine sm_T_ri rfl (Or.inl ⟨_, _, rfl, _, rfl, hI_, hF_, ?_⟩)
          trivial
        · have cx45_ : ¬ (nx_ = 0) := of_decide_eq_false cx45_
          refine sm_T_go 3 (c1 := (50, [some (.inr (.inr (some (12, 0)))), some (.inl kk_), some (.inl k_), some (.inl nx_), some (.inr (.inr (some (3, kk_.toNat))))], [.inl k_, .inr (.inr (some (46, (0 + kk_.toNat))))], S0_)) rfl ?_
          refine sm_T_iald (n := 6) rfl rfl (by omega) (by omega) ?_
          have bx47_ : 0 ≤ S0_.2.2.1 46 (0 + kk_.toNat) k_.toNat ∧ S0_.2.2.1 46 (0 + kk_.toNat) k_.toNat ≤ 2025 := hI_.2 46 (0 + kk_.toNat) _
          refine sm_T_go 1 (c1 := (61, [some (.inr (.inr (some (12, 0)))), some (.inl kk_), some (.inl k_), some (.inl nx_), some (.inr (.inr (some (3, kk_.toNat))))], [.inl (S0_.2.2.1 46 (0 + kk_.toNat) k_.toNat)], S0_)) rfl ?_
          refine sm_T_ri rfl (Or.inl ⟨_, _, rfl, _, rfl, hI_, hF_, ?_⟩)
          trivial
end
/-! 99.zj3e -/
section
/-! ChipFlow.state -/
def vw_225 : sx_Wl := ([], [], [])
def vq_225 (kk_ : Int) (S0_ : sm_S) (u_ : Option sm_V) (S1_ : sm_S) : Prop := ∃ v_ : Int, u_ = some (.inl v_) ∧ gi S1_ ∧ ai_fr (sx_W vw_225) S0_ S1_ ∧ (True)
def vx_225 (kk_ : Int) (S0_ : sm_S) (S1_ : sm_S) : Prop := gi S1_ ∧ ai_fr (sx_W vw_225) S0_ S1_ ∧ (S1_ = S0_)
set_option maxHeartbeats 400000 in
theorem vc_225 {sc_ : Nat × (Nat → Int)} (kk_ : Int) (S0_ : sm_S) (hI_ : gi S0_) (hJ_ : dAll S0_) : sm_T (mt_P sc_) 2 225 (0, [some (.inr (.inr (some (12, 0)))), some (.inl kk_)], [], S0_) (fun ro9_ => (∃ u_ S1_, ro9_ = (.inl u_, S1_, 0) ∧ vq_225 kk_ S0_ u_ S1_) ∨ ∃ ex_ S1_, ro9_ = (.inr ex_, S1_, 1) ∧ ex_ ∈ ([0] : List Nat) ∧ vx_225 kk_ S0_ S1_) := by
  have hF_ : ai_fr (sx_W vw_225) S0_ S0_ := ai_fr_rf
  refine sm_T_go 2 (c1 := (2, [some (.inr (.inr (some (12, 0)))), some (.inl kk_)], [.inl kk_, .inr (.inr (some (12, 0)))], S0_)) rfl ?_
  refine sm_T_cale (d1_ := 1) (Q1_ := vq_270 kk_ S0_) (Q2_ := (fun ex_ S1_ => ex_ ∈ ([0] : List Nat) ∧ vx_270 kk_ S0_ S1_)) rfl rfl (by decide) (vc_270 kk_ S0_ hI_ ) rfl (fun xx6_ Sx1_ px4_ => ?_) (fun u_ Sx1_ px4_ => ?_)
  · obtain ⟨px4m, hIx2_, hFx3_, px4_⟩ := px4_
    refine Or.inr ⟨_, _, rfl, by first | exact px4m | (simp only [List.mem_cons, List.not_mem_nil, or_false] at px4m ⊢; omega), hIx2_, ai_fr_tr hF_ (fr_le hFx3_ rfl), ?_⟩
    first | exact px4_.2 | exact px4_ | rfl
  obtain ⟨rfl, -, -, rfl, px4_⟩ := px4_
  have a9_ := px4_
  have J9_ := dOk_b (hJ_ kk_.toNat (by omega) a9_.2)
  have J9a := J9_.1
  have J9b := J9_.2.1
  have bx7_ : 0 ≤ S0_.1 3 kk_.toNat 6 ∧ S0_.1 3 kk_.toNat 6 ≤ 63 := hI_.1 3 kk_.toNat 6 rfl
  refine sm_T_go 1 (c1 := (8, [some (.inr (.inr (some (12, 0)))), some (.inl kk_)], [.inl (S0_.1 3 kk_.toNat 6)], S0_)) rfl ?_
  refine sm_T_ri rfl (Or.inl ⟨_, _, rfl, _, rfl, hI_, hF_, ?_⟩)
  trivial
end
/-! 99.zj3f -/
section
/-! ChipFlow.restart -/
end
/-! 99.zj3g -/
section
/-! ChipFlow.cell -/
def vw_223 : sx_Wl := ([], [], [])
def vq_223 (lb_ : Int) (k_ : Int) (wh_ : Int) (S0_ : sm_S) (u_ : Option sm_V) (S1_ : sm_S) : Prop := ∃ v_ : Int, u_ = some (.inl v_) ∧ gi S1_ ∧ ai_fr (sx_W vw_223) S0_ S1_ ∧ (True)
def vx_223 (lb_ : Int) (k_ : Int) (wh_ : Int) (S0_ : sm_S) (S1_ : sm_S) : Prop := gi S1_ ∧ ai_fr (sx_W vw_223) S0_ S1_ ∧ (S1_ = S0_)
set_option maxHeartbeats 400000 in
theorem vc_223 {sc_ : Nat × (Nat → Int)} (lb_ : Int) (k_ : Int) (wh_ : Int) (S0_ : sm_S) (hI_ : gi S0_)  : sm_T (mt_P sc_) 2 223 (0, [some (.inr (.inr (some (12, 0)))), some (.inl lb_), some (.inl k_), some (.inl wh_), none], [], S0_) (fun ro9_ => (∃ u_ S1_, ro9_ = (.inl u_, S1_, 0) ∧ vq_223 lb_ k_ wh_ S0_ u_ S1_) ∨ ∃ ex_ S1_, ro9_ = (.inr ex_, S1_, 1) ∧ ex_ ∈ ([0, 1] : List Nat) ∧ vx_223 lb_ k_ wh_ S0_ S1_) := by
  have hF_ : ai_fr (sx_W vw_223) S0_ S0_ := ai_fr_rf
  refine sm_T_go 2 (c1 := (2, [some (.inr (.inr (some (12, 0)))), some (.inl lb_), some (.inl k_), some (.inl wh_), none], [.inl lb_, .inr (.inr (some (12, 0)))], S0_)) rfl ?_
  refine sm_T_cale (d1_ := 1) (Q1_ := vq_271 lb_ S0_) (Q2_ := (fun ex_ S1_ => ex_ ∈ ([0] : List Nat) ∧ vx_271 lb_ S0_ S1_)) rfl rfl (by decide) (vc_271 lb_ S0_ hI_ ) rfl (fun xx6_ Sx1_ px4_ => ?_) (fun u_ Sx1_ px4_ => ?_)
  · obtain ⟨px4m, hIx2_, hFx3_, px4_⟩ := px4_
    refine Or.inr ⟨_, _, rfl, by first | exact px4m | (simp only [List.mem_cons, List.not_mem_nil, or_false] at px4m ⊢; omega), hIx2_, ai_fr_tr hF_ (fr_le hFx3_ rfl), ?_⟩
    first | exact px4_.2 | exact px4_ | rfl
  obtain ⟨rfl, -, -, rfl, px4_⟩ := px4_
  have a9_ := px4_
  refine sm_T_go 3 (c1 := (9, [some (.inr (.inr (some (12, 0)))), some (.inl lb_), some (.inl k_), some (.inl wh_), some (.inr (.inr (some (5, lb_.toNat))))], [.inl (-1), .inl k_], S0_)) rfl ?_
  refine sm_T_br (a := 2) (z := 16) rfl (fun cx7_ => ?_) (fun cx7_ => ?_)
  · have cx7_ : k_ < (-1) := of_decide_eq_true cx7_
    refine sm_T_go 1 (c1 := (26, [some (.inr (.inr (some (12, 0)))), some (.inl lb_), some (.inl k_), some (.inl wh_), some (.inr (.inr (some (5, lb_.toNat))))], [.inl 0], S0_)) rfl ?_
    refine sm_T_cale (d1_ := 0) (Q1_ := vq_265e 0 S0_) (Q2_ := (fun ex_ S1_ => ex_ ∈ ([0] : List Nat) ∧ vx_265e 0 S0_ S1_)) rfl rfl (by decide) (vc_265e 0 S0_ hI_ ) rfl (fun xx13_ Sx8_ px11_ => ?_) (fun u_ Sx8_ px11_ => ?_)
    · obtain ⟨px11m, hIx9_, hFx10_, px11_⟩ := px11_
      refine Or.inr ⟨_, _, rfl, by first | exact px11m | (simp only [List.mem_cons, List.not_mem_nil, or_false] at px11m ⊢; omega), hIx9_, ai_fr_tr hF_ (fr_le hFx10_ rfl), ?_⟩
      first | exact px11_.2 | exact px11_ | rfl
    · exact absurd rfl px11_.2.2.2.1
  · have cx7_ : ¬ (k_ < (-1)) := of_decide_eq_false cx7_
    have bx14_ : 0 ≤ S0_.1 5 lb_.toNat 1 ∧ S0_.1 5 lb_.toNat 1 ≤ 12 := hI_.1 5 lb_.toNat 1 rfl
    refine sm_T_go 3 (c1 := (18, [some (.inr (.inr (some (12, 0)))), some (.inl lb_), some (.inl k_), some (.inl wh_), some (.inr (.inr (some (5, lb_.toNat))))], [.inl (S0_.1 5 lb_.toNat 1), .inl k_], S0_)) rfl ?_
    refine sm_T_br (a := 3) (z := 7) rfl (fun cx15_ => ?_) (fun cx15_ => ?_)
    · have cx15_ : (S0_.1 5 lb_.toNat 1) ≤ k_ := of_decide_eq_true cx15_
      refine sm_T_go 1 (c1 := (26, [some (.inr (.inr (some (12, 0)))), some (.inl lb_), some (.inl k_), some (.inl wh_), some (.inr (.inr (some (5, lb_.toNat))))], [.inl 0], S0_)) rfl ?_
      refine sm_T_cale (d1_ := 0) (Q1_ := vq_265e 0 S0_) (Q2_ := (fun ex_ S1_ => ex_ ∈ ([0] : List Nat) ∧ vx_265e 0 S0_ S1_)) rfl rfl (by decide) (vc_265e 0 S0_ hI_ ) rfl (fun xx21_ Sx16_ px19_ => ?_) (fun u_ Sx16_ px19_ => ?_)
      · obtain ⟨px19m, hIx17_, hFx18_, px19_⟩ := px19_
        refine Or.inr ⟨_, _, rfl, by first | exact px19m | (simp only [List.mem_cons, List.not_mem_nil, or_false] at px19m ⊢; omega), hIx17_, ai_fr_tr hF_ (fr_le hFx18_ rfl), ?_⟩
        first | exact px19_.2 | exact px19_ | rfl
      · exact absurd rfl px19_.2.2.2.1
    · have cx15_ : ¬ ((S0_.1 5 lb_.toNat 1) ≤ k_) := of_decide_eq_false cx15_
      refine sm_T_go 2 (c1 := (26, [some (.inr (.inr (some (12, 0)))), some (.inl lb_), some (.inl k_), some (.inl wh_), some (.inr (.inr (some (5, lb_.toNat))))], [.inl 1], S0_)) rfl ?_
      refine sm_T_cale (d1_ := 0) (Q1_ := vq_265e 1 S0_) (Q2_ := (fun ex_ S1_ => ex_ ∈ ([0] : List Nat) ∧ vx_265e 1 S0_ S1_)) rfl rfl (by decide) (vc_265e 1 S0_ hI_ ) rfl (fun xx27_ Sx22_ px25_ => ?_) (fun u_ Sx22_ px25_ => ?_)
      · exact absurd px25_.2.2.2.1 (by decide)
      obtain ⟨rfl, -, -, px25_, rfl⟩ := px25_
      refine sm_T_go 1 (c1 := (30, [some (.inr (.inr (some (12, 0)))), some (.inl lb_), some (.inl k_), some (.inl wh_), some (.inr (.inr (some (5, lb_.toNat))))], [.inl wh_], S0_)) rfl ?_
      refine sm_T_b0 (a := 2) (z := 12) rfl (fun cx28_ => ?_) (fun cx28_ => ?_)
      · have cx28_ : wh_ < 0 := of_decide_eq_true cx28_
        refine sm_T_go 1 (c1 := (43, [some (.inr (.inr (some (12, 0)))), some (.inl lb_), some (.inl k_), some (.inl wh_), some (.inr (.inr (some (5, lb_.toNat))))], [.inl 0], S0_)) rfl ?_
        refine sm_T_cale (d1_ := 0) (Q1_ := vq_266e 0 S0_) (Q2_ := (fun ex_ S1_ => ex_ ∈ ([1] : List Nat) ∧ vx_266e 0 S0_ S1_)) rfl rfl (by decide) (vc_266e 0 S0_ hI_ ) rfl (fun xx34_ Sx29_ px32_ => ?_) (fun u_ Sx29_ px32_ => ?_)
        · obtain ⟨px32m, hIx30_, hFx31_, px32_⟩ := px32_
          refine Or.inr ⟨_, _, rfl, by first | exact px32m | (simp only [List.mem_cons, List.not_mem_nil, or_false] at px32m ⊢; omega), hIx30_, ai_fr_tr hF_ (fr_le hFx31_ rfl), ?_⟩
          first | exact px32_.2 | exact px32_ | rfl
        · exact absurd rfl px32_.2.2.2.1
      · have cx28_ : ¬ (wh_ < 0) := of_decide_eq_false cx28_
        refine sm_T_go 2 (c1 := (35, [some (.inr (.inr (some (12, 0)))), some (.inl lb_), some (.inl k_), some (.inl wh_), some (.inr (.inr (some (5, lb_.toNat))))], [.inl 3, .inl wh_], S0_)) rfl ?_
        refine sm_T_br (a := 4) (z := 7) rfl (fun cx35_ => ?_) (fun cx35_ => ?_)
        · have cx35_ : 3 < wh_ := of_decide_eq_true cx35_
          refine sm_T_go 1 (c1 := (43, [some (.inr (.inr (some (12, 0)))), some (.inl lb_), some (.inl k_), some (.inl wh_), some (.inr (.inr (some (5, lb_.toNat))))], [.inl 0], S0_)) rfl ?_
          refine sm_T_cale (d1_ := 0) (Q1_ := vq_266e 0 S0_) (Q2_ := (fun ex_ S1_ => ex_ ∈ ([1] : List Nat) ∧ vx_266e 0 S0_ S1_)) rfl rfl (by decide) (vc_266e 0 S0_ hI_ ) rfl (fun xx41_ Sx36_ px39_ => ?_) (fun u_ Sx36_ px39_ => ?_)
          · obtain ⟨px39m, hIx37_, hFx38_, px39_⟩ := px39_
            refine Or.inr ⟨_, _, rfl, by first | exact px39m | (simp only [List.mem_cons, List.not_mem_nil, or_false] at px39m ⊢; omega), hIx37_, ai_fr_tr hF_ (fr_le hFx38_ rfl), ?_⟩
            first | exact px39_.2 | exact px39_ | rfl
          · exact absurd rfl px39_.2.2.2.1
        · have cx35_ : ¬ (3 < wh_) := of_decide_eq_false cx35_
          refine sm_T_go 2 (c1 := (43, [some (.inr (.inr (some (12, 0)))), some (.inl lb_), some (.inl k_), some (.inl wh_), some (.inr (.inr (some (5, lb_.toNat))))], [.inl 1], S0_)) rfl ?_
          refine sm_T_cale (d1_ := 0) (Q1_ := vq_266e 1 S0_) (Q2_ := (fun ex_ S1_ => ex_ ∈ ([1] : List Nat) ∧ vx_266e 1 S0_ S1_)) rfl rfl (by decide) (vc_266e 1 S0_ hI_ ) rfl (fun xx47_ Sx42_ px45_ => ?_) (fun u_ Sx42_ px45_ => ?_)
          · exact absurd px45_.2.2.2.1 (by decide)
          obtain ⟨rfl, -, -, px45_, rfl⟩ := px45_
          refine sm_T_go 2 (c1 := (48, [some (.inr (.inr (some (12, 0)))), some (.inl lb_), some (.inl k_), some (.inl wh_), some (.inr (.inr (some (5, lb_.toNat))))], [.inl (-1), .inl k_], S0_)) rfl ?_
          refine sm_T_br (a := 1) (z := 30) rfl (fun cx48_ => ?_) (fun cx48_ => ?_)
          · have cx48_ : k_ ≠ (-1) := of_decide_eq_true cx48_
            refine sm_T_go 1 (c1 := (79, [some (.inr (.inr (some (12, 0)))), some (.inl lb_), some (.inl k_), some (.inl wh_), some (.inr (.inr (some (5, lb_.toNat))))], [.inl wh_], S0_)) rfl ?_
            by_cases cx49_ : wh_ = 0
            · refine sm_T_sw (t := 104) rfl rfl (by rw [cx49_]; rfl) ?_
              refine sm_T_go 3 (c1 := (110, [some (.inr (.inr (some (12, 0)))), some (.inl lb_), some (.inl k_), some (.inl wh_), some (.inr (.inr (some (5, lb_.toNat))))], [.inl k_, .inr (.inr (some (55, (0 + lb_.toNat))))], S0_)) rfl ?_
              refine sm_T_iald (n := 12) rfl rfl (by omega) (by omega) ?_
              have bx50_ : 0 ≤ S0_.2.2.1 55 (0 + lb_.toNat) k_.toNat ∧ S0_.2.2.1 55 (0 + lb_.toNat) k_.toNat ≤ 3 := hI_.2 55 (0 + lb_.toNat) _
              refine sm_T_ri rfl (Or.inl ⟨_, _, rfl, _, rfl, hI_, hF_, ?_⟩)
              trivial
            by_cases cx51_ : wh_ = 1
            · refine sm_T_sw (t := 112) rfl rfl (by rw [cx51_]; rfl) ?_
              refine sm_T_go 3 (c1 := (118, [some (.inr (.inr (some (12, 0)))), some (.inl lb_), some (.inl k_), some (.inl wh_), some (.inr (.inr (some (5, lb_.toNat))))], [.inl k_, .inr (.inr (some (56, (0 + lb_.toNat))))], S0_)) rfl ?_
              refine sm_T_iald (n := 12) rfl rfl (by omega) (by omega) ?_
              have bx52_ : 0 ≤ S0_.2.2.1 56 (0 + lb_.toNat) k_.toNat ∧ S0_.2.2.1 56 (0 + lb_.toNat) k_.toNat ≤ 255 := hI_.2 56 (0 + lb_.toNat) _
              refine sm_T_ri rfl (Or.inl ⟨_, _, rfl, _, rfl, hI_, hF_, ?_⟩)
              trivial
            by_cases cx53_ : wh_ = 2
            · refine sm_T_sw (t := 120) rfl rfl (by rw [cx53_]; rfl) ?_
              refine sm_T_go 3 (c1 := (126, [some (.inr (.inr (some (12, 0)))), some (.inl lb_), some (.inl k_), some (.inl wh_), some (.inr (.inr (some (5, lb_.toNat))))], [.inl k_, .inr (.inr (some (57, (0 + lb_.toNat))))], S0_)) rfl ?_
              refine sm_T_iald (n := 12) rfl rfl (by omega) (by omega) ?_
              have bx54_ : 0 ≤ S0_.2.2.1 57 (0 + lb_.toNat) k_.toNat ∧ S0_.2.2.1 57 (0 + lb_.toNat) k_.toNat ≤ 1000 := hI_.2 57 (0 + lb_.toNat) _
              refine sm_T_ri rfl (Or.inl ⟨_, _, rfl, _, rfl, hI_, hF_, ?_⟩)
              trivial
            refine sm_T_sw (t := 128) rfl rfl (by (have hh_ : wh_ < 0 ∨ 3 ≤ wh_ := by omega); rcases hh_ with hh_ | hh_; (exact sm_swd (Or.inl hh_)); (exact sm_swd (Or.inr (by simp only [List.length_cons, List.length_nil]; omega)))) ?_
            refine sm_T_go 3 (c1 := (134, [some (.inr (.inr (some (12, 0)))), some (.inl lb_), some (.inl k_), some (.inl wh_), some (.inr (.inr (some (5, lb_.toNat))))], [.inl k_, .inr (.inr (some (58, (0 + lb_.toNat))))], S0_)) rfl ?_
            refine sm_T_iald (n := 12) rfl rfl (by omega) (by omega) ?_
            have bx55_ : 0 ≤ S0_.2.2.1 58 (0 + lb_.toNat) k_.toNat ∧ S0_.2.2.1 58 (0 + lb_.toNat) k_.toNat ≤ 100 := hI_.2 58 (0 + lb_.toNat) _
            refine sm_T_ri rfl (Or.inl ⟨_, _, rfl, _, rfl, hI_, hF_, ?_⟩)
            trivial
          · have cx48_ : ¬ (k_ ≠ (-1)) := of_decide_eq_false cx48_
            refine sm_T_go 1 (c1 := (52, [some (.inr (.inr (some (12, 0)))), some (.inl lb_), some (.inl k_), some (.inl wh_), some (.inr (.inr (some (5, lb_.toNat))))], [.inl wh_], S0_)) rfl ?_
            refine sm_T_b0 (a := 1) (z := 11) rfl (fun cx56_ => ?_) (fun cx56_ => ?_)
            · have cx56_ : wh_ ≠ 0 := of_decide_eq_true cx56_
              refine sm_T_go 2 (c1 := (65, [some (.inr (.inr (some (12, 0)))), some (.inl lb_), some (.inl k_), some (.inl wh_), some (.inr (.inr (some (5, lb_.toNat))))], [.inl 1, .inl wh_], S0_)) rfl ?_
              refine sm_T_br (a := 1) (z := 11) rfl (fun cx57_ => ?_) (fun cx57_ => ?_)
              · have cx57_ : wh_ ≠ 1 := of_decide_eq_true cx57_
                refine sm_T_go 1 (c1 := (77, [some (.inr (.inr (some (12, 0)))), some (.inl lb_), some (.inl k_), some (.inl wh_), some (.inr (.inr (some (5, lb_.toNat))))], [.inl 0], S0_)) rfl ?_
                refine sm_T_ri rfl (Or.inl ⟨_, _, rfl, _, rfl, hI_, hF_, ?_⟩)
                trivial
              · have cx57_ : ¬ (wh_ ≠ 1) := of_decide_eq_false cx57_
                have bx58_ : (-1) ≤ S0_.1 5 lb_.toNat 2 ∧ S0_.1 5 lb_.toNat 2 ≤ 11 := hI_.1 5 lb_.toNat 2 rfl
                refine sm_T_go 3 (c1 := (77, [some (.inr (.inr (some (12, 0)))), some (.inl lb_), some (.inl k_), some (.inl wh_), some (.inr (.inr (some (5, lb_.toNat))))], [.inl (S0_.1 5 lb_.toNat 2)], S0_)) rfl ?_
                refine sm_T_ri rfl (Or.inl ⟨_, _, rfl, _, rfl, hI_, hF_, ?_⟩)
                trivial
            · have cx56_ : ¬ (wh_ ≠ 0) := of_decide_eq_false cx56_
              refine sm_T_go 3 (c1 := (77, [some (.inr (.inr (some (12, 0)))), some (.inl lb_), some (.inl k_), some (.inl wh_), some (.inr (.inr (some (5, lb_.toNat))))], [.inl (S0_.1 5 lb_.toNat 1)], S0_)) rfl ?_
              refine sm_T_ri rfl (Or.inl ⟨_, _, rfl, _, rfl, hI_, hF_, ?_⟩)
              trivial
end
/-! 99.zj3h -/
section
/-! ChipFlow.play -/
end
