/-! Mapper.placeOf -/
def vw_98 : sx_Wl := ([], [], [])
def vq_98 (a0_ : Int) (a1_ : Int) (a2_ : Int) (S0_ : sm_S) (u_ : Option sm_V) (S1_ : sm_S) : Prop := S0_ = S1_ ∧ ∃ v_ : Int, u_ = some (.inl v_) ∧ ((0 ≤ v_ ∧ v_ ≤ a0_ - 1) ∧ v_ = plo a0_ a1_ a2_)
set_option maxHeartbeats 400000 in
theorem vc_98 {sc_ : Nat × (Nat → Int)} (a0_ : Int) (a1_ : Int) (a2_ : Int) (S0_ : sm_S) (hI_ : gi S0_) (h0_ : (a0_ = 2 ∧ 0 ≤ a1_ ∧ a1_ ≤ 1 ∧ 0 ≤ a2_ ∧ a2_ ≤ 1) ∨ (a0_ = 3 ∧ 0 ≤ a1_ ∧ a1_ ≤ 5 ∧ 0 ≤ a2_ ∧ a2_ ≤ 2)) : sm_T (mt_P sc_) 0 98 (0, [some (.inl a0_), some (.inl a1_), some (.inl a2_)], [], S0_) (fun ro9_ => ∃ u_ S1_, ro9_ = (.inl u_, S1_, 0) ∧ vq_98 a0_ a1_ a2_ S0_ u_ S1_) := by
  have hF_ : ai_fr (sx_W vw_98) S0_ S0_ := ai_fr_rf
  refine sm_T_nt (u := some (.inr (.inr (some (300, 0))))) (S1 := S0_) rfl rfl rfl ?_
  refine sm_T_go 3 (c1 := (6, [some (.inl a0_), some (.inl a1_), some (.inl a2_)], [.inl 2, .inl a0_, .inl 3, .inr (.inr (some (300, 0)))], S0_)) rfl ?_
  refine sm_T_br (a := 1) (z := 7) rfl (fun cx1_ => ?_) (fun cx1_ => ?_)
  · have cx1_ : a0_ ≠ 2 := of_decide_eq_true cx1_
    refine sm_T_go 2 (c1 := (15, [some (.inl a0_), some (.inl a1_), some (.inl a2_)], [.inl a1_, .inl 2, .inl 3, .inr (.inr (some (300, 0)))], S0_)) rfl ?_
    refine sm_T_bin (w := a1_ + 2) rfl (bi_add (by omega) (by omega) (by omega)) ?_ -- pc_ 15
    refine sm_T_bin (w := 3 * a1_ + 6) rfl (bi_mul (by omega) (by omega) (by omega)) ?_ -- pc_ 16
    refine sm_T_go 1 (c1 := (18, [some (.inl a0_), some (.inl a1_), some (.inl a2_)], [.inl a2_, .inl (3 * a1_ + 6), .inr (.inr (some (300, 0)))], S0_)) rfl ?_
    refine sm_T_bin (w := 3 * a1_ + a2_ + 6) rfl (bi_add (by omega) (by omega) (by omega)) ?_ -- pc_ 18
    refine sm_T_nt (u := some (.inl (st_at 4 (3 * a1_ + a2_ + 6)))) (S1 := S0_) rfl rfl (nt_st (sc := sc_) (j := 4) (n := 24) (by decide) rfl rfl (by omega) (by omega)) ?_
    refine sm_T_ri rfl ⟨_, _, rfl, rfl, _, rfl, ?_⟩
    first | (have z9_ := pl2 (i_ := 3 * a1_ + a2_) (by omega); exact ⟨by omega, by unfold plo; rw [if_pos (by omega)]⟩) | (have z9_ := pl3 (i_ := 3 * a1_ + a2_ + 6) (by omega); exact ⟨by omega, by unfold plo; rw [if_neg (by omega)]⟩)
  · have cx1_ : ¬ (a0_ ≠ 2) := of_decide_eq_false cx1_
    refine sm_T_go 2 (c1 := (16, [some (.inl a0_), some (.inl a1_), some (.inl a2_)], [.inl a1_, .inl 3, .inr (.inr (some (300, 0)))], S0_)) rfl ?_
    refine sm_T_bin (w := 3 * a1_) rfl (bi_mul (by omega) (by omega) (by omega)) ?_ -- pc_ 16
    refine sm_T_go 1 (c1 := (18, [some (.inl a0_), some (.inl a1_), some (.inl a2_)], [.inl a2_, .inl (3 * a1_), .inr (.inr (some (300, 0)))], S0_)) rfl ?_
    refine sm_T_bin (w := 3 * a1_ + a2_) rfl (bi_add (by omega) (by omega) (by omega)) ?_ -- pc_ 18
    refine sm_T_nt (u := some (.inl (st_at 4 (3 * a1_ + a2_)))) (S1 := S0_) rfl rfl (nt_st (sc := sc_) (j := 4) (n := 24) (by decide) rfl rfl (by omega) (by omega)) ?_
    refine sm_T_ri rfl ⟨_, _, rfl, rfl, _, rfl, ?_⟩
    first | (have z9_ := pl2 (i_ := 3 * a1_ + a2_) (by omega); exact ⟨by omega, by unfold plo; rw [if_pos (by omega)]⟩) | (have z9_ := pl3 (i_ := 3 * a1_ + a2_ + 6) (by omega); exact ⟨by omega, by unfold plo; rw [if_neg (by omega)]⟩)
