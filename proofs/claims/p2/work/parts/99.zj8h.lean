/-! Board.pinY -/
def vw_18 : sx_Wl := ([], [], [])
def vq_18 (a1_ : Int) (ii_ : Nat) (S0_ : sm_S) (u_ : Option sm_V) (S1_ : sm_S) : Prop := S0_ = S1_ ∧ ∃ v_ : Int, u_ = some (.inl v_) ∧ ((0 ≤ v_ ∧ v_ ≤ 37) ∧ v_ = ppy ii_ S0_ a1_)
set_option maxHeartbeats 400000 in
theorem vc_18 {sc_ : Nat × (Nat → Int)} (a1_ : Int) (ii_ : Nat) (S0_ : sm_S) (hI_ : gi S0_) (h1_ : 0 ≤ a1_ ∧ a1_ ≤ 651) : sm_T (mt_P sc_) 0 18 (0, [some (.inr (.inr (some (0, ii_)))), some (.inl a1_)], [], S0_) (fun ro9_ => ∃ u_ S1_, ro9_ = (.inl u_, S1_, 0) ∧ vq_18 a1_ ii_ S0_ u_ S1_) := by
  have hF_ : ai_fr (sx_W vw_18) S0_ S0_ := ai_fr_rf
  refine sm_T_go 2 (c1 := (4, [some (.inr (.inr (some (0, ii_)))), some (.inl a1_)], [.inl 624, .inl a1_], S0_)) rfl ?_
  refine sm_T_br (a := 3) (z := 16) rfl (fun cx1_ => ?_) (fun cx1_ => ?_)
  · have cx1_ : 624 ≤ a1_ := of_decide_eq_true cx1_
    refine sm_T_go 2 (c1 := (24, [some (.inr (.inr (some (0, ii_)))), some (.inl a1_)], [.inl 636, .inl a1_], S0_)) rfl ?_
    refine sm_T_br (a := 3) (z := 11) rfl (fun cx2_ => ?_) (fun cx2_ => ?_)
    · have cx2_ : 636 ≤ a1_ := of_decide_eq_true cx2_
      refine sm_T_go 2 (c1 := (39, [some (.inr (.inr (some (0, ii_)))), some (.inl a1_)], [.inl 636, .inl a1_], S0_)) rfl ?_
      refine sm_T_bin (w := a1_ - 636) rfl (bi_sub (by omega) (by omega) (by omega)) ?_ -- pc_ 39
      refine sm_T_ri rfl ⟨_, _, rfl, rfl, _, rfl, ?_⟩
      refine ⟨by omega, ?_⟩
      unfold ppy
      first | (rw [if_pos (by omega)] <;> omega) | (rw [if_neg (by omega), if_pos (by omega)] <;> omega) | (rw [if_neg (by omega), if_neg (by omega)] <;> omega)
    · have cx2_ : ¬ (636 ≤ a1_) := of_decide_eq_false cx2_
      refine sm_T_go 2 (c1 := (31, [some (.inr (.inr (some (0, ii_)))), some (.inl a1_)], [.inl 624, .inl a1_], S0_)) rfl ?_
      refine sm_T_bin (w := a1_ - 624) rfl (bi_sub (by omega) (by omega) (by omega)) ?_ -- pc_ 31
      refine sm_T_go 1 (c1 := (40, [some (.inr (.inr (some (0, ii_)))), some (.inl a1_)], [.inl (a1_ - 624)], S0_)) rfl ?_
      refine sm_T_ri rfl ⟨_, _, rfl, rfl, _, rfl, ?_⟩
      refine ⟨by omega, ?_⟩
      unfold ppy
      first | (rw [if_pos (by omega)] <;> omega) | (rw [if_neg (by omega), if_pos (by omega)] <;> omega) | (rw [if_neg (by omega), if_neg (by omega)] <;> omega)
  · have cx1_ : ¬ (624 ≤ a1_) := of_decide_eq_false cx1_
    refine sm_T_go 5 (c1 := (14, [some (.inr (.inr (some (0, ii_)))), some (.inl a1_)], [.inl 2, .inl a1_, .inr (.inr (some (15, (0 + ii_)))), .inl 3], S0_)) rfl ?_
    refine sm_T_bin (w := (a1_ / 4)) rfl (bi_shr (k := 2) (by decide) (by omega) (by omega)) ?_ -- pc_ 14
    refine sm_T_iald (n := 156) rfl rfl (by omega) (by omega) ?_
    have bx3_ : 0 ≤ S0_.2.2.1 15 (0 + ii_) (a1_ / 4).toNat ∧ S0_.2.2.1 15 (0 + ii_) (a1_ / 4).toNat ≤ 12 := hI_.2 15 (0 + ii_) _
    refine sm_T_bin (w := 3 * (S0_.2.2.1 15 (0 + ii_) (a1_ / 4).toNat)) rfl (bi_mul (by omega) (by omega) (by omega)) ?_ -- pc_ 16
    refine sm_T_go 1 (c1 := (18, [some (.inr (.inr (some (0, ii_)))), some (.inl a1_)], [.inl 1, .inl (3 * (S0_.2.2.1 15 (0 + ii_) (a1_ / 4).toNat))], S0_)) rfl ?_
    refine sm_T_bin (w := 3 * (S0_.2.2.1 15 (0 + ii_) (a1_ / 4).toNat) + 1) rfl (bi_add (by omega) (by omega) (by omega)) ?_ -- pc_ 18
    refine sm_T_ri rfl ⟨_, _, rfl, rfl, _, rfl, ?_⟩
    refine ⟨by omega, ?_⟩
    unfold ppy
    first | (rw [if_pos (by omega)] <;> omega) | (rw [if_neg (by omega), if_pos (by omega)] <;> omega) | (rw [if_neg (by omega), if_neg (by omega)] <;> omega)
