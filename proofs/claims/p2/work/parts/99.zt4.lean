/-! the reference: why end is refused; what was thrown -/
def vq_thw (S0_ : sm_S) (u_ : Option sm_V) (S1_ : sm_S) : Prop := S0_ = S1_ ∧ u_ = some (.inl (S0_.1 13 0 0))
theorem vc_thw {sc_ : Nat × (Nat → Int)} (S0_ : sm_S) : sm_T (mt_P sc_) 0 587 (0, [some (.inr (.inr (some (13, 0))))], [], S0_) (fun r_ => ∃ u_ S1_, r_ = (.inl u_, S1_, 0) ∧ vq_thw S0_ u_ S1_) := by
  refine sm_T_go 2 (c1 := (4, [some (.inr (.inr (some (13, 0))))], [.inl (S0_.1 13 0 0)], S0_)) rfl ?_
  exact sm_T_ri rfl ⟨_, _, rfl, rfl, rfl⟩
