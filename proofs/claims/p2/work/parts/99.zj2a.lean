/-! the face of the class: small calls; written by wip/p55/gen/vg -/
/-! ChipFlow.fault -/
def vw_215 : sx_Wl := ([], [], [])
def vq_215  (S0_ : sm_S) (u_ : Option sm_V) (S1_ : sm_S) : Prop := ∃ v_ : Int, u_ = some (.inl v_) ∧ gi S1_ ∧ ai_fr (sx_W vw_215) S0_ S1_ ∧ (True)
set_option maxHeartbeats 400000 in
theorem vc_215 {sc_ : Nat × (Nat → Int)}  (S0_ : sm_S) (hI_ : gi S0_)  : sm_T (mt_P sc_) 0 215 (0, [some (.inr (.inr (some (12, 0))))], [], S0_) (fun ro9_ => ∃ u_ S1_, ro9_ = (.inl u_, S1_, 0) ∧ vq_215  S0_ u_ S1_) := by
  have hF_ : ai_fr (sx_W vw_215) S0_ S0_ := ai_fr_rf
  have bx1_ : 0 ≤ S0_.1 12 0 10 ∧ S0_.1 12 0 10 ≤ 23 := hI_.1 12 0 10 rfl
  refine sm_T_go 2 (c1 := (4, [some (.inr (.inr (some (12, 0))))], [.inl (S0_.1 12 0 10)], S0_)) rfl ?_
  refine sm_T_ri rfl ⟨_, _, rfl, _, rfl, hI_, hF_, ?_⟩
  trivial
