/-! ChipFlow.needRoom -/
def vw_268e : sx_Wl := ([], [], [])
def vq_268e (k_ : Int) (S0_ : sm_S) (u_ : Option sm_V) (S1_ : sm_S) : Prop := u_ = none ∧ gi S1_ ∧ ai_fr (sx_W vw_268e) S0_ S1_ ∧ (k_ ≠ 0 ∧ S0_ = S1_)
def vx_268e (k_ : Int) (S0_ : sm_S) (S1_ : sm_S) : Prop := gi S1_ ∧ ai_fr (sx_W vw_268e) S0_ S1_ ∧ (k_ = 0 ∧ S1_ = S0_)
set_option maxHeartbeats 400000 in
theorem vc_268e {sc_ : Nat × (Nat → Int)} (k_ : Int) (S0_ : sm_S) (hI_ : gi S0_)  : sm_T (mt_P sc_) 0 268 (0, [some (.inl k_)], [], S0_) (fun ro9_ => (∃ u_ S1_, ro9_ = (.inl u_, S1_, 0) ∧ vq_268e k_ S0_ u_ S1_) ∨ ∃ ex_ S1_, ro9_ = (.inr ex_, S1_, 1) ∧ ex_ ∈ ([3] : List Nat) ∧ vx_268e k_ S0_ S1_) := by
  have hF_ : ai_fr (sx_W vw_268e) S0_ S0_ := ai_fr_rf
  refine sm_T_go 1 (c1 := (1, [some (.inl k_)], [.inl k_], S0_)) rfl ?_
  refine sm_T_b0 (a := 1) (z := 11) rfl (fun cx1_ => ?_) (fun cx1_ => ?_)
  · have cx1_ : k_ ≠ 0 := of_decide_eq_true cx1_
    refine sm_T_rv rfl (Or.inl ⟨_, _, rfl, rfl, hI_, hF_, ?_⟩)
    exact ⟨by omega, rfl⟩
  · have cx1_ : ¬ (k_ ≠ 0) := of_decide_eq_false cx1_
    refine sm_T_th rfl rfl (Or.inr ⟨_, _, rfl, by decide, hI_, hF_, ?_⟩)
    exact ⟨by omega, rfl⟩
