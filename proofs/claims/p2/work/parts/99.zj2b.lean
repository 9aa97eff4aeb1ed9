/-! ChipFlow.tape -/
def vw_216 : sx_Wl := ([], [], [])
def vq_216  (S0_ : sm_S) (u_ : Option sm_V) (S1_ : sm_S) : Prop := ∃ v_ : Int, u_ = some (.inl v_) ∧ gi S1_ ∧ ai_fr (sx_W vw_216) S0_ S1_ ∧ (v_ = (S1_.1 10 0 1) ∧ S1_ = S0_)
set_option maxHeartbeats 400000 in
theorem vc_216 {sc_ : Nat × (Nat → Int)}  (S0_ : sm_S) (hI_ : gi S0_)  : sm_T (mt_P sc_) 0 216 (0, [some (.inr (.inr (some (12, 0))))], [], S0_) (fun ro9_ => ∃ u_ S1_, ro9_ = (.inl u_, S1_, 0) ∧ vq_216  S0_ u_ S1_) := by
  have hF_ : ai_fr (sx_W vw_216) S0_ S0_ := ai_fr_rf
  have bx1_ : 0 ≤ S0_.1 10 0 1 ∧ S0_.1 10 0 1 ≤ 1280 := hI_.1 10 0 1 rfl
  refine sm_T_go 3 (c1 := (7, [some (.inr (.inr (some (12, 0))))], [.inl (S0_.1 10 0 1)], S0_)) rfl ?_
  refine sm_T_ri rfl ⟨_, _, rfl, _, rfl, hI_, hF_, ?_⟩
  exact ⟨rfl, rfl⟩
