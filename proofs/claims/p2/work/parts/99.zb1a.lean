/-! the class: AND; written by wip/p55/gen/vg -/
/-! Design.firstAnd -/
def vw_63 : sx_Wl := ([], [], [])
def vq_63 (dd_ : Nat) (S0_ : sm_S) (u_ : Option sm_V) (S1_ : sm_S) : Prop := S0_ = S1_ ∧ ∃ v_ : Int, u_ = some (.inl v_) ∧ (v_ = 1 + S0_.1 3 dd_ 1 + S0_.1 3 dd_ 2)
set_option maxHeartbeats 400000 in
theorem vc_63 {sc_ : Nat × (Nat → Int)} (dd_ : Nat) (S0_ : sm_S) (hI_ : gi S0_) (hx_ : 0 ≤ S0_.1 3 dd_ 1 + S0_.1 3 dd_ 2) : sm_T (mt_P sc_) 0 63 (0, [some (.inr (.inr (some (3, dd_))))], [], S0_) (fun ro9_ => ∃ u_ S1_, ro9_ = (.inl u_, S1_, 0) ∧ vq_63 dd_ S0_ u_ S1_) := by
  have hF_ : ai_fr (sx_W vw_63) S0_ S0_ := ai_fr_rf
  have bx1_ : 0 ≤ S0_.1 3 dd_ 1 ∧ S0_.1 3 dd_ 1 ≤ 320 := hI_.1 3 dd_ 1 rfl
  refine sm_T_go 3 (c1 := (5, [some (.inr (.inr (some (3, dd_))))], [.inl (S0_.1 3 dd_ 1), .inl 1], S0_)) rfl ?_
  refine sm_T_bin (w := (S0_.1 3 dd_ 1) + 1) rfl (bi_add (by omega) (by omega) (by omega)) ?_
  have bx2_ : 0 ≤ S0_.1 3 dd_ 2 ∧ S0_.1 3 dd_ 2 ≤ 100000 := hI_.1 3 dd_ 2 rfl
  refine sm_T_go 2 (c1 := (10, [some (.inr (.inr (some (3, dd_))))], [.inl (S0_.1 3 dd_ 2), .inl ((S0_.1 3 dd_ 1) + 1)], S0_)) rfl ?_
  refine sm_T_bin (w := (S0_.1 3 dd_ 1) + (S0_.1 3 dd_ 2) + 1) rfl (bi_add (by omega) (by omega) (by omega)) ?_
  refine sm_T_ri rfl ⟨_, _, rfl, rfl, _, rfl, ?_⟩
  omega
