/-! Chip.ends -/
def vw_57 : sx_Wl := ([], [], [])
def vq_57 (ii_ : Nat) (S0_ : sm_S) (u_ : Option sm_V) (S1_ : sm_S) : Prop := S0_ = S1_ ∧ ∃ v_ : Int, u_ = some (.inl v_) ∧ ((0 ≤ v_ ∧ v_ ≤ 22) ∧ (v_ = (S0_.1 2 ii_ 3) + (S0_.1 2 ii_ 2)))
set_option maxHeartbeats 400000 in
theorem vc_57 {sc_ : Nat × (Nat → Int)} (ii_ : Nat) (S0_ : sm_S) (hI_ : gi S0_)  : sm_T (mt_P sc_) 0 57 (0, [some (.inr (.inr (some (2, ii_))))], [], S0_) (fun ro9_ => ∃ u_ S1_, ro9_ = (.inl u_, S1_, 0) ∧ vq_57 ii_ S0_ u_ S1_) := by
  have hF_ : ai_fr (sx_W vw_57) S0_ S0_ := ai_fr_rf
  have bx1_ : 0 ≤ S0_.1 2 ii_ 3 ∧ S0_.1 2 ii_ 3 ≤ 16 := hI_.1 2 ii_ 3 rfl
  have bx2_ : 0 ≤ S0_.1 2 ii_ 2 ∧ S0_.1 2 ii_ 2 ≤ 6 := hI_.1 2 ii_ 2 rfl
  refine sm_T_go 4 (c1 := (8, [some (.inr (.inr (some (2, ii_))))], [.inl (S0_.1 2 ii_ 2), .inl (S0_.1 2 ii_ 3)], S0_)) rfl ?_
  refine sm_T_bin (w := (S0_.1 2 ii_ 3) + (S0_.1 2 ii_ 2)) rfl (bi_add (by omega) (by omega) (by omega)) ?_ -- pc_ 8
  refine sm_T_ri rfl ⟨_, _, rfl, rfl, _, rfl, ?_⟩
  first | (refine ⟨⟨?_, ?_⟩, rfl⟩ <;> omega) | omega | (refine ⟨by omega, ?_⟩; omega)
