/-! Chip.elements -/
def vw_56 : sx_Wl := ([], [], [])
def vq_56 (ii_ : Nat) (S0_ : sm_S) (u_ : Option sm_V) (S1_ : sm_S) : Prop := S0_ = S1_ ∧ ∃ v_ : Int, u_ = some (.inl v_) ∧ ((0 ≤ v_ ∧ v_ ≤ 156) ∧ (v_ = (S0_.1 2 ii_ 2) + (S0_.1 2 ii_ 8)))
set_option maxHeartbeats 400000 in
theorem vc_56 {sc_ : Nat × (Nat → Int)} (ii_ : Nat) (S0_ : sm_S) (hI_ : gi S0_)  : sm_T (mt_P sc_) 0 56 (0, [some (.inr (.inr (some (2, ii_))))], [], S0_) (fun ro9_ => ∃ u_ S1_, ro9_ = (.inl u_, S1_, 0) ∧ vq_56 ii_ S0_ u_ S1_) := by
  have hF_ : ai_fr (sx_W vw_56) S0_ S0_ := ai_fr_rf
  have bx1_ : 0 ≤ S0_.1 2 ii_ 2 ∧ S0_.1 2 ii_ 2 ≤ 6 := hI_.1 2 ii_ 2 rfl
  have bx2_ : 0 ≤ S0_.1 2 ii_ 8 ∧ S0_.1 2 ii_ 8 ≤ 150 := hI_.1 2 ii_ 8 rfl
  refine sm_T_go 4 (c1 := (8, [some (.inr (.inr (some (2, ii_))))], [.inl (S0_.1 2 ii_ 8), .inl (S0_.1 2 ii_ 2)], S0_)) rfl ?_
  refine sm_T_bin (w := (S0_.1 2 ii_ 2) + (S0_.1 2 ii_ 8)) rfl (bi_add (by omega) (by omega) (by omega)) ?_ -- pc_ 8
  refine sm_T_ri rfl ⟨_, _, rfl, rfl, _, rfl, ?_⟩
  first | (refine ⟨⟨?_, ?_⟩, rfl⟩ <;> omega) | omega | (refine ⟨by omega, ?_⟩; omega)
