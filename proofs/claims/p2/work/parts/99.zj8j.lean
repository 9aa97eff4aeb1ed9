/-! Board.points -/
def vw_16 : sx_Wl := ([], [], [])
def vq_16 (ii_ : Nat) (S0_ : sm_S) (u_ : Option sm_V) (S1_ : sm_S) : Prop := S0_ = S1_ ∧ ∃ v_ : Int, u_ = some (.inl v_) ∧ ((0 ≤ v_ ∧ v_ ≤ 4712) ∧ (v_ = ((2 * (S0_.1 0 ii_ 2)) * ((S0_.1 0 ii_ 0) + 2))))
set_option maxHeartbeats 400000 in
theorem vc_16 {sc_ : Nat × (Nat → Int)} (ii_ : Nat) (S0_ : sm_S) (hI_ : gi S0_)  : sm_T (mt_P sc_) 0 16 (0, [some (.inr (.inr (some (0, ii_))))], [], S0_) (fun ro9_ => ∃ u_ S1_, ro9_ = (.inl u_, S1_, 0) ∧ vq_16 ii_ S0_ u_ S1_) := by
  have hF_ : ai_fr (sx_W vw_16) S0_ S0_ := ai_fr_rf
  have bx1_ : 0 ≤ S0_.1 0 ii_ 2 ∧ S0_.1 0 ii_ 2 ≤ 38 := hI_.1 0 ii_ 2 rfl
  refine sm_T_go 3 (c1 := (5, [some (.inr (.inr (some (0, ii_))))], [.inl (S0_.1 0 ii_ 2), .inl 2], S0_)) rfl ?_
  refine sm_T_bin (w := 2 * (S0_.1 0 ii_ 2)) rfl (bi_mul (by omega) (by omega) (by omega)) ?_ -- pc_ 5
  have bx2_ : 0 ≤ S0_.1 0 ii_ 0 ∧ S0_.1 0 ii_ 0 ≤ 60 := hI_.1 0 ii_ 0 rfl
  refine sm_T_go 3 (c1 := (11, [some (.inr (.inr (some (0, ii_))))], [.inl 2, .inl (S0_.1 0 ii_ 0), .inl (2 * (S0_.1 0 ii_ 2))], S0_)) rfl ?_
  refine sm_T_bin (w := (S0_.1 0 ii_ 0) + 2) rfl (bi_add (by omega) (by omega) (by omega)) ?_ -- pc_ 11
  have bx3_ := mul_b (x_ := (2 * (S0_.1 0 ii_ 2))) (y_ := ((S0_.1 0 ii_ 0) + 2)) (X_ := 76) (Y_ := 62) (Z_ := 4712) (by omega) (by omega) (by decide)
  refine sm_T_bin (w := ((2 * (S0_.1 0 ii_ 2)) * ((S0_.1 0 ii_ 0) + 2))) rfl (bi_mul rfl (by omega) (by omega)) ?_ -- pc_ 12
  refine sm_T_ri rfl ⟨_, _, rfl, rfl, _, rfl, ?_⟩
  first | (refine ⟨⟨?_, ?_⟩, rfl⟩ <;> omega) | omega | (refine ⟨by omega, ?_⟩; omega)
