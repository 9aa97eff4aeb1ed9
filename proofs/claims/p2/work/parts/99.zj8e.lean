/-! Chip.gateInputs -/
def vw_59 : sx_Wl := ([], [], [])
def vq_59 (a1_ : Int) (ii_ : Nat) (S0_ : sm_S) (u_ : Option sm_V) (S1_ : sm_S) : Prop := S0_ = S1_ ∧ ∃ v_ : Int, u_ = some (.inl v_) ∧ ((0 ≤ v_ ∧ v_ ≤ 3) ∧ (v_ = (S0_.2.2.1 55 (0 + (3 + ii_)) (S0_.2.2.1 35 (0 + ii_) a1_.toNat).toNat)))
set_option maxHeartbeats 400000 in
theorem vc_59 {sc_ : Nat × (Nat → Int)} (a1_ : Int) (ii_ : Nat) (S0_ : sm_S) (hI_ : gi S0_) (ha1_ : 0 ≤ a1_ ∧ a1_ ≤ 149) : sm_T (mt_P sc_) 0 59 (0, [some (.inr (.inr (some (2, ii_)))), some (.inl a1_)], [], S0_) (fun ro9_ => ∃ u_ S1_, ro9_ = (.inl u_, S1_, 0) ∧ vq_59 a1_ ii_ S0_ u_ S1_) := by
  have hF_ : ai_fr (sx_W vw_59) S0_ S0_ := ai_fr_rf
  refine sm_T_go 6 (c1 := (12, [some (.inr (.inr (some (2, ii_)))), some (.inl a1_)], [.inl a1_, .inr (.inr (some (35, (0 + ii_)))), .inr (.inr (some (55, (0 + (3 + ii_)))))], S0_)) rfl ?_
  refine sm_T_iald (n := 150) rfl rfl (by omega) (by omega) ?_
  have bx1_ : 0 ≤ S0_.2.2.1 35 (0 + ii_) a1_.toNat ∧ S0_.2.2.1 35 (0 + ii_) a1_.toNat ≤ 11 := hI_.2 35 (0 + ii_) _
  refine sm_T_iald (n := 12) rfl rfl (by omega) (by omega) ?_
  have bx2_ : 0 ≤ S0_.2.2.1 55 (0 + (3 + ii_)) (S0_.2.2.1 35 (0 + ii_) a1_.toNat).toNat ∧ S0_.2.2.1 55 (0 + (3 + ii_)) (S0_.2.2.1 35 (0 + ii_) a1_.toNat).toNat ≤ 3 := hI_.2 55 (0 + (3 + ii_)) _
  refine sm_T_ri rfl ⟨_, _, rfl, rfl, _, rfl, ?_⟩
  first | (refine ⟨⟨?_, ?_⟩, rfl⟩ <;> omega) | omega | (refine ⟨by omega, ?_⟩; omega)
