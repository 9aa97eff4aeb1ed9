/-! Board.loseWires -/
def vw_15 : sx_Wl := ([(0, 11), (4, 0)], [], [])
def vq_15 (ii_ : Nat) (S0_ : sm_S) (u_ : Option sm_V) (S1_ : sm_S) : Prop := u_ = none ∧ gi S1_ ∧ ai_fr (sx_W vw_15) S0_ S1_ ∧ (cdf ii_ S0_ S1_ ∧ ((S1_.1 0 ii_ 11 = 0 ∧ S1_.1 4 (0 + ii_) 0 = 0)))
set_option maxHeartbeats 400000 in
theorem vc_15 {sc_ : Nat × (Nat → Int)} (ii_ : Nat) (S0_ : sm_S) (hI_ : gi S0_)  : sm_T (mt_P sc_) 0 15 (0, [some (.inr (.inr (some (0, ii_))))], [], S0_) (fun ro9_ => ∃ u_ S1_, ro9_ = (.inl u_, S1_, 0) ∧ vq_15 ii_ S0_ u_ S1_) := by
  have hF_ : ai_fr (sx_W vw_15) S0_ S0_ := ai_fr_rf
  have hC_ : cdf ii_ S0_ S0_ := cdf_rf
  have hIx1_ : gi (sm_pI S0_ 0 ii_ 11 0) := gi_pI hI_ (show 0 ≤ 0 ∧ 0 ≤ 1 from ⟨by omega, by omega⟩)
  have hFx2_ : ai_fr (sx_W vw_15) S0_ (sm_pI S0_ 0 ii_ 11 0) := ai_fr_tr hF_ (ai_fr_pI rfl)
  have hCx3_ : cdf ii_ S0_ (sm_pI S0_ 0 ii_ 11 0) := cdf_pI hC_ (Or.inr (by rw [show cof 0 = 0 from rfl] <;> omega))
  have hIx4_ : gi (sm_pI (sm_pI S0_ 0 ii_ 11 0) 4 (0 + ii_) 0 0) := gi_pI hIx1_ (show 0 ≤ 0 ∧ 0 ≤ 1 from ⟨by omega, by omega⟩)
  have hFx5_ : ai_fr (sx_W vw_15) S0_ (sm_pI (sm_pI S0_ 0 ii_ 11 0) 4 (0 + ii_) 0 0) := ai_fr_tr hFx2_ (ai_fr_pI rfl)
  have hCx6_ : cdf ii_ S0_ (sm_pI (sm_pI S0_ 0 ii_ 11 0) 4 (0 + ii_) 0 0) := cdf_pI hCx3_ (Or.inr (by rw [show cof 4 = 0 from rfl] <;> omega))
  refine sm_T_go 7 (c1 := (13, [some (.inr (.inr (some (0, ii_))))], [], sm_pI (sm_pI S0_ 0 ii_ 11 0) 4 (0 + ii_) 0 0)) rfl ?_
  refine sm_T_rv rfl ⟨_, _, rfl, rfl, hIx4_, hFx5_, ?_⟩
  refine ⟨hCx6_, ?_⟩
  constructor
  · rw [rf_nt (by decide), rf_eq]
  · rw [rf_eq]
