/-! Layout.setBox -/
def vw_69 : sx_Wl := ([], [48], [])
def vq_69 (a1_ : Int) (a2_ : Int) (a3_ : Int) (a4_ : Int) (a5_ : Int) (a6_ : Int) (ii_ : Nat) (S0_ : sm_S) (u_ : Option sm_V) (S1_ : sm_S) : Prop := u_ = none ∧ gi S1_ ∧ ai_fr (sx_W vw_69) S0_ S1_ ∧ (cdf ii_ S0_ S1_ ∧ (True))
set_option maxHeartbeats 400000 in
theorem vc_69 {sc_ : Nat × (Nat → Int)} (a1_ : Int) (a2_ : Int) (a3_ : Int) (a4_ : Int) (a5_ : Int) (a6_ : Int) (ii_ : Nat) (S0_ : sm_S) (hI_ : gi S0_) (h1_ : 0 ≤ a1_ ∧ a1_ ≤ 1999) (h2_ : 0 ≤ a2_ ∧ a2_ ≤ 2) (h3_ : (-1000) ≤ a3_ ∧ a3_ ≤ 1000) (h4_ : (-1000) ≤ a4_ ∧ a4_ ≤ 1000) (h5_ : (-1000) ≤ a5_ ∧ a5_ ≤ 1000) (h6_ : (-1000) ≤ a6_ ∧ a6_ ≤ 1000) : sm_T (mt_P sc_) 0 69 (0, [some (.inr (.inr (some (4, ii_)))), some (.inl a1_), some (.inl a2_), some (.inl a3_), some (.inl a4_), some (.inl a5_), some (.inl a6_), none], [], S0_) (fun ro9_ => ∃ u_ S1_, ro9_ = (.inl u_, S1_, 0) ∧ vq_69 a1_ a2_ a3_ a4_ a5_ a6_ ii_ S0_ u_ S1_) := by
  have hF_ : ai_fr (sx_W vw_69) S0_ S0_ := ai_fr_rf
  have hC_ : cdf ii_ S0_ S0_ := cdf_rf
  refine sm_T_go 2 (c1 := (2, [some (.inr (.inr (some (4, ii_)))), some (.inl a1_), some (.inl a2_), some (.inl a3_), some (.inl a4_), some (.inl a5_), some (.inl a6_), none], [.inl a1_, .inl 5], S0_)) rfl ?_
  refine sm_T_bin (w := 5 * a1_) rfl (bi_mul (by omega) (by omega) (by omega)) ?_ -- pc_ 2
  refine sm_T_go 5 (c1 := (12, [some (.inr (.inr (some (4, ii_)))), some (.inl a1_), some (.inl a2_), some (.inl a3_), some (.inl a4_), some (.inl a5_), some (.inl a6_), some (.inl (5 * a1_))], [.inl a2_, .inl (5 * a1_), .inr (.inr (some (48, (0 + ii_))))], S0_)) rfl ?_
  refine sm_T_iast (n := 10000) rfl rfl (by omega) (by omega) ?_
  have hIx1_ : gi (sm_aI S0_ 48 (0 + ii_) (5 * a1_).toNat a2_) := gi_aI hI_ (show (-1000) ≤ a2_ ∧ a2_ ≤ 1000 from ⟨by omega, by omega⟩)
  have hFx2_ : ai_fr (sx_W vw_69) S0_ (sm_aI S0_ 48 (0 + ii_) (5 * a1_).toNat a2_) := ai_fr_tr hF_ (ai_fr_aI rfl)
  have hCx3_ : cdf ii_ S0_ (sm_aI S0_ 48 (0 + ii_) (5 * a1_).toNat a2_) := cdf_aI hC_ (Or.inr (by rw [show cof 48 = 0 from rfl] <;> omega))
  refine sm_T_go 4 (c1 := (20, [some (.inr (.inr (some (4, ii_)))), some (.inl a1_), some (.inl a2_), some (.inl a3_), some (.inl a4_), some (.inl a5_), some (.inl a6_), some (.inl (5 * a1_))], [.inl 1, .inl (5 * a1_), .inr (.inr (some (48, (0 + ii_))))], sm_aI S0_ 48 (0 + ii_) (5 * a1_).toNat a2_)) rfl ?_
  refine sm_T_bin (w := 5 * a1_ + 1) rfl (bi_add (by omega) (by omega) (by omega)) ?_ -- pc_ 20
  refine sm_T_go 1 (c1 := (22, [some (.inr (.inr (some (4, ii_)))), some (.inl a1_), some (.inl a2_), some (.inl a3_), some (.inl a4_), some (.inl a5_), some (.inl a6_), some (.inl (5 * a1_))], [.inl a3_, .inl (5 * a1_ + 1), .inr (.inr (some (48, (0 + ii_))))], sm_aI S0_ 48 (0 + ii_) (5 * a1_).toNat a2_)) rfl ?_
  refine sm_T_iast (n := 10000) rfl rfl (by omega) (by omega) ?_
  have hIx4_ : gi (sm_aI (sm_aI S0_ 48 (0 + ii_) (5 * a1_).toNat a2_) 48 (0 + ii_) (5 * a1_ + 1).toNat a3_) := gi_aI hIx1_ (show (-1000) ≤ a3_ ∧ a3_ ≤ 1000 from ⟨by omega, by omega⟩)
  have hFx5_ : ai_fr (sx_W vw_69) S0_ (sm_aI (sm_aI S0_ 48 (0 + ii_) (5 * a1_).toNat a2_) 48 (0 + ii_) (5 * a1_ + 1).toNat a3_) := ai_fr_tr hFx2_ (ai_fr_aI rfl)
  have hCx6_ : cdf ii_ S0_ (sm_aI (sm_aI S0_ 48 (0 + ii_) (5 * a1_).toNat a2_) 48 (0 + ii_) (5 * a1_ + 1).toNat a3_) := cdf_aI hCx3_ (Or.inr (by rw [show cof 48 = 0 from rfl] <;> omega))
  refine sm_T_go 4 (c1 := (30, [some (.inr (.inr (some (4, ii_)))), some (.inl a1_), some (.inl a2_), some (.inl a3_), some (.inl a4_), some (.inl a5_), some (.inl a6_), some (.inl (5 * a1_))], [.inl 2, .inl (5 * a1_), .inr (.inr (some (48, (0 + ii_))))], sm_aI (sm_aI S0_ 48 (0 + ii_) (5 * a1_).toNat a2_) 48 (0 + ii_) (5 * a1_ + 1).toNat a3_)) rfl ?_
  refine sm_T_bin (w := 5 * a1_ + 2) rfl (bi_add (by omega) (by omega) (by omega)) ?_ -- pc_ 30
  refine sm_T_go 1 (c1 := (33, [some (.inr (.inr (some (4, ii_)))), some (.inl a1_), some (.inl a2_), some (.inl a3_), some (.inl a4_), some (.inl a5_), some (.inl a6_), some (.inl (5 * a1_))], [.inl a4_, .inl (5 * a1_ + 2), .inr (.inr (some (48, (0 + ii_))))], sm_aI (sm_aI S0_ 48 (0 + ii_) (5 * a1_).toNat a2_) 48 (0 + ii_) (5 * a1_ + 1).toNat a3_)) rfl ?_
  refine sm_T_iast (n := 10000) rfl rfl (by omega) (by omega) ?_
  have hIx7_ : gi (sm_aI (sm_aI (sm_aI S0_ 48 (0 + ii_) (5 * a1_).toNat a2_) 48 (0 + ii_) (5 * a1_ + 1).toNat a3_) 48 (0 + ii_) (5 * a1_ + 2).toNat a4_) := gi_aI hIx4_ (show (-1000) ≤ a4_ ∧ a4_ ≤ 1000 from ⟨by omega, by omega⟩)
  have hFx8_ : ai_fr (sx_W vw_69) S0_ (sm_aI (sm_aI (sm_aI S0_ 48 (0 + ii_) (5 * a1_).toNat a2_) 48 (0 + ii_) (5 * a1_ + 1).toNat a3_) 48 (0 + ii_) (5 * a1_ + 2).toNat a4_) := ai_fr_tr hFx5_ (ai_fr_aI rfl)
  have hCx9_ : cdf ii_ S0_ (sm_aI (sm_aI (sm_aI S0_ 48 (0 + ii_) (5 * a1_).toNat a2_) 48 (0 + ii_) (5 * a1_ + 1).toNat a3_) 48 (0 + ii_) (5 * a1_ + 2).toNat a4_) := cdf_aI hCx6_ (Or.inr (by rw [show cof 48 = 0 from rfl] <;> omega))
  refine sm_T_go 4 (c1 := (41, [some (.inr (.inr (some (4, ii_)))), some (.inl a1_), some (.inl a2_), some (.inl a3_), some (.inl a4_), some (.inl a5_), some (.inl a6_), some (.inl (5 * a1_))], [.inl 3, .inl (5 * a1_), .inr (.inr (some (48, (0 + ii_))))], sm_aI (sm_aI (sm_aI S0_ 48 (0 + ii_) (5 * a1_).toNat a2_) 48 (0 + ii_) (5 * a1_ + 1).toNat a3_) 48 (0 + ii_) (5 * a1_ + 2).toNat a4_)) rfl ?_
  refine sm_T_bin (w := 5 * a1_ + 3) rfl (bi_add (by omega) (by omega) (by omega)) ?_ -- pc_ 41
  refine sm_T_go 1 (c1 := (44, [some (.inr (.inr (some (4, ii_)))), some (.inl a1_), some (.inl a2_), some (.inl a3_), some (.inl a4_), some (.inl a5_), some (.inl a6_), some (.inl (5 * a1_))], [.inl a5_, .inl (5 * a1_ + 3), .inr (.inr (some (48, (0 + ii_))))], sm_aI (sm_aI (sm_aI S0_ 48 (0 + ii_) (5 * a1_).toNat a2_) 48 (0 + ii_) (5 * a1_ + 1).toNat a3_) 48 (0 + ii_) (5 * a1_ + 2).toNat a4_)) rfl ?_
  refine sm_T_iast (n := 10000) rfl rfl (by omega) (by omega) ?_
  have hIx10_ : gi (sm_aI (sm_aI (sm_aI (sm_aI S0_ 48 (0 + ii_) (5 * a1_).toNat a2_) 48 (0 + ii_) (5 * a1_ + 1).toNat a3_) 48 (0 + ii_) (5 * a1_ + 2).toNat a4_) 48 (0 + ii_) (5 * a1_ + 3).toNat a5_) := gi_aI hIx7_ (show (-1000) ≤ a5_ ∧ a5_ ≤ 1000 from ⟨by omega, by omega⟩)
  have hFx11_ : ai_fr (sx_W vw_69) S0_ (sm_aI (sm_aI (sm_aI (sm_aI S0_ 48 (0 + ii_) (5 * a1_).toNat a2_) 48 (0 + ii_) (5 * a1_ + 1).toNat a3_) 48 (0 + ii_) (5 * a1_ + 2).toNat a4_) 48 (0 + ii_) (5 * a1_ + 3).toNat a5_) := ai_fr_tr hFx8_ (ai_fr_aI rfl)
  have hCx12_ : cdf ii_ S0_ (sm_aI (sm_aI (sm_aI (sm_aI S0_ 48 (0 + ii_) (5 * a1_).toNat a2_) 48 (0 + ii_) (5 * a1_ + 1).toNat a3_) 48 (0 + ii_) (5 * a1_ + 2).toNat a4_) 48 (0 + ii_) (5 * a1_ + 3).toNat a5_) := cdf_aI hCx9_ (Or.inr (by rw [show cof 48 = 0 from rfl] <;> omega))
  refine sm_T_go 4 (c1 := (52, [some (.inr (.inr (some (4, ii_)))), some (.inl a1_), some (.inl a2_), some (.inl a3_), some (.inl a4_), some (.inl a5_), some (.inl a6_), some (.inl (5 * a1_))], [.inl 4, .inl (5 * a1_), .inr (.inr (some (48, (0 + ii_))))], sm_aI (sm_aI (sm_aI (sm_aI S0_ 48 (0 + ii_) (5 * a1_).toNat a2_) 48 (0 + ii_) (5 * a1_ + 1).toNat a3_) 48 (0 + ii_) (5 * a1_ + 2).toNat a4_) 48 (0 + ii_) (5 * a1_ + 3).toNat a5_)) rfl ?_
  refine sm_T_bin (w := 5 * a1_ + 4) rfl (bi_add (by omega) (by omega) (by omega)) ?_ -- pc_ 52
  refine sm_T_go 1 (c1 := (55, [some (.inr (.inr (some (4, ii_)))), some (.inl a1_), some (.inl a2_), some (.inl a3_), some (.inl a4_), some (.inl a5_), some (.inl a6_), some (.inl (5 * a1_))], [.inl a6_, .inl (5 * a1_ + 4), .inr (.inr (some (48, (0 + ii_))))], sm_aI (sm_aI (sm_aI (sm_aI S0_ 48 (0 + ii_) (5 * a1_).toNat a2_) 48 (0 + ii_) (5 * a1_ + 1).toNat a3_) 48 (0 + ii_) (5 * a1_ + 2).toNat a4_) 48 (0 + ii_) (5 * a1_ + 3).toNat a5_)) rfl ?_
  refine sm_T_iast (n := 10000) rfl rfl (by omega) (by omega) ?_
  have hIx13_ : gi (sm_aI (sm_aI (sm_aI (sm_aI (sm_aI S0_ 48 (0 + ii_) (5 * a1_).toNat a2_) 48 (0 + ii_) (5 * a1_ + 1).toNat a3_) 48 (0 + ii_) (5 * a1_ + 2).toNat a4_) 48 (0 + ii_) (5 * a1_ + 3).toNat a5_) 48 (0 + ii_) (5 * a1_ + 4).toNat a6_) := gi_aI hIx10_ (show (-1000) ≤ a6_ ∧ a6_ ≤ 1000 from ⟨by omega, by omega⟩)
  have hFx14_ : ai_fr (sx_W vw_69) S0_ (sm_aI (sm_aI (sm_aI (sm_aI (sm_aI S0_ 48 (0 + ii_) (5 * a1_).toNat a2_) 48 (0 + ii_) (5 * a1_ + 1).toNat a3_) 48 (0 + ii_) (5 * a1_ + 2).toNat a4_) 48 (0 + ii_) (5 * a1_ + 3).toNat a5_) 48 (0 + ii_) (5 * a1_ + 4).toNat a6_) := ai_fr_tr hFx11_ (ai_fr_aI rfl)
  have hCx15_ : cdf ii_ S0_ (sm_aI (sm_aI (sm_aI (sm_aI (sm_aI S0_ 48 (0 + ii_) (5 * a1_).toNat a2_) 48 (0 + ii_) (5 * a1_ + 1).toNat a3_) 48 (0 + ii_) (5 * a1_ + 2).toNat a4_) 48 (0 + ii_) (5 * a1_ + 3).toNat a5_) 48 (0 + ii_) (5 * a1_ + 4).toNat a6_) := cdf_aI hCx12_ (Or.inr (by rw [show cof 48 = 0 from rfl] <;> omega))
  refine sm_T_rv rfl ⟨_, _, rfl, rfl, hIx13_, hFx14_, ?_⟩
  refine ⟨hCx15_, ?_⟩
  trivial
