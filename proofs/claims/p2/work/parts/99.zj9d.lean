/-! Board.exchange -/
def vw_29 : sx_Wl := ([], [14, 15], [])
def vq_29 (a1_ : Int) (a2_ : Int) (ii_ : Nat) (S0_ : sm_S) (u_ : Option sm_V) (S1_ : sm_S) : Prop := u_ = none ∧ gi S1_ ∧ ai_fr (sx_W vw_29) S0_ S1_ ∧ (cdf ii_ S0_ S1_ ∧ ((xch ii_ a1_.toNat a2_.toNat S0_ S1_)))
set_option maxHeartbeats 400000 in
theorem vc_29 {sc_ : Nat × (Nat → Int)} (a1_ : Int) (a2_ : Int) (ii_ : Nat) (S0_ : sm_S) (hI_ : gi S0_) (ha1_ : 0 ≤ a1_ ∧ a1_ ≤ 155) (ha2_ : 0 ≤ a2_ ∧ a2_ ≤ 155) : sm_T (mt_P sc_) 0 29 (0, [some (.inr (.inr (some (0, ii_)))), some (.inl a1_), some (.inl a2_), none, none], [], S0_) (fun ro9_ => ∃ u_ S1_, ro9_ = (.inl u_, S1_, 0) ∧ vq_29 a1_ a2_ ii_ S0_ u_ S1_) := by
  have hF_ : ai_fr (sx_W vw_29) S0_ S0_ := ai_fr_rf
  have hC_ : cdf ii_ S0_ S0_ := cdf_rf
  refine sm_T_go 3 (c1 := (5, [some (.inr (.inr (some (0, ii_)))), some (.inl a1_), some (.inl a2_), none, none], [.inl a1_, .inr (.inr (some (14, (0 + ii_))))], S0_)) rfl ?_
  refine sm_T_iald (n := 156) rfl rfl (by omega) (by omega) ?_
  have bx1_ : 0 ≤ S0_.2.2.1 14 (0 + ii_) a1_.toNat ∧ S0_.2.2.1 14 (0 + ii_) a1_.toNat ≤ 60 := hI_.2 14 (0 + ii_) _
  refine sm_T_go 7 (c1 := (17, [some (.inr (.inr (some (0, ii_)))), some (.inl a1_), some (.inl a2_), some (.inl (S0_.2.2.1 14 (0 + ii_) a1_.toNat)), none], [.inl a2_, .inr (.inr (some (14, (0 + ii_)))), .inl a1_, .inr (.inr (some (14, (0 + ii_))))], S0_)) rfl ?_
  refine sm_T_iald (n := 156) rfl rfl (by omega) (by omega) ?_
  have bx2_ : 0 ≤ S0_.2.2.1 14 (0 + ii_) a2_.toNat ∧ S0_.2.2.1 14 (0 + ii_) a2_.toNat ≤ 60 := hI_.2 14 (0 + ii_) _
  refine sm_T_iast (n := 156) rfl rfl (by omega) (by omega) ?_
  have hIx3_ : gi (sm_aI S0_ 14 (0 + ii_) a1_.toNat (S0_.2.2.1 14 (0 + ii_) a2_.toNat)) := gi_aI hI_ (show 0 ≤ (S0_.2.2.1 14 (0 + ii_) a2_.toNat) ∧ (S0_.2.2.1 14 (0 + ii_) a2_.toNat) ≤ 60 from ⟨by omega, by omega⟩)
  have hFx4_ : ai_fr (sx_W vw_29) S0_ (sm_aI S0_ 14 (0 + ii_) a1_.toNat (S0_.2.2.1 14 (0 + ii_) a2_.toNat)) := ai_fr_tr hF_ (ai_fr_aI rfl)
  have hCx5_ : cdf ii_ S0_ (sm_aI S0_ 14 (0 + ii_) a1_.toNat (S0_.2.2.1 14 (0 + ii_) a2_.toNat)) := cdf_aI hC_ (Or.inr (by rw [show cof 14 = 0 from rfl] <;> omega))
  refine sm_T_go 4 (c1 := (25, [some (.inr (.inr (some (0, ii_)))), some (.inl a1_), some (.inl a2_), some (.inl (S0_.2.2.1 14 (0 + ii_) a1_.toNat)), none], [.inl (S0_.2.2.1 14 (0 + ii_) a1_.toNat), .inl a2_, .inr (.inr (some (14, (0 + ii_))))], sm_aI S0_ 14 (0 + ii_) a1_.toNat (S0_.2.2.1 14 (0 + ii_) a2_.toNat))) rfl ?_
  refine sm_T_iast (n := 156) rfl rfl (by omega) (by omega) ?_
  have hIx6_ : gi (sm_aI (sm_aI S0_ 14 (0 + ii_) a1_.toNat (S0_.2.2.1 14 (0 + ii_) a2_.toNat)) 14 (0 + ii_) a2_.toNat (S0_.2.2.1 14 (0 + ii_) a1_.toNat)) := gi_aI hIx3_ (show 0 ≤ (S0_.2.2.1 14 (0 + ii_) a1_.toNat) ∧ (S0_.2.2.1 14 (0 + ii_) a1_.toNat) ≤ 60 from ⟨by omega, by omega⟩)
  have hFx7_ : ai_fr (sx_W vw_29) S0_ (sm_aI (sm_aI S0_ 14 (0 + ii_) a1_.toNat (S0_.2.2.1 14 (0 + ii_) a2_.toNat)) 14 (0 + ii_) a2_.toNat (S0_.2.2.1 14 (0 + ii_) a1_.toNat)) := ai_fr_tr hFx4_ (ai_fr_aI rfl)
  have hCx8_ : cdf ii_ S0_ (sm_aI (sm_aI S0_ 14 (0 + ii_) a1_.toNat (S0_.2.2.1 14 (0 + ii_) a2_.toNat)) 14 (0 + ii_) a2_.toNat (S0_.2.2.1 14 (0 + ii_) a1_.toNat)) := cdf_aI hCx5_ (Or.inr (by rw [show cof 14 = 0 from rfl] <;> omega))
  refine sm_T_go 3 (c1 := (31, [some (.inr (.inr (some (0, ii_)))), some (.inl a1_), some (.inl a2_), some (.inl (S0_.2.2.1 14 (0 + ii_) a1_.toNat)), none], [.inl a1_, .inr (.inr (some (15, (0 + ii_))))], sm_aI (sm_aI S0_ 14 (0 + ii_) a1_.toNat (S0_.2.2.1 14 (0 + ii_) a2_.toNat)) 14 (0 + ii_) a2_.toNat (S0_.2.2.1 14 (0 + ii_) a1_.toNat))) rfl ?_
  refine sm_T_iald (n := 156) rfl rfl (by omega) (by omega) ?_
  have bx9_ : 0 ≤ S0_.2.2.1 15 (0 + ii_) a1_.toNat ∧ S0_.2.2.1 15 (0 + ii_) a1_.toNat ≤ 12 := hI_.2 15 (0 + ii_) _
  refine sm_T_go 7 (c1 := (44, [some (.inr (.inr (some (0, ii_)))), some (.inl a1_), some (.inl a2_), some (.inl (S0_.2.2.1 14 (0 + ii_) a1_.toNat)), some (.inl (S0_.2.2.1 15 (0 + ii_) a1_.toNat))], [.inl a2_, .inr (.inr (some (15, (0 + ii_)))), .inl a1_, .inr (.inr (some (15, (0 + ii_))))], sm_aI (sm_aI S0_ 14 (0 + ii_) a1_.toNat (S0_.2.2.1 14 (0 + ii_) a2_.toNat)) 14 (0 + ii_) a2_.toNat (S0_.2.2.1 14 (0 + ii_) a1_.toNat))) rfl ?_
  refine sm_T_iald (n := 156) rfl rfl (by omega) (by omega) ?_
  have bx10_ : 0 ≤ S0_.2.2.1 15 (0 + ii_) a2_.toNat ∧ S0_.2.2.1 15 (0 + ii_) a2_.toNat ≤ 12 := hI_.2 15 (0 + ii_) _
  refine sm_T_go 0 (c1 := (45, [some (.inr (.inr (some (0, ii_)))), some (.inl a1_), some (.inl a2_), some (.inl (S0_.2.2.1 14 (0 + ii_) a1_.toNat)), some (.inl (S0_.2.2.1 15 (0 + ii_) a1_.toNat))], [.inl (S0_.2.2.1 15 (0 + ii_) a2_.toNat), .inl a1_, .inr (.inr (some (15, (0 + ii_))))], sm_aI (sm_aI S0_ 14 (0 + ii_) a1_.toNat (S0_.2.2.1 14 (0 + ii_) a2_.toNat)) 14 (0 + ii_) a2_.toNat (S0_.2.2.1 14 (0 + ii_) a1_.toNat))) rfl ?_
  refine sm_T_iast (n := 156) rfl rfl (by omega) (by omega) ?_
  have hIx11_ : gi (sm_aI (sm_aI (sm_aI S0_ 14 (0 + ii_) a1_.toNat (S0_.2.2.1 14 (0 + ii_) a2_.toNat)) 14 (0 + ii_) a2_.toNat (S0_.2.2.1 14 (0 + ii_) a1_.toNat)) 15 (0 + ii_) a1_.toNat (S0_.2.2.1 15 (0 + ii_) a2_.toNat)) := gi_aI hIx6_ (show 0 ≤ (S0_.2.2.1 15 (0 + ii_) a2_.toNat) ∧ (S0_.2.2.1 15 (0 + ii_) a2_.toNat) ≤ 12 from ⟨by omega, by omega⟩)
  have hFx12_ : ai_fr (sx_W vw_29) S0_ (sm_aI (sm_aI (sm_aI S0_ 14 (0 + ii_) a1_.toNat (S0_.2.2.1 14 (0 + ii_) a2_.toNat)) 14 (0 + ii_) a2_.toNat (S0_.2.2.1 14 (0 + ii_) a1_.toNat)) 15 (0 + ii_) a1_.toNat (S0_.2.2.1 15 (0 + ii_) a2_.toNat)) := ai_fr_tr hFx7_ (ai_fr_aI rfl)
  have hCx13_ : cdf ii_ S0_ (sm_aI (sm_aI (sm_aI S0_ 14 (0 + ii_) a1_.toNat (S0_.2.2.1 14 (0 + ii_) a2_.toNat)) 14 (0 + ii_) a2_.toNat (S0_.2.2.1 14 (0 + ii_) a1_.toNat)) 15 (0 + ii_) a1_.toNat (S0_.2.2.1 15 (0 + ii_) a2_.toNat)) := cdf_aI hCx8_ (Or.inr (by rw [show cof 15 = 0 from rfl] <;> omega))
  refine sm_T_go 4 (c1 := (53, [some (.inr (.inr (some (0, ii_)))), some (.inl a1_), some (.inl a2_), some (.inl (S0_.2.2.1 14 (0 + ii_) a1_.toNat)), some (.inl (S0_.2.2.1 15 (0 + ii_) a1_.toNat))], [.inl (S0_.2.2.1 15 (0 + ii_) a1_.toNat), .inl a2_, .inr (.inr (some (15, (0 + ii_))))], sm_aI (sm_aI (sm_aI S0_ 14 (0 + ii_) a1_.toNat (S0_.2.2.1 14 (0 + ii_) a2_.toNat)) 14 (0 + ii_) a2_.toNat (S0_.2.2.1 14 (0 + ii_) a1_.toNat)) 15 (0 + ii_) a1_.toNat (S0_.2.2.1 15 (0 + ii_) a2_.toNat))) rfl ?_
  refine sm_T_iast (n := 156) rfl rfl (by omega) (by omega) ?_
  have hIx14_ : gi (sm_aI (sm_aI (sm_aI (sm_aI S0_ 14 (0 + ii_) a1_.toNat (S0_.2.2.1 14 (0 + ii_) a2_.toNat)) 14 (0 + ii_) a2_.toNat (S0_.2.2.1 14 (0 + ii_) a1_.toNat)) 15 (0 + ii_) a1_.toNat (S0_.2.2.1 15 (0 + ii_) a2_.toNat)) 15 (0 + ii_) a2_.toNat (S0_.2.2.1 15 (0 + ii_) a1_.toNat)) := gi_aI hIx11_ (show 0 ≤ (S0_.2.2.1 15 (0 + ii_) a1_.toNat) ∧ (S0_.2.2.1 15 (0 + ii_) a1_.toNat) ≤ 12 from ⟨by omega, by omega⟩)
  have hFx15_ : ai_fr (sx_W vw_29) S0_ (sm_aI (sm_aI (sm_aI (sm_aI S0_ 14 (0 + ii_) a1_.toNat (S0_.2.2.1 14 (0 + ii_) a2_.toNat)) 14 (0 + ii_) a2_.toNat (S0_.2.2.1 14 (0 + ii_) a1_.toNat)) 15 (0 + ii_) a1_.toNat (S0_.2.2.1 15 (0 + ii_) a2_.toNat)) 15 (0 + ii_) a2_.toNat (S0_.2.2.1 15 (0 + ii_) a1_.toNat)) := ai_fr_tr hFx12_ (ai_fr_aI rfl)
  have hCx16_ : cdf ii_ S0_ (sm_aI (sm_aI (sm_aI (sm_aI S0_ 14 (0 + ii_) a1_.toNat (S0_.2.2.1 14 (0 + ii_) a2_.toNat)) 14 (0 + ii_) a2_.toNat (S0_.2.2.1 14 (0 + ii_) a1_.toNat)) 15 (0 + ii_) a1_.toNat (S0_.2.2.1 15 (0 + ii_) a2_.toNat)) 15 (0 + ii_) a2_.toNat (S0_.2.2.1 15 (0 + ii_) a1_.toNat)) := cdf_aI hCx13_ (Or.inr (by rw [show cof 15 = 0 from rfl] <;> omega))
  refine sm_T_rv rfl ⟨_, _, rfl, rfl, hIx14_, hFx15_, ?_⟩
  refine ⟨hCx16_, ?_⟩
  intro e_
  constructor
  · rw [rd_ne (by decide), rd_ne (by decide), rd_eq, rd_eq]
  · rw [rd_eq, rd_eq]; simp only [rd_ne, ne_eq, Nat.reduceEqDiff, not_false_eq_true]
