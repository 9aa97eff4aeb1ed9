/-! Times.putChange -/
def vw_206 : sx_Wl := ([(11, 16)], [108, 109], [])
def vq_206 (a1_ : Int) (a2_ : Int) (S0_ : sm_S) (u_ : Option sm_V) (S1_ : sm_S) : Prop := u_ = none ∧ gi S1_ ∧ ai_fr (sx_W vw_206) S0_ S1_ ∧ (True)
set_option maxHeartbeats 400000 in
theorem vc_206 {sc_ : Nat × (Nat → Int)} (a1_ : Int) (a2_ : Int) (S0_ : sm_S) (hI_ : gi S0_) (h1_ : 0 ≤ a1_ ∧ a1_ ≤ 161) (h2_ : -2147483648 ≤ a2_ ∧ a2_ ≤ 2147483647) : sm_T (mt_P sc_) 0 206 (0, [some (.inr (.inr (some (11, 0)))), some (.inl a1_), some (.inl a2_), none], [], S0_) (fun ro9_ => ∃ u_ S1_, ro9_ = (.inl u_, S1_, 0) ∧ vq_206 a1_ a2_ S0_ u_ S1_) := by
  have hF_ : ai_fr (sx_W vw_206) S0_ S0_ := ai_fr_rf
  refine sm_T_go 4 (c1 := (6, [some (.inr (.inr (some (11, 0)))), some (.inl a1_), some (.inl a2_), none], [.inl 1, .inl a1_, .inr (.inr (some (108, 0)))], S0_)) rfl ?_
  refine sm_T_bin (w := a1_ + 1) rfl (bi_add (by omega) (by omega) (by omega)) ?_ -- pc_ 6
  refine sm_T_iald (n := 163) rfl rfl (by omega) (by omega) ?_
  have bx1_ : 0 ≤ S0_.2.2.1 108 0 (a1_ + 1).toNat ∧ S0_.2.2.1 108 0 (a1_ + 1).toNat ≤ 20000 := hI_.2 108 0 _
  refine sm_T_go 3 (c1 := (13, [some (.inr (.inr (some (11, 0)))), some (.inl a1_), some (.inl a2_), some (.inl (S0_.2.2.1 108 0 (a1_ + 1).toNat))], [.inl 20000, .inl (S0_.2.2.1 108 0 (a1_ + 1).toNat)], S0_)) rfl ?_
  refine sm_T_br (a := 1) (z := 11) rfl (fun cx2_ => ?_) (fun cx2_ => ?_)
  · have cx2_ : (S0_.2.2.1 108 0 (a1_ + 1).toNat) ≠ 20000 := of_decide_eq_true cx2_
    refine sm_T_go 4 (c1 := (30, [some (.inr (.inr (some (11, 0)))), some (.inl a1_), some (.inl a2_), some (.inl (S0_.2.2.1 108 0 (a1_ + 1).toNat))], [.inl a2_, .inl (S0_.2.2.1 108 0 (a1_ + 1).toNat), .inr (.inr (some (109, 0)))], S0_)) rfl ?_
    refine sm_T_iast (n := 20000) rfl rfl (by omega) (by omega) ?_
    have hIx3_ : gi (sm_aI S0_ 109 0 (S0_.2.2.1 108 0 (a1_ + 1).toNat).toNat a2_) := gi_aI hI_ (show (-2147483648) ≤ a2_ ∧ a2_ ≤ 2147483647 from ⟨by omega, by omega⟩)
    have hFx4_ : ai_fr (sx_W vw_206) S0_ (sm_aI S0_ 109 0 (S0_.2.2.1 108 0 (a1_ + 1).toNat).toNat a2_) := ai_fr_tr hF_ (ai_fr_aI rfl)
    refine sm_T_go 4 (c1 := (37, [some (.inr (.inr (some (11, 0)))), some (.inl a1_), some (.inl a2_), some (.inl (S0_.2.2.1 108 0 (a1_ + 1).toNat))], [.inl 1, .inl a1_, .inr (.inr (some (108, 0)))], sm_aI S0_ 109 0 (S0_.2.2.1 108 0 (a1_ + 1).toNat).toNat a2_)) rfl ?_
    refine sm_T_bin (w := a1_ + 1) rfl (bi_add (by omega) (by omega) (by omega)) ?_ -- pc_ 37
    refine sm_T_go 1 (c1 := (39, [some (.inr (.inr (some (11, 0)))), some (.inl a1_), some (.inl a2_), some (.inl (S0_.2.2.1 108 0 (a1_ + 1).toNat))], [.inl (a1_ + 1), .inr (.inr (some (108, 0))), .inl (a1_ + 1), .inr (.inr (some (108, 0)))], sm_aI S0_ 109 0 (S0_.2.2.1 108 0 (a1_ + 1).toNat).toNat a2_)) rfl ?_
    refine sm_T_iald (n := 163) rfl rfl (by omega) (by omega) ?_
    refine sm_T_go 1 (c1 := (41, [some (.inr (.inr (some (11, 0)))), some (.inl a1_), some (.inl a2_), some (.inl (S0_.2.2.1 108 0 (a1_ + 1).toNat))], [.inl 1, .inl (S0_.2.2.1 108 0 (a1_ + 1).toNat), .inl (a1_ + 1), .inr (.inr (some (108, 0)))], sm_aI S0_ 109 0 (S0_.2.2.1 108 0 (a1_ + 1).toNat).toNat a2_)) rfl ?_
    refine sm_T_bin (w := (S0_.2.2.1 108 0 (a1_ + 1).toNat) + 1) rfl (bi_add (by omega) (by omega) (by omega)) ?_ -- pc_ 41
    refine sm_T_iast (n := 163) rfl rfl (by omega) (by omega) ?_
    have hIx5_ : gi (sm_aI (sm_aI S0_ 109 0 (S0_.2.2.1 108 0 (a1_ + 1).toNat).toNat a2_) 108 0 (a1_ + 1).toNat ((S0_.2.2.1 108 0 (a1_ + 1).toNat) + 1)) := gi_aI hIx3_ (show 0 ≤ (S0_.2.2.1 108 0 (a1_ + 1).toNat) + 1 ∧ (S0_.2.2.1 108 0 (a1_ + 1).toNat) + 1 ≤ 20000 from ⟨by omega, by omega⟩)
    have hFx6_ : ai_fr (sx_W vw_206) S0_ (sm_aI (sm_aI S0_ 109 0 (S0_.2.2.1 108 0 (a1_ + 1).toNat).toNat a2_) 108 0 (a1_ + 1).toNat ((S0_.2.2.1 108 0 (a1_ + 1).toNat) + 1)) := ai_fr_tr hFx4_ (ai_fr_aI rfl)
    refine sm_T_rv rfl ⟨_, _, rfl, rfl, hIx5_, hFx6_, ?_⟩
    trivial
  · have cx2_ : ¬ ((S0_.2.2.1 108 0 (a1_ + 1).toNat) ≠ 20000) := of_decide_eq_false cx2_
    have hIx7_ : gi (sm_pI S0_ 11 0 16 1) := gi_pI hI_ (show 0 ≤ 1 ∧ 1 ≤ 1 from ⟨by omega, by omega⟩)
    have hFx8_ : ai_fr (sx_W vw_206) S0_ (sm_pI S0_ 11 0 16 1) := ai_fr_tr hF_ (ai_fr_pI rfl)
    refine sm_T_go 4 (c1 := (43, [some (.inr (.inr (some (11, 0)))), some (.inl a1_), some (.inl a2_), some (.inl (S0_.2.2.1 108 0 (a1_ + 1).toNat))], [], sm_pI S0_ 11 0 16 1)) rfl ?_
    refine sm_T_rv rfl ⟨_, _, rfl, rfl, hIx7_, hFx8_, ?_⟩
    trivial
