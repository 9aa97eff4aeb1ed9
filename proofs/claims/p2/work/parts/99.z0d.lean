/-! Library.addCell -/
def vw_88 : sx_Wl := ([(5, 1)], [55, 56, 57, 58], [])
def vq_88 (x_ : Int) (t_ : Int) (a_ : Int) (d_ : Int) (ii_ : Nat) (S0_ : sm_S) (u_ : Option sm_V) (S1_ : sm_S) : Prop := u_ = none ∧ gi S1_ ∧ ai_fr (sx_W vw_88) S0_ S1_ ∧ ((S1_.1 5 ii_ 1) = (S0_.1 5 ii_ 1) + 1)
set_option maxHeartbeats 400000 in
theorem vc_88 {sc_ : Nat × (Nat → Int)} (x_ : Int) (t_ : Int) (a_ : Int) (d_ : Int) (ii_ : Nat) (S0_ : sm_S) (hI_ : gi S0_) (hx_ : 0 ≤ x_ ∧ x_ ≤ 3) (ht_ : 0 ≤ t_ ∧ t_ ≤ 255) (ha_ : 0 ≤ a_ ∧ a_ ≤ 1000) (hd_ : 0 ≤ d_ ∧ d_ ≤ 100) (hk_ : (S0_.1 5 ii_ 1) < 12) : sm_T (mt_P sc_) 0 88 (0, [some (.inr (.inr (some (5, ii_)))), some (.inl x_), some (.inl t_), some (.inl a_), some (.inl d_)], [], S0_) (fun r_ => ∃ u_ S1_, r_ = (.inl u_, S1_, 0) ∧ vq_88 x_ t_ a_ d_ ii_ S0_ u_ S1_) := by
  have hF_ : ai_fr (sx_W vw_88) S0_ S0_ := ai_fr_rf
  have bx1_ : 0 ≤ S0_.1 5 ii_ 1 ∧ S0_.1 5 ii_ 1 ≤ 12 := hI_.1 5 ii_ 1 rfl
  refine sm_T_go 3 (c1 := (6, [some (.inr (.inr (some (5, ii_)))), some (.inl x_), some (.inl t_), some (.inl a_), some (.inl d_)], [.inl 12, .inl (S0_.1 5 ii_ 1)], S0_)) rfl ?_
  refine sm_T_br (a := 3) (z := 54) rfl (fun cx2_ => ?_) (fun cx2_ => ?_)
  · have cx2_ : 12 ≤ (S0_.1 5 ii_ 1) := of_decide_eq_true cx2_
    exfalso; omega
  · have cx2_ : ¬ (12 ≤ (S0_.1 5 ii_ 1)) := of_decide_eq_false cx2_
    refine sm_T_go 5 (c1 := (18, [some (.inr (.inr (some (5, ii_)))), some (.inl x_), some (.inl t_), some (.inl a_), some (.inl d_)], [.inl x_, .inl (S0_.1 5 ii_ 1), .inr (.inr (some (55, (0 + ii_))))], S0_)) rfl ?_
    refine sm_T_iast (n := 12) rfl rfl (by omega) (by omega) ?_
    have hIx3_ : gi (sm_aI S0_ 55 (0 + ii_) (S0_.1 5 ii_ 1).toNat x_) := gi_aI hI_ (show 0 ≤ x_ ∧ x_ ≤ 3 from ⟨by omega, by omega⟩)
    have hFx4_ : ai_fr (sx_W vw_88) S0_ (sm_aI S0_ 55 (0 + ii_) (S0_.1 5 ii_ 1).toNat x_) := ai_fr_tr hF_ (ai_fr_aI rfl)
    refine sm_T_go 5 (c1 := (28, [some (.inr (.inr (some (5, ii_)))), some (.inl x_), some (.inl t_), some (.inl a_), some (.inl d_)], [.inl t_, .inl (S0_.1 5 ii_ 1), .inr (.inr (some (56, (0 + ii_))))], sm_aI S0_ 55 (0 + ii_) (S0_.1 5 ii_ 1).toNat x_)) rfl ?_
    refine sm_T_iast (n := 12) rfl rfl (by omega) (by omega) ?_
    have hIx5_ : gi (sm_aI (sm_aI S0_ 55 (0 + ii_) (S0_.1 5 ii_ 1).toNat x_) 56 (0 + ii_) (S0_.1 5 ii_ 1).toNat t_) := gi_aI hIx3_ (show 0 ≤ t_ ∧ t_ ≤ 255 from ⟨by omega, by omega⟩)
    have hFx6_ : ai_fr (sx_W vw_88) S0_ (sm_aI (sm_aI S0_ 55 (0 + ii_) (S0_.1 5 ii_ 1).toNat x_) 56 (0 + ii_) (S0_.1 5 ii_ 1).toNat t_) := ai_fr_tr hFx4_ (ai_fr_aI rfl)
    refine sm_T_go 5 (c1 := (38, [some (.inr (.inr (some (5, ii_)))), some (.inl x_), some (.inl t_), some (.inl a_), some (.inl d_)], [.inl a_, .inl (S0_.1 5 ii_ 1), .inr (.inr (some (57, (0 + ii_))))], sm_aI (sm_aI S0_ 55 (0 + ii_) (S0_.1 5 ii_ 1).toNat x_) 56 (0 + ii_) (S0_.1 5 ii_ 1).toNat t_)) rfl ?_
    refine sm_T_iast (n := 12) rfl rfl (by omega) (by omega) ?_
    have hIx7_ : gi (sm_aI (sm_aI (sm_aI S0_ 55 (0 + ii_) (S0_.1 5 ii_ 1).toNat x_) 56 (0 + ii_) (S0_.1 5 ii_ 1).toNat t_) 57 (0 + ii_) (S0_.1 5 ii_ 1).toNat a_) := gi_aI hIx5_ (show 0 ≤ a_ ∧ a_ ≤ 1000 from ⟨by omega, by omega⟩)
    have hFx8_ : ai_fr (sx_W vw_88) S0_ (sm_aI (sm_aI (sm_aI S0_ 55 (0 + ii_) (S0_.1 5 ii_ 1).toNat x_) 56 (0 + ii_) (S0_.1 5 ii_ 1).toNat t_) 57 (0 + ii_) (S0_.1 5 ii_ 1).toNat a_) := ai_fr_tr hFx6_ (ai_fr_aI rfl)
    refine sm_T_go 5 (c1 := (49, [some (.inr (.inr (some (5, ii_)))), some (.inl x_), some (.inl t_), some (.inl a_), some (.inl d_)], [.inl d_, .inl (S0_.1 5 ii_ 1), .inr (.inr (some (58, (0 + ii_))))], sm_aI (sm_aI (sm_aI S0_ 55 (0 + ii_) (S0_.1 5 ii_ 1).toNat x_) 56 (0 + ii_) (S0_.1 5 ii_ 1).toNat t_) 57 (0 + ii_) (S0_.1 5 ii_ 1).toNat a_)) rfl ?_
    refine sm_T_iast (n := 12) rfl rfl (by omega) (by omega) ?_
    have hIx9_ : gi (sm_aI (sm_aI (sm_aI (sm_aI S0_ 55 (0 + ii_) (S0_.1 5 ii_ 1).toNat x_) 56 (0 + ii_) (S0_.1 5 ii_ 1).toNat t_) 57 (0 + ii_) (S0_.1 5 ii_ 1).toNat a_) 58 (0 + ii_) (S0_.1 5 ii_ 1).toNat d_) := gi_aI hIx7_ (show 0 ≤ d_ ∧ d_ ≤ 100 from ⟨by omega, by omega⟩)
    have hFx10_ : ai_fr (sx_W vw_88) S0_ (sm_aI (sm_aI (sm_aI (sm_aI S0_ 55 (0 + ii_) (S0_.1 5 ii_ 1).toNat x_) 56 (0 + ii_) (S0_.1 5 ii_ 1).toNat t_) 57 (0 + ii_) (S0_.1 5 ii_ 1).toNat a_) 58 (0 + ii_) (S0_.1 5 ii_ 1).toNat d_) := ai_fr_tr hFx8_ (ai_fr_aI rfl)
    refine sm_T_go 4 (c1 := (56, [some (.inr (.inr (some (5, ii_)))), some (.inl x_), some (.inl t_), some (.inl a_), some (.inl d_)], [.inl 1, .inl (S0_.1 5 ii_ 1), .inr (.inr (some (5, ii_)))], sm_aI (sm_aI (sm_aI (sm_aI S0_ 55 (0 + ii_) (S0_.1 5 ii_ 1).toNat x_) 56 (0 + ii_) (S0_.1 5 ii_ 1).toNat t_) 57 (0 + ii_) (S0_.1 5 ii_ 1).toNat a_) 58 (0 + ii_) (S0_.1 5 ii_ 1).toNat d_)) rfl ?_
    refine sm_T_bin (w := (S0_.1 5 ii_ 1) + 1) rfl (bi_add (by omega) (by omega) (by omega)) ?_
    have hIx11_ : gi (sm_pI (sm_aI (sm_aI (sm_aI (sm_aI S0_ 55 (0 + ii_) (S0_.1 5 ii_ 1).toNat x_) 56 (0 + ii_) (S0_.1 5 ii_ 1).toNat t_) 57 (0 + ii_) (S0_.1 5 ii_ 1).toNat a_) 58 (0 + ii_) (S0_.1 5 ii_ 1).toNat d_) 5 ii_ 1 ((S0_.1 5 ii_ 1) + 1)) := gi_pI hIx9_ (show 0 ≤ (S0_.1 5 ii_ 1) + 1 ∧ (S0_.1 5 ii_ 1) + 1 ≤ 12 from ⟨by omega, by omega⟩)
    have hFx12_ : ai_fr (sx_W vw_88) S0_ (sm_pI (sm_aI (sm_aI (sm_aI (sm_aI S0_ 55 (0 + ii_) (S0_.1 5 ii_ 1).toNat x_) 56 (0 + ii_) (S0_.1 5 ii_ 1).toNat t_) 57 (0 + ii_) (S0_.1 5 ii_ 1).toNat a_) 58 (0 + ii_) (S0_.1 5 ii_ 1).toNat d_) 5 ii_ 1 ((S0_.1 5 ii_ 1) + 1)) := ai_fr_tr hFx10_ (ai_fr_pI rfl)
    refine sm_T_go 1 (c1 := (60, [some (.inr (.inr (some (5, ii_)))), some (.inl x_), some (.inl t_), some (.inl a_), some (.inl d_)], [], sm_pI (sm_aI (sm_aI (sm_aI (sm_aI S0_ 55 (0 + ii_) (S0_.1 5 ii_ 1).toNat x_) 56 (0 + ii_) (S0_.1 5 ii_ 1).toNat t_) 57 (0 + ii_) (S0_.1 5 ii_ 1).toNat a_) 58 (0 + ii_) (S0_.1 5 ii_ 1).toNat d_) 5 ii_ 1 ((S0_.1 5 ii_ 1) + 1))) rfl ?_
    refine sm_T_rv rfl ⟨_, _, rfl, rfl, hIx11_, hFx12_, ?_⟩
    exact rf_eq
