/-! why the end of the tape is refused by the reference; written by wip/p55/gen/vg -/
/-! M_.end -/
def vw_280t : sx_Wl := ([(13, 0), (13, 2)], [], [])
def vq_280t (n_ : Int) (S0_ : sm_S) (u_ : Option sm_V) (S1_ : sm_S) : Prop := u_ = none ∧ gi S1_ ∧ ai_fr (sx_W vw_280t) S0_ S1_ ∧ (jR S1_ ∧ (S1_.1 13 0 2 = if 0 ≤ n_ ∧ n_ ≤ S0_.1 13 0 2 then n_ else S0_.1 13 0 2) ∧ S1_.1 13 0 0 = if 0 ≤ n_ ∧ n_ ≤ S0_.1 13 0 2 then 0 else 1)
set_option maxHeartbeats 400000 in
set_option maxRecDepth 20000 in
theorem vc_280t {sc_ : Nat × (Nat → Int)} (n_ : Int) (S0_ : sm_S) (hI_ : gi S0_) (hJ_ : jR S0_) : sm_T (mt_P sc_) 0 280 (0, [some (.inr (.inr (some (13, 0)))), some (.inl n_)], [], S0_) (fun ro9_ => ∃ u_ S1_, ro9_ = (.inl u_, S1_, 0) ∧ vq_280t n_ S0_ u_ S1_) := by
  have hF_ : ai_fr (sx_W vw_280t) S0_ S0_ := ai_fr_rf
  refine sm_T_go 2 (c1 := (2, [some (.inr (.inr (some (13, 0)))), some (.inl n_)], [.inl n_, .inr (.inr (some (13, 0)))], S0_)) rfl ?_
  refine sm_T_b0 (a := 2) (z := 11) rfl (fun cx1_ => ?_) (fun cx1_ => ?_)
  · have cx1_ : n_ < 0 := of_decide_eq_true cx1_
    have hIx2_ : gi (sm_pI S0_ 13 0 0 1) := gi_pI hI_ (show 0 ≤ 1 ∧ 1 ≤ 4 from ⟨by omega, by omega⟩)
    have hFx3_ : ai_fr (sx_W vw_280t) S0_ (sm_pI S0_ 13 0 0 1) := ai_fr_tr hF_ (ai_fr_pI rfl)
    have bx4_ : 0 ≤ S0_.1 13 0 2 ∧ S0_.1 13 0 2 ≤ 1280 := hI_.1 13 0 2 rfl
    have hIx5_ : gi (sm_pI (sm_pI S0_ 13 0 0 1) 13 0 2 (S0_.1 13 0 2)) := gi_pI hIx2_ (show 0 ≤ (S0_.1 13 0 2) ∧ (S0_.1 13 0 2) ≤ 1280 from ⟨by omega, by omega⟩)
    have hFx6_ : ai_fr (sx_W vw_280t) S0_ (sm_pI (sm_pI S0_ 13 0 0 1) 13 0 2 (S0_.1 13 0 2)) := ai_fr_tr hFx3_ (ai_fr_pI rfl)
    refine sm_T_go 11 (c1 := (40, [some (.inr (.inr (some (13, 0)))), some (.inl n_)], [], sm_pI (sm_pI S0_ 13 0 0 1) 13 0 2 (S0_.1 13 0 2))) rfl ?_
    refine sm_T_rv rfl ⟨_, _, rfl, rfl, hIx5_, hFx6_, ?_⟩
    refine ⟨hJ_, ?_, ?_⟩
    · first | (rw [if_pos (by omega)]; exact rf_eq) | (rw [if_neg (by omega)]; exact rf_eq) | (rw [if_neg (by omega)]; rw [rf_nk (by decide)])
    · refine ((rf_nk (by decide)).trans rf_eq).trans ?_; first | rw [if_pos (by omega)] | rw [if_neg (by omega)]
  · have cx1_ : ¬ (n_ < 0) := of_decide_eq_false cx1_
    have bx7_ : 0 ≤ S0_.1 13 0 2 ∧ S0_.1 13 0 2 ≤ 1280 := hI_.1 13 0 2 rfl
    refine sm_T_go 3 (c1 := (10, [some (.inr (.inr (some (13, 0)))), some (.inl n_)], [.inl (S0_.1 13 0 2), .inl n_, .inr (.inr (some (13, 0)))], S0_)) rfl ?_
    refine sm_T_br (a := 5) (z := 7) rfl (fun cx8_ => ?_) (fun cx8_ => ?_)
    · have cx8_ : n_ ≤ (S0_.1 13 0 2) := of_decide_eq_true cx8_
      have hIx9_ : gi (sm_pI S0_ 13 0 0 0) := gi_pI hI_ (show 0 ≤ 0 ∧ 0 ≤ 4 from ⟨by omega, by omega⟩)
      have hFx10_ : ai_fr (sx_W vw_280t) S0_ (sm_pI S0_ 13 0 0 0) := ai_fr_tr hF_ (ai_fr_pI rfl)
      have hIx11_ : gi (sm_pI (sm_pI S0_ 13 0 0 0) 13 0 2 n_) := gi_pI hIx9_ (show 0 ≤ n_ ∧ n_ ≤ 1280 from ⟨by omega, by omega⟩)
      have hFx12_ : ai_fr (sx_W vw_280t) S0_ (sm_pI (sm_pI S0_ 13 0 0 0) 13 0 2 n_) := ai_fr_tr hFx10_ (ai_fr_pI rfl)
      refine sm_T_go 8 (c1 := (40, [some (.inr (.inr (some (13, 0)))), some (.inl n_)], [], sm_pI (sm_pI S0_ 13 0 0 0) 13 0 2 n_)) rfl ?_
      refine sm_T_rv rfl ⟨_, _, rfl, rfl, hIx11_, hFx12_, ?_⟩
      refine ⟨hJ_, ?_, ?_⟩
      · first | (rw [if_pos (by omega)]; exact rf_eq) | (rw [if_neg (by omega)]; exact rf_eq) | (rw [if_neg (by omega)]; rw [rf_nk (by decide)])
      · refine ((rf_nk (by decide)).trans rf_eq).trans ?_; first | rw [if_pos (by omega)] | rw [if_neg (by omega)]
    · have cx8_ : ¬ (n_ ≤ (S0_.1 13 0 2)) := of_decide_eq_false cx8_
      have hIx13_ : gi (sm_pI S0_ 13 0 0 1) := gi_pI hI_ (show 0 ≤ 1 ∧ 1 ≤ 4 from ⟨by omega, by omega⟩)
      have hFx14_ : ai_fr (sx_W vw_280t) S0_ (sm_pI S0_ 13 0 0 1) := ai_fr_tr hF_ (ai_fr_pI rfl)
      have hIx15_ : gi (sm_pI (sm_pI S0_ 13 0 0 1) 13 0 2 (S0_.1 13 0 2)) := gi_pI hIx13_ (show 0 ≤ (S0_.1 13 0 2) ∧ (S0_.1 13 0 2) ≤ 1280 from ⟨by omega, by omega⟩)
      have hFx16_ : ai_fr (sx_W vw_280t) S0_ (sm_pI (sm_pI S0_ 13 0 0 1) 13 0 2 (S0_.1 13 0 2)) := ai_fr_tr hFx14_ (ai_fr_pI rfl)
      refine sm_T_go 11 (c1 := (40, [some (.inr (.inr (some (13, 0)))), some (.inl n_)], [], sm_pI (sm_pI S0_ 13 0 0 1) 13 0 2 (S0_.1 13 0 2))) rfl ?_
      refine sm_T_rv rfl ⟨_, _, rfl, rfl, hIx15_, hFx16_, ?_⟩
      refine ⟨hJ_, ?_, ?_⟩
      · first | (rw [if_pos (by omega)]; exact rf_eq) | (rw [if_neg (by omega)]; exact rf_eq) | (rw [if_neg (by omega)]; rw [rf_nk (by decide)])
      · refine ((rf_nk (by decide)).trans rf_eq).trans ?_; first | rw [if_pos (by omega)] | rw [if_neg (by omega)]
