/-! M_.flaw -/
def vw_293 : sx_Wl := ([(13, 10), (13, 11)], [], [])
def vq_293 (f_ : Int) (t_ : Int) (S0_ : sm_S) (u_ : Option sm_V) (S1_ : sm_S) : Prop := u_ = none ∧ gi S1_ ∧ ai_fr (sx_W vw_293) S0_ S1_ ∧ (((S0_.1 13 0 10) ≠ 0 ∧ (S1_.1 13 0 10) = (S0_.1 13 0 10) ∧ (S1_.1 13 0 11) = (S0_.1 13 0 11)) ∨ ((S0_.1 13 0 10) = 0 ∧ (S1_.1 13 0 10) = (if (S0_.2.2.1 119 0 (t_.toNat)) = 4 then 1 else f_) ∧ (S1_.1 13 0 11) = (S0_.2.2.1 120 0 (t_.toNat))))
set_option maxHeartbeats 400000 in
theorem vc_293 {sc_ : Nat × (Nat → Int)} (f_ : Int) (t_ : Int) (S0_ : sm_S) (hI_ : gi S0_) (h1_ : 0 ≤ f_ ∧ f_ ≤ 23) (h2_ : 0 ≤ t_ ∧ t_ ≤ 1280) : sm_T (mt_P sc_) 0 293 (0, [some (.inr (.inr (some (13, 0)))), some (.inl f_), some (.inl t_)], [], S0_) (fun r_ => ∃ u_ S1_, r_ = (.inl u_, S1_, 0) ∧ vq_293 f_ t_ S0_ u_ S1_) := by
  have hF_ : ai_fr (sx_W vw_293) S0_ S0_ := ai_fr_rf
  have bx1_ : 0 ≤ S0_.1 13 0 10 ∧ S0_.1 13 0 10 ≤ 23 := hI_.1 13 0 10 rfl
  refine sm_T_go 2 (c1 := (4, [some (.inr (.inr (some (13, 0)))), some (.inl f_), some (.inl t_)], [.inl (S0_.1 13 0 10)], S0_)) rfl ?_
  refine sm_T_b0 (a := 1) (z := 32) rfl (fun cx2_ => ?_) (fun cx2_ => ?_)
  · have cx2_ : (S0_.1 13 0 10) ≠ 0 := of_decide_eq_true cx2_
    refine sm_T_rv rfl ⟨_, _, rfl, rfl, hI_, hF_, ?_⟩
    first | (left; exact ⟨by omega, rfl, rfl⟩) | (right; refine ⟨by omega, ?_, rfl⟩; first | (rw [if_pos (by omega)]; rfl) | (rw [if_neg (by omega)]; rfl))
  · have cx2_ : ¬ ((S0_.1 13 0 10) ≠ 0) := of_decide_eq_false cx2_
    refine sm_T_go 4 (c1 := (13, [some (.inr (.inr (some (13, 0)))), some (.inl f_), some (.inl t_)], [.inl t_, .inr (.inr (some (119, 0))), .inr (.inr (some (13, 0)))], S0_)) rfl ?_
    refine sm_T_bald (n := 65537) rfl rfl (by omega) (by omega) ?_
    have bx3_ : (-128) ≤ S0_.2.2.1 119 0 t_.toNat ∧ S0_.2.2.1 119 0 t_.toNat ≤ 127 := hI_.2 119 0 _
    refine sm_T_go 1 (c1 := (15, [some (.inr (.inr (some (13, 0)))), some (.inl f_), some (.inl t_)], [.inl 4, .inl (S0_.2.2.1 119 0 t_.toNat), .inr (.inr (some (13, 0)))], S0_)) rfl ?_
    refine sm_T_br (a := 1) (z := 7) rfl (fun cx4_ => ?_) (fun cx4_ => ?_)
    · have cx4_ : (S0_.2.2.1 119 0 t_.toNat) ≠ 4 := of_decide_eq_true cx4_
      have hIx5_ : gi (sm_pI S0_ 13 0 10 f_) := gi_pI hI_ (show 0 ≤ f_ ∧ f_ ≤ 23 from ⟨by omega, by omega⟩)
      have hFx6_ : ai_fr (sx_W vw_293) S0_ (sm_pI S0_ 13 0 10 f_) := ai_fr_tr hF_ (ai_fr_pI rfl)
      refine sm_T_go 6 (c1 := (32, [some (.inr (.inr (some (13, 0)))), some (.inl f_), some (.inl t_)], [.inl t_, .inr (.inr (some (120, 0))), .inr (.inr (some (13, 0)))], sm_pI S0_ 13 0 10 f_)) rfl ?_
      refine sm_T_iald (n := 65537) rfl rfl (by omega) (by omega) ?_
      have bx7_ : 0 ≤ S0_.2.2.1 120 0 t_.toNat ∧ S0_.2.2.1 120 0 t_.toNat ≤ 1280 := hI_.2 120 0 _
      have hIx8_ : gi (sm_pI (sm_pI S0_ 13 0 10 f_) 13 0 11 (S0_.2.2.1 120 0 t_.toNat)) := gi_pI hIx5_ (show 0 ≤ (S0_.2.2.1 120 0 t_.toNat) ∧ (S0_.2.2.1 120 0 t_.toNat) ≤ 4095 from ⟨by omega, by omega⟩)
      have hFx9_ : ai_fr (sx_W vw_293) S0_ (sm_pI (sm_pI S0_ 13 0 10 f_) 13 0 11 (S0_.2.2.1 120 0 t_.toNat)) := ai_fr_tr hFx6_ (ai_fr_pI rfl)
      refine sm_T_go 1 (c1 := (36, [some (.inr (.inr (some (13, 0)))), some (.inl f_), some (.inl t_)], [], sm_pI (sm_pI S0_ 13 0 10 f_) 13 0 11 (S0_.2.2.1 120 0 t_.toNat))) rfl ?_
      refine sm_T_rv rfl ⟨_, _, rfl, rfl, hIx8_, hFx9_, ?_⟩
      first | (left; exact ⟨by omega, rfl, rfl⟩) | (right; refine ⟨by omega, ?_, rfl⟩; first | (rw [if_pos (by omega)]; rfl) | (rw [if_neg (by omega)]; rfl))
    · have cx4_ : ¬ ((S0_.2.2.1 119 0 t_.toNat) ≠ 4) := of_decide_eq_false cx4_
      have hIx10_ : gi (sm_pI S0_ 13 0 10 1) := gi_pI hI_ (show 0 ≤ 1 ∧ 1 ≤ 23 from ⟨by omega, by omega⟩)
      have hFx11_ : ai_fr (sx_W vw_293) S0_ (sm_pI S0_ 13 0 10 1) := ai_fr_tr hF_ (ai_fr_pI rfl)
      refine sm_T_go 7 (c1 := (32, [some (.inr (.inr (some (13, 0)))), some (.inl f_), some (.inl t_)], [.inl t_, .inr (.inr (some (120, 0))), .inr (.inr (some (13, 0)))], sm_pI S0_ 13 0 10 1)) rfl ?_
      refine sm_T_iald (n := 65537) rfl rfl (by omega) (by omega) ?_
      have bx12_ : 0 ≤ S0_.2.2.1 120 0 t_.toNat ∧ S0_.2.2.1 120 0 t_.toNat ≤ 1280 := hI_.2 120 0 _
      have hIx13_ : gi (sm_pI (sm_pI S0_ 13 0 10 1) 13 0 11 (S0_.2.2.1 120 0 t_.toNat)) := gi_pI hIx10_ (show 0 ≤ (S0_.2.2.1 120 0 t_.toNat) ∧ (S0_.2.2.1 120 0 t_.toNat) ≤ 4095 from ⟨by omega, by omega⟩)
      have hFx14_ : ai_fr (sx_W vw_293) S0_ (sm_pI (sm_pI S0_ 13 0 10 1) 13 0 11 (S0_.2.2.1 120 0 t_.toNat)) := ai_fr_tr hFx11_ (ai_fr_pI rfl)
      refine sm_T_go 1 (c1 := (36, [some (.inr (.inr (some (13, 0)))), some (.inl f_), some (.inl t_)], [], sm_pI (sm_pI S0_ 13 0 10 1) 13 0 11 (S0_.2.2.1 120 0 t_.toNat))) rfl ?_
      refine sm_T_rv rfl ⟨_, _, rfl, rfl, hIx13_, hFx14_, ?_⟩
      first | (left; exact ⟨by omega, rfl, rfl⟩) | (right; refine ⟨by omega, ?_, rfl⟩; first | (rw [if_pos (by omega)]; rfl) | (rw [if_neg (by omega)]; rfl))
