/-! M_.enter -/
def vw_341 : sx_Wl := ([(13, 9), (13, 28)], [146, 147, 148, 149], [])
def vq_341 (m_ : Int) (t_ : Int) (nm_ : Int) (fr_ : Nat) (S0_ : sm_S) (u_ : Option sm_V) (S1_ : sm_S) : Prop := u_ = none ∧ gi S1_ ∧ ai_fr (sx_W vw_341) S0_ S1_ ∧ ((∀ j_, S1_.2.2.1 146 0 j_ = if j_ = fr_ then m_ else S0_.2.2.1 146 0 j_) ∧ (∀ j_, S1_.2.2.1 147 0 j_ = if j_ = fr_ then t_ else S0_.2.2.1 147 0 j_) ∧ (∀ j_, S1_.2.2.1 148 0 j_ = if j_ = fr_ then nm_ else S0_.2.2.1 148 0 j_) ∧ (∀ j_, S1_.2.2.1 149 0 j_ = if j_ = fr_ then 0 else S0_.2.2.1 149 0 j_) ∧ (S1_.1 13 0 28) = m_ ∧ (S1_.1 13 0 9) = S0_.2.2.1 125 0 m_.toNat)
set_option maxHeartbeats 400000 in
theorem vc_341 {sc_ : Nat × (Nat → Int)} (m_ : Int) (t_ : Int) (nm_ : Int) (fr_ : Nat) (S0_ : sm_S) (hI_ : gi S0_) (hf_ : (S0_.1 13 0 29) = (fr_ : Int) ∧ fr_ ≤ 15) (hm1_ : 0 ≤ m_ ∧ m_ ≤ 15) (ht1_ : 0 ≤ t_ ∧ t_ ≤ 1280) (hn1_ : 0 ≤ nm_ ∧ nm_ ≤ 39) : sm_T (mt_P sc_) 0 341 (0, [some (.inr (.inr (some (13, 0)))), some (.inl m_), some (.inl t_), some (.inl nm_)], [], S0_) (fun ro9_ => ∃ u_ S1_, ro9_ = (.inl u_, S1_, 0) ∧ vq_341 m_ t_ nm_ fr_ S0_ u_ S1_) := by
  have hF_ : ai_fr (sx_W vw_341) S0_ S0_ := ai_fr_rf
  have bx1_ : 0 ≤ S0_.1 13 0 29 ∧ S0_.1 13 0 29 ≤ 16 := hI_.1 13 0 29 rfl
  refine sm_T_go 5 (c1 := (9, [some (.inr (.inr (some (13, 0)))), some (.inl m_), some (.inl t_), some (.inl nm_)], [.inl m_, .inl (S0_.1 13 0 29), .inr (.inr (some (146, 0)))], S0_)) rfl ?_
  refine sm_T_iast (n := 16) rfl rfl (by omega) (by omega) ?_
  have hIx2_ : gi (sm_aI S0_ 146 0 (S0_.1 13 0 29).toNat m_) := gi_aI hI_ (show 0 ≤ m_ ∧ m_ ≤ 15 from ⟨by omega, by omega⟩)
  have hFx3_ : ai_fr (sx_W vw_341) S0_ (sm_aI S0_ 146 0 (S0_.1 13 0 29).toNat m_) := ai_fr_tr hF_ (ai_fr_aI rfl)
  refine sm_T_go 5 (c1 := (19, [some (.inr (.inr (some (13, 0)))), some (.inl m_), some (.inl t_), some (.inl nm_)], [.inl t_, .inl (S0_.1 13 0 29), .inr (.inr (some (147, 0)))], sm_aI S0_ 146 0 (S0_.1 13 0 29).toNat m_)) rfl ?_
  refine sm_T_iast (n := 16) rfl rfl (by omega) (by omega) ?_
  have hIx4_ : gi (sm_aI (sm_aI S0_ 146 0 (S0_.1 13 0 29).toNat m_) 147 0 (S0_.1 13 0 29).toNat t_) := gi_aI hIx2_ (show 0 ≤ t_ ∧ t_ ≤ 1280 from ⟨by omega, by omega⟩)
  have hFx5_ : ai_fr (sx_W vw_341) S0_ (sm_aI (sm_aI S0_ 146 0 (S0_.1 13 0 29).toNat m_) 147 0 (S0_.1 13 0 29).toNat t_) := ai_fr_tr hFx3_ (ai_fr_aI rfl)
  refine sm_T_go 5 (c1 := (29, [some (.inr (.inr (some (13, 0)))), some (.inl m_), some (.inl t_), some (.inl nm_)], [.inl nm_, .inl (S0_.1 13 0 29), .inr (.inr (some (148, 0)))], sm_aI (sm_aI S0_ 146 0 (S0_.1 13 0 29).toNat m_) 147 0 (S0_.1 13 0 29).toNat t_)) rfl ?_
  refine sm_T_iast (n := 16) rfl rfl (by omega) (by omega) ?_
  have hIx6_ : gi (sm_aI (sm_aI (sm_aI S0_ 146 0 (S0_.1 13 0 29).toNat m_) 147 0 (S0_.1 13 0 29).toNat t_) 148 0 (S0_.1 13 0 29).toNat nm_) := gi_aI hIx4_ (show 0 ≤ nm_ ∧ nm_ ≤ 639 from ⟨by omega, by omega⟩)
  have hFx7_ : ai_fr (sx_W vw_341) S0_ (sm_aI (sm_aI (sm_aI S0_ 146 0 (S0_.1 13 0 29).toNat m_) 147 0 (S0_.1 13 0 29).toNat t_) 148 0 (S0_.1 13 0 29).toNat nm_) := ai_fr_tr hFx5_ (ai_fr_aI rfl)
  refine sm_T_go 5 (c1 := (39, [some (.inr (.inr (some (13, 0)))), some (.inl m_), some (.inl t_), some (.inl nm_)], [.inl 0, .inl (S0_.1 13 0 29), .inr (.inr (some (149, 0)))], sm_aI (sm_aI (sm_aI S0_ 146 0 (S0_.1 13 0 29).toNat m_) 147 0 (S0_.1 13 0 29).toNat t_) 148 0 (S0_.1 13 0 29).toNat nm_)) rfl ?_
  refine sm_T_iast (n := 16) rfl rfl (by omega) (by omega) ?_
  have hIx8_ : gi (sm_aI (sm_aI (sm_aI (sm_aI S0_ 146 0 (S0_.1 13 0 29).toNat m_) 147 0 (S0_.1 13 0 29).toNat t_) 148 0 (S0_.1 13 0 29).toNat nm_) 149 0 (S0_.1 13 0 29).toNat 0) := gi_aI hIx6_ (show 0 ≤ 0 ∧ 0 ≤ 40 from ⟨by omega, by omega⟩)
  have hFx9_ : ai_fr (sx_W vw_341) S0_ (sm_aI (sm_aI (sm_aI (sm_aI S0_ 146 0 (S0_.1 13 0 29).toNat m_) 147 0 (S0_.1 13 0 29).toNat t_) 148 0 (S0_.1 13 0 29).toNat nm_) 149 0 (S0_.1 13 0 29).toNat 0) := ai_fr_tr hFx7_ (ai_fr_aI rfl)
  have hIx10_ : gi (sm_pI (sm_aI (sm_aI (sm_aI (sm_aI S0_ 146 0 (S0_.1 13 0 29).toNat m_) 147 0 (S0_.1 13 0 29).toNat t_) 148 0 (S0_.1 13 0 29).toNat nm_) 149 0 (S0_.1 13 0 29).toNat 0) 13 0 28 m_) := gi_pI hIx8_ (show 0 ≤ m_ ∧ m_ ≤ 15 from ⟨by omega, by omega⟩)
  have hFx11_ : ai_fr (sx_W vw_341) S0_ (sm_pI (sm_aI (sm_aI (sm_aI (sm_aI S0_ 146 0 (S0_.1 13 0 29).toNat m_) 147 0 (S0_.1 13 0 29).toNat t_) 148 0 (S0_.1 13 0 29).toNat nm_) 149 0 (S0_.1 13 0 29).toNat 0) 13 0 28 m_) := ai_fr_tr hFx9_ (ai_fr_pI rfl)
  refine sm_T_go 7 (c1 := (51, [some (.inr (.inr (some (13, 0)))), some (.inl m_), some (.inl t_), some (.inl nm_)], [.inl m_, .inr (.inr (some (125, 0))), .inr (.inr (some (13, 0)))], sm_pI (sm_aI (sm_aI (sm_aI (sm_aI S0_ 146 0 (S0_.1 13 0 29).toNat m_) 147 0 (S0_.1 13 0 29).toNat t_) 148 0 (S0_.1 13 0 29).toNat nm_) 149 0 (S0_.1 13 0 29).toNat 0) 13 0 28 m_)) rfl ?_
  refine sm_T_iald (n := 16) rfl rfl (by omega) (by omega) ?_
  have bx12_ : 0 ≤ S0_.2.2.1 125 0 m_.toNat ∧ S0_.2.2.1 125 0 m_.toNat ≤ 1280 := hI_.2 125 0 _
  have hIx13_ : gi (sm_pI (sm_pI (sm_aI (sm_aI (sm_aI (sm_aI S0_ 146 0 (S0_.1 13 0 29).toNat m_) 147 0 (S0_.1 13 0 29).toNat t_) 148 0 (S0_.1 13 0 29).toNat nm_) 149 0 (S0_.1 13 0 29).toNat 0) 13 0 28 m_) 13 0 9 (S0_.2.2.1 125 0 m_.toNat)) := gi_pI hIx10_ (show 0 ≤ (S0_.2.2.1 125 0 m_.toNat) ∧ (S0_.2.2.1 125 0 m_.toNat) ≤ 1280 from ⟨by omega, by omega⟩)
  have hFx14_ : ai_fr (sx_W vw_341) S0_ (sm_pI (sm_pI (sm_aI (sm_aI (sm_aI (sm_aI S0_ 146 0 (S0_.1 13 0 29).toNat m_) 147 0 (S0_.1 13 0 29).toNat t_) 148 0 (S0_.1 13 0 29).toNat nm_) 149 0 (S0_.1 13 0 29).toNat 0) 13 0 28 m_) 13 0 9 (S0_.2.2.1 125 0 m_.toNat)) := ai_fr_tr hFx11_ (ai_fr_pI rfl)
  refine sm_T_go 1 (c1 := (55, [some (.inr (.inr (some (13, 0)))), some (.inl m_), some (.inl t_), some (.inl nm_)], [], sm_pI (sm_pI (sm_aI (sm_aI (sm_aI (sm_aI S0_ 146 0 (S0_.1 13 0 29).toNat m_) 147 0 (S0_.1 13 0 29).toNat t_) 148 0 (S0_.1 13 0 29).toNat nm_) 149 0 (S0_.1 13 0 29).toNat 0) 13 0 28 m_) 13 0 9 (S0_.2.2.1 125 0 m_.toNat))) rfl ?_
  refine sm_T_rv rfl ⟨_, _, rfl, rfl, hIx13_, hFx14_, ?_⟩
  have e9_ : (S0_.1 13 0 29).toNat = fr_ := by omega
  refine ⟨fun j_ => ?_, fun j_ => ?_, fun j_ => ?_, fun j_ => ?_, ?_, ?_⟩
  · (try simp only [rd_eq, rd_ne, rf_eq, rf_nk, rf_nt, rd_fa, rd_af, rd_fl, rd_al, rd_lf, rd_la, rd_leq, rd_lne, rd_fr, rd_ar, ne_eq, Nat.reduceEqDiff, not_false_eq_true]); rw [e9_]
  · (try simp only [rd_eq, rd_ne, rf_eq, rf_nk, rf_nt, rd_fa, rd_af, rd_fl, rd_al, rd_lf, rd_la, rd_leq, rd_lne, rd_fr, rd_ar, ne_eq, Nat.reduceEqDiff, not_false_eq_true]); rw [e9_]
  · (try simp only [rd_eq, rd_ne, rf_eq, rf_nk, rf_nt, rd_fa, rd_af, rd_fl, rd_al, rd_lf, rd_la, rd_leq, rd_lne, rd_fr, rd_ar, ne_eq, Nat.reduceEqDiff, not_false_eq_true]); rw [e9_]
  · (try simp only [rd_eq, rd_ne, rf_eq, rf_nk, rf_nt, rd_fa, rd_af, rd_fl, rd_al, rd_lf, rd_la, rd_leq, rd_lne, rd_fr, rd_ar, ne_eq, Nat.reduceEqDiff, not_false_eq_true]); rw [e9_]
  · (try simp only [rd_eq, rd_ne, rf_eq, rf_nk, rf_nt, rd_fa, rd_af, rd_fl, rd_al, rd_lf, rd_la, rd_leq, rd_lne, rd_fr, rd_ar, ne_eq, Nat.reduceEqDiff, not_false_eq_true])
  · (try simp only [rd_eq, rd_ne, rf_eq, rf_nk, rf_nt, rd_fa, rd_af, rd_fl, rd_al, rd_lf, rd_la, rd_leq, rd_lne, rd_fr, rd_ar, ne_eq, Nat.reduceEqDiff, not_false_eq_true])
