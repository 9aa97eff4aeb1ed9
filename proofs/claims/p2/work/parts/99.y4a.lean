/-! the reference: operators; written by wip/p55/gen/vg -/
/-! M_.hold -/
def vw_311 : sx_Wl := ([(13, 32)], [136, 137], [])
def vq_311 (s_ : Int) (t_ : Int) (l_ : List (Int × Int)) (S0_ : sm_S) (u_ : Option sm_V) (S1_ : sm_S) : Prop := u_ = none ∧ gi S1_ ∧ ai_fr (sx_W vw_311) S0_ S1_ ∧ (ws ((s_, t_) :: l_) S1_)
set_option maxHeartbeats 400000 in
theorem vc_311 {sc_ : Nat × (Nat → Int)} (s_ : Int) (t_ : Int) (l_ : List (Int × Int)) (S0_ : sm_S) (hI_ : gi S0_) (hw_ : ws l_ S0_) (hl_ : l_.length ≤ 1000) (ht_ : 0 ≤ t_ ∧ t_ ≤ 1280) (hs_ : 0 ≤ s_ ∧ s_ ≤ 1000) : sm_T (mt_P sc_) 0 311 (0, [some (.inr (.inr (some (13, 0)))), some (.inl s_), some (.inl t_)], [], S0_) (fun r_ => ∃ u_ S1_, r_ = (.inl u_, S1_, 0) ∧ vq_311 s_ t_ l_ S0_ u_ S1_) := by
  have hF_ : ai_fr (sx_W vw_311) S0_ S0_ := ai_fr_rf
  obtain ⟨x1_, x2_, x3_⟩ := id hw_
  have e1_ : (S0_.1 13 0 32).toNat = (l_.map fun x_ => x_.1).length := by rw [List.length_map]; omega
  have e2_ : (S0_.1 13 0 32).toNat = (l_.map fun x_ => x_.2).length := by rw [List.length_map]; omega
  have bx1_ : 0 ≤ S0_.1 13 0 32 ∧ S0_.1 13 0 32 ≤ 1023 := hI_.1 13 0 32 rfl
  refine sm_T_go 5 (c1 := (9, [some (.inr (.inr (some (13, 0)))), some (.inl s_), some (.inl t_)], [.inl s_, .inl (S0_.1 13 0 32), .inr (.inr (some (136, 0)))], S0_)) rfl ?_
  refine sm_T_iast (n := 1024) rfl rfl (by omega) (by omega) ?_
  have hIx2_ : gi (sm_aI S0_ 136 0 (S0_.1 13 0 32).toNat s_) := gi_aI hI_ (show (-2147483648) ≤ s_ ∧ s_ ≤ 2147483647 from ⟨by omega, by omega⟩)
  have hFx3_ : ai_fr (sx_W vw_311) S0_ (sm_aI S0_ 136 0 (S0_.1 13 0 32).toNat s_) := ai_fr_tr hF_ (ai_fr_aI rfl)
  refine sm_T_go 5 (c1 := (19, [some (.inr (.inr (some (13, 0)))), some (.inl s_), some (.inl t_)], [.inl t_, .inl (S0_.1 13 0 32), .inr (.inr (some (137, 0)))], sm_aI S0_ 136 0 (S0_.1 13 0 32).toNat s_)) rfl ?_
  refine sm_T_iast (n := 1024) rfl rfl (by omega) (by omega) ?_
  have hIx4_ : gi (sm_aI (sm_aI S0_ 136 0 (S0_.1 13 0 32).toNat s_) 137 0 (S0_.1 13 0 32).toNat t_) := gi_aI hIx2_ (show 0 ≤ t_ ∧ t_ ≤ 1280 from ⟨by omega, by omega⟩)
  have hFx5_ : ai_fr (sx_W vw_311) S0_ (sm_aI (sm_aI S0_ 136 0 (S0_.1 13 0 32).toNat s_) 137 0 (S0_.1 13 0 32).toNat t_) := ai_fr_tr hFx3_ (ai_fr_aI rfl)
  refine sm_T_go 4 (c1 := (26, [some (.inr (.inr (some (13, 0)))), some (.inl s_), some (.inl t_)], [.inl 1, .inl (S0_.1 13 0 32), .inr (.inr (some (13, 0)))], sm_aI (sm_aI S0_ 136 0 (S0_.1 13 0 32).toNat s_) 137 0 (S0_.1 13 0 32).toNat t_)) rfl ?_
  refine sm_T_bin (w := (S0_.1 13 0 32) + 1) rfl (bi_add (by omega) (by omega) (by omega)) ?_
  have hIx6_ : gi (sm_pI (sm_aI (sm_aI S0_ 136 0 (S0_.1 13 0 32).toNat s_) 137 0 (S0_.1 13 0 32).toNat t_) 13 0 32 ((S0_.1 13 0 32) + 1)) := gi_pI hIx4_ (show 0 ≤ (S0_.1 13 0 32) + 1 ∧ (S0_.1 13 0 32) + 1 ≤ 1023 from ⟨by omega, by omega⟩)
  have hFx7_ : ai_fr (sx_W vw_311) S0_ (sm_pI (sm_aI (sm_aI S0_ 136 0 (S0_.1 13 0 32).toNat s_) 137 0 (S0_.1 13 0 32).toNat t_) 13 0 32 ((S0_.1 13 0 32) + 1)) := ai_fr_tr hFx5_ (ai_fr_pI rfl)
  refine sm_T_go 1 (c1 := (30, [some (.inr (.inr (some (13, 0)))), some (.inl s_), some (.inl t_)], [], sm_pI (sm_aI (sm_aI S0_ 136 0 (S0_.1 13 0 32).toNat s_) 137 0 (S0_.1 13 0 32).toNat t_) 13 0 32 ((S0_.1 13 0 32) + 1))) rfl ?_
  refine sm_T_rv rfl ⟨_, _, rfl, rfl, hIx6_, hFx7_, ?_⟩
  refine ⟨?_, stk_ot (stk_pu e1_ rfl x2_) (by decide), stk_pu (S_ := sm_aI S0_ 136 0 (S0_.1 13 0 32).toNat s_) e2_ rfl (stk_ot x3_ (by decide))⟩
  (try simp only [rd_eq, rd_ne, rf_eq, rf_nk, rf_nt, rd_fa, rd_af, rd_fl, rd_al, rd_lf, rd_la, rd_leq, rd_lne, rd_fr, rd_ar, ne_eq, Nat.reduceEqDiff, not_false_eq_true])
  simp only [List.length_cons]; push_cast; omega
