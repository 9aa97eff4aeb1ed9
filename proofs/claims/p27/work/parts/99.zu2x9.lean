/-! a design mapped: the class, with the table; written by wip/p55/gen/vg -/

theorem kctb_fr {w_ : sx_Wl} {cc_ : Nat} {S_ S'_ : sm_S} (h_ : kctb cc_ S_) (f_ : ai_fr (sx_W w_) S_ S'_) (h1_ : (sx_W w_).2.1 35 = false := by rfl) (h2_ : (sx_W w_).2.1 36 = false := by rfl) (h3_ : (sx_W w_).2.1 55 = false := by rfl) (h4_ : (sx_W w_).2.1 56 = false := by rfl) (h5_ : (sx_W w_).1 2 3 = false := by rfl) (h6_ : (sx_W w_).1 2 1 = false := by rfl) (h7_ : (sx_W w_).1 2 2 = false := by rfl) (h8_ : (sx_W w_).1 2 8 = false := by rfl) (h9_ : (sx_W w_).2.1 34 = false := by rfl) (ha_ : (sx_W w_).2.1 37 = false := by rfl) (hb_ : (sx_W w_).2.1 38 = false := by rfl) : kctb cc_ S'_ := by
  have k_ := kcX_fr (cc_ := cc_) f_ h1_ h2_ h3_ h4_
  unfold kctb
  rw [k_.1, k_.2.1, k_.2.2, f_.1 2 cc_ 3 h5_, f_.1 2 cc_ 1 h6_, f_.1 2 cc_ 2 h7_, f_.1 2 cc_ 8 h8_, fr_arr (t := 34) (i := 0 + cc_) f_ h9_, fr_arr (t := 37) (i := 0 + cc_) f_ ha_, fr_arr (t := 38) (i := 0 + cc_) f_ hb_]
  exact h_
/-- what map_ does to_ tables and stamps -/
def mpt (cc_ : Nat) (S0_ S1_ : sm_S) : Prop := (S1_.1 2 cc_ 0 = 0 ∧ (S1_.1 2 cc_ 19 = S0_.1 2 cc_ 19 ∨ S1_.1 2 cc_ 19 = S0_.1 2 cc_ 19 + 1) ∧ S1_.2.1 9 0 0 = S0_.2.1 9 0 0 ∧ S1_.1 9 0 1 = S0_.1 9 0 1) ∨ (tsf cc_ S1_ ∧ S1_.1 2 cc_ 19 = S0_.1 2 cc_ 19 + 1)
/-! ChipFlow.map -/
def vw_230m : sx_Wl := ([(0, 1), (0, 11), (0, 16), (2, 0), (2, 1), (2, 2), (2, 3), (2, 4), (2, 5), (2, 8), (2, 14), (2, 15), (2, 19), (4, 0), (5, 1), (5, 2), (6, 11), (6, 13), (9, 1), (9, 2), (9, 3)], [16, 17, 18, 19, 20, 21, 34, 35, 36, 37, 38, 39, 55, 56, 57, 58, 59, 60, 61, 62, 63, 64, 65, 66, 67, 68, 69, 70, 71, 72, 73, 92, 93, 94, 96], [(6, 0), (6, 1), (9, 0)])
def vq_230m (aa_ : Int) (lb_ : Int) (S0_ : sm_S) (u_ : Option sm_V) (S1_ : sm_S) : Prop := ∃ v_ : Int, u_ = some (.inl v_) ∧ gi S1_ ∧ ai_fr (sx_W vw_230m) S0_ S1_ ∧ (jC S1_ ∧ lbs S0_ S1_ ∧ oka_map aa_ lb_ S0_ ∧ ∃ cc_ F_ : Nat, mpt cc_ S0_ S1_ ∧ fch cc_ S0_ ∧ mpc aa_.toNat F_ lb_.toNat cc_ S0_ S1_ v_)
def vx_230m (aa_ : Int) (lb_ : Int) (S0_ : sm_S) (ex_ : Nat) (S1_ : sm_S) : Prop := gi S1_ ∧ ai_fr (sx_W vw_230m) S0_ S1_ ∧ (S1_ = S0_ ∧ ((ex_ = 0 ∧ ¬ oka_map aa_ lb_ S0_) ∨ (ex_ = 3 ∧ oka_map aa_ lb_ S0_ ∧ ¬ ∃ c_ : Nat, fch c_ S0_)))
set_option maxHeartbeats 400000 in
theorem vc_230m {sc_ : Nat × (Nat → Int)} (aa_ : Int) (lb_ : Int) (S0_ : sm_S) (hI_ : gi S0_) (hJ_ : jC S0_) (hts_ : ∀ c9_ : Nat, c9_ < 4 → tsk c9_ S0_) (hsw : imq (0 ≤ aa_ ∧ aa_ < 6 ∧ S0_.1 3 aa_.toNat 0 = 1) (swd (1 + S0_.1 3 aa_.toNat 1 + S0_.1 3 aa_.toNat 2).toNat (S0_.1 3 aa_.toNat 4).toNat (S0_.2.2.1 42 (0 + aa_.toNat)) (S0_.2.2.1 43 (0 + aa_.toNat)) (S0_.2.2.1 44 (0 + aa_.toNat)))) : sm_T (mt_P sc_) 7 230 (0, [some (.inr (.inr (some (12, 0)))), some (.inl aa_), some (.inl lb_), none, none, none, none], [], S0_) (fun ro9_ => (∃ u_ S1_, ro9_ = (.inl u_, S1_, 0) ∧ vq_230m aa_ lb_ S0_ u_ S1_) ∨ ∃ ex_ S1_, ro9_ = (.inr ex_, S1_, 1) ∧ ex_ ∈ ([0, 3] : List Nat) ∧ vx_230m aa_ lb_ S0_ ex_ S1_) := by
  have hF_ : ai_fr (sx_W vw_230m) S0_ S0_ := ai_fr_rf
  refine sm_T_go 2 (c1 := (2, [some (.inr (.inr (some (12, 0)))), some (.inl aa_), some (.inl lb_), none, none, none, none], [.inl aa_, .inr (.inr (some (12, 0)))], S0_)) rfl ?_
  refine sm_T_cale (d1_ := 1) (Q1_ := vq_270t aa_ S0_) (Q2_ := (fun ex_ S1_ => ex_ ∈ ([0] : List Nat) ∧ vx_270t aa_ S0_ S1_)) rfl rfl (by decide) (vc_270t aa_ S0_ hI_ ) rfl (fun xx6_ Sx1_ px4_ => ?_) (fun u_ Sx1_ px4_ => ?_)
  · obtain ⟨px4m, hIx2_, hFx3_, px4_⟩ := px4_
    refine Or.inr ⟨_, _, rfl, by first | exact px4m | (simp only [List.mem_cons, List.not_mem_nil, or_false] at px4m ⊢; omega), hIx2_, ai_fr_tr hF_ (fr_le hFx3_ rfl), ?_⟩
    exact ⟨px4_.1, Or.inl ⟨List.mem_singleton.mp px4m, fun y9_ => px4_.2 y9_.1⟩⟩
  obtain ⟨rfl, -, -, rfl, px4_⟩ := px4_
  have d1_ := px4_
  have k1_ := hJ_.1 aa_.toNat (by omega) d1_.2
  have b1_ := dOk_b k1_
  have x1_ := b1_.1
  have y1_ := b1_.2.1
  obtain ⟨F9_, hg9_, hr9_, hs9_, -⟩ := hJ_.1 aa_.toNat (by omega) d1_.2
  refine sm_T_go 3 (c1 := (8, [some (.inr (.inr (some (12, 0)))), some (.inl aa_), some (.inl lb_), some (.inr (.inr (some (3, aa_.toNat)))), none, none, none], [.inl lb_, .inr (.inr (some (12, 0)))], S0_)) rfl ?_
  refine sm_T_cale (d1_ := 1) (Q1_ := vq_271t lb_ S0_) (Q2_ := (fun ex_ S1_ => ex_ ∈ ([0] : List Nat) ∧ vx_271t lb_ S0_ S1_)) rfl rfl (by decide) (vc_271t lb_ S0_ hI_ ) rfl (fun xx12_ Sx7_ px10_ => ?_) (fun u_ Sx7_ px10_ => ?_)
  · obtain ⟨px10m, hIx8_, hFx9_, px10_⟩ := px10_
    refine Or.inr ⟨_, _, rfl, by first | exact px10m | (simp only [List.mem_cons, List.not_mem_nil, or_false] at px10m ⊢; omega), hIx8_, ai_fr_tr hF_ (fr_le hFx9_ rfl), ?_⟩
    exact ⟨px10_.1, Or.inl ⟨List.mem_singleton.mp px10m, fun y9_ => px10_.2 y9_.2⟩⟩
  obtain ⟨rfl, -, -, rfl, px10_⟩ := px10_
  have l8_ := px10_
  refine sm_T_go 2 (c1 := (14, [some (.inr (.inr (some (12, 0)))), some (.inl aa_), some (.inl lb_), some (.inr (.inr (some (3, aa_.toNat)))), some (.inr (.inr (some (5, lb_.toNat)))), none, none], [.inr (.inr (some (12, 0)))], S0_)) rfl ?_
  refine sm_T_cal (d1 := 0) (Q1 := vq_275n  S0_) rfl rfl (by decide) (vc_275n  S0_ hI_ ) (fun u_ Sx13_ px16_ => ?_)
  obtain ⟨rfl, vx18_, rfl, px16_⟩ := px16_
  have g14_ := px16_
  have FR14_ : imq (vx18_ ≠ -1) (fch (vx18_).toNat S0_) := fun z9_ => by (rcases px16_ with y9_ | ⟨u9_, y1_, y2_, y3_, y4_⟩; exact absurd y9_.1 z9_; (rw [y1_]; exact ⟨y2_, y3_, y4_⟩))
  have f14_ : vx18_ = -1 ∨ (0 ≤ vx18_ ∧ vx18_ < 4 ∧ S0_.1 2 (vx18_).toNat 0 = 0) := by (rcases px16_ with y9_ | ⟨u9_, y1_, y2_, y3_, y4_⟩; exact Or.inl y9_.1; (right; rw [y1_]; exact ⟨by omega, by omega, y3_⟩))
  refine sm_T_go 3 (c1 := (22, [some (.inr (.inr (some (12, 0)))), some (.inl aa_), some (.inl lb_), some (.inr (.inr (some (3, aa_.toNat)))), some (.inr (.inr (some (5, lb_.toNat)))), some (.inl vx18_), none], [.inl (-1), .inl vx18_], S0_)) rfl ?_
  refine sm_T_br (a := 0) (z := 7) rfl (fun cx19_ => ?_) (fun cx19_ => ?_)
  · have cx19_ : vx18_ = (-1) := of_decide_eq_true cx19_
    refine sm_T_go 1 (c1 := (30, [some (.inr (.inr (some (12, 0)))), some (.inl aa_), some (.inl lb_), some (.inr (.inr (some (3, aa_.toNat)))), some (.inr (.inr (some (5, lb_.toNat)))), some (.inl vx18_), none], [.inl 0], S0_)) rfl ?_
    refine sm_T_cale (d1_ := 0) (Q1_ := vq_268e 0 S0_) (Q2_ := (fun ex_ S1_ => ex_ ∈ ([3] : List Nat) ∧ vx_268e 0 S0_ S1_)) rfl rfl (by decide) (vc_268e 0 S0_ hI_ ) rfl (fun xx25_ Sx20_ px23_ => ?_) (fun u_ Sx20_ px23_ => ?_)
    · obtain ⟨px23m, hIx21_, hFx22_, px23_⟩ := px23_
      refine Or.inr ⟨_, _, rfl, by first | exact px23m | (simp only [List.mem_cons, List.not_mem_nil, or_false] at px23m ⊢; omega), hIx21_, ai_fr_tr hF_ (fr_le hFx22_ rfl), ?_⟩
      exact ⟨px23_.2, Or.inr ⟨List.mem_singleton.mp px23m, by (unfold oka_map; omega), fun ⟨c9_, k1x, k2x, k3x⟩ => by (rcases g14_ with y9_ | ⟨u9_, y1_, y2_, y3_, y4_⟩; (have z9_ := y9_.2 c9_ k1x; omega); omega)⟩⟩
    · exact absurd rfl px23_.2.2.2.1
  · have cx19_ : ¬ (vx18_ = (-1)) := of_decide_eq_false cx19_
    refine sm_T_go 2 (c1 := (30, [some (.inr (.inr (some (12, 0)))), some (.inl aa_), some (.inl lb_), some (.inr (.inr (some (3, aa_.toNat)))), some (.inr (.inr (some (5, lb_.toNat)))), some (.inl vx18_), none], [.inl 1], S0_)) rfl ?_
    refine sm_T_cale (d1_ := 0) (Q1_ := vq_268e 1 S0_) (Q2_ := (fun ex_ S1_ => ex_ ∈ ([3] : List Nat) ∧ vx_268e 1 S0_ S1_)) rfl rfl (by decide) (vc_268e 1 S0_ hI_ ) rfl (fun xx31_ Sx26_ px29_ => ?_) (fun u_ Sx26_ px29_ => ?_)
    · exact absurd px29_.2.2.2.1 (by decide)
    obtain ⟨rfl, -, -, px29_, rfl⟩ := px29_
    refine sm_T_go 7 (c1 := (46, [some (.inr (.inr (some (12, 0)))), some (.inl aa_), some (.inl lb_), some (.inr (.inr (some (3, aa_.toNat)))), some (.inr (.inr (some (5, lb_.toNat)))), some (.inl vx18_), none], [.inl vx18_, .inr (.inr (some (112, 0))), .inr (.inr (some (5, lb_.toNat))), .inr (.inr (some (3, aa_.toNat))), .inr (.inr (some (6, 0)))], S0_)) rfl ?_
    refine sm_T_aald (t0 := 6) (n := 4) rfl rfl (by omega) (by omega) ?_
    refine sm_T_cal (d1 := 6) (Q1 := vq_91m aa_.toNat lb_.toNat vx18_.toNat F9_ S0_) rfl rfl (by decide) (vc_91m aa_.toNat lb_.toNat vx18_.toNat F9_ S0_ hI_ (by exact (hts_ _ (by omega)).1) (by (have z9_ := hsw (by omega); have g91_ := hg9_.1; have g92_ := hg9_.2.1; rw [show (1 + S0_.1 3 aa_.toNat 1 + S0_.1 3 aa_.toNat 2).toNat = F9_ by omega] at z9_; exact z9_)) (by exact k1_) (by exact hg9_) (by exact hr9_) (by exact hs9_) (by omega)) (fun u_ Sx32_ px35_ => ?_)
    obtain ⟨vx37_, rfl, hIx33_, hFx34_, px35_⟩ := px35_
    have hFx36_ : ai_fr (sx_W vw_230m) S0_ Sx32_ := ai_fr_tr hF_ (fr_le hFx34_ rfl)
    obtain ⟨dx38_, px35_⟩ := px35_
    have c47_ := dx38_
    have s47_ := (px35_).1
    have t47a := hFx34_.2.1 9 0 0 rfl
    have t47b := hFx34_.1 9 0 1 rfl
    have p47_ := (px35_).2.1
    have L47_ := (px35_).2.2.1
    have BC47_ := (px35_).2.2.2.1
    have BV47_ := (px35_).2.2.2.2.1
    have PC47_ := bpc_of (px35_).2.2.2.2.2 (hFx34_.1 3 aa_.toNat 3 rfl) (hFx34_.1 3 aa_.toNat 2 rfl)
    have i47_ := hIx33_
    have g91_ := hg9_.1
    have g92_ := hg9_.2.1
    have z47_ := hFx34_.1 3 aa_.toNat 1 rfl
    have y47_ := hFx34_.1 3 aa_.toNat 2 rfl
    have x47_ := hFx34_.1 3 aa_.toNat 3 rfl
    have w47_ := hFx34_.1 3 aa_.toNat 5 rfl
    have u470_ := FR14_ (by omega)
    have u47_ := fun q9_ => hFx34_.1 2 q9_ 0 rfl
    refine sm_T_go 2 (c1 := (54, [some (.inr (.inr (some (12, 0)))), some (.inl aa_), some (.inl lb_), some (.inr (.inr (some (3, aa_.toNat)))), some (.inr (.inr (some (5, lb_.toNat)))), some (.inl vx18_), some (.inl vx37_)], [.inl vx37_], Sx32_)) rfl ?_
    refine sm_T_b0 (a := 0) (z := 6) rfl (fun cx39_ => ?_) (fun cx39_ => ?_)
    · have cx39_ : vx37_ = 0 := of_decide_eq_true cx39_
      have p46_ := p47_.resolve_right (by omega)
      have e1_ := p46_.2.1.1
      have e2_ := p46_.2.1.2.1
      refine sm_T_go 5 (c1 := (70, [some (.inr (.inr (some (12, 0)))), some (.inl aa_), some (.inl lb_), some (.inr (.inr (some (3, aa_.toNat)))), some (.inr (.inr (some (5, lb_.toNat)))), some (.inl vx18_), some (.inl vx37_)], [.inl vx18_, .inr (.inr (some (112, 0))), .inr (.inr (some (9, 0)))], Sx32_)) rfl ?_
      refine sm_T_aald (t0 := 6) (n := 4) rfl rfl (by omega) (by omega) ?_
      refine sm_T_cal (d1 := 4) (Q1 := vq_169n vx18_.toNat Sx32_) rfl rfl (by decide) (vc_169n vx18_.toNat Sx32_ hIx33_ (by omega) (by (intro z9_; have y9_ := (hts_ _ u470_.1).2 (t47a.symm.trans z9_); have x9_ := s47_.2 (by omega); omega))) (fun u_ Sx40_ px43_ => ?_)
      obtain ⟨rfl, hIx41_, hFx42_, px43_⟩ := px43_
      have hFx44_ : ai_fr (sx_W vw_230m) S0_ Sx40_ := ai_fr_tr hFx36_ (fr_le hFx42_ rfl)
      obtain ⟨dx45_, px43_⟩ := px43_
      have c71_ := dx45_
      have p71_ := (px43_).1
      have k71_ := (px43_).2
      have l71_ := fun q9_ => hFx42_.1 2 q9_ 19 rfl
      have g71_ := hFx42_
      refine sm_T_go 3 (c1 := (80, [some (.inr (.inr (some (12, 0)))), some (.inl aa_), some (.inl lb_), some (.inr (.inr (some (3, aa_.toNat)))), some (.inr (.inr (some (5, lb_.toNat)))), some (.inl vx18_), some (.inl vx37_)], [.inl vx18_, .inr (.inr (some (112, 0)))], Sx40_)) rfl ?_
      refine sm_T_aald (t0 := 6) (n := 4) rfl rfl (by omega) (by omega) ?_
      have hIx46_ : gi (sm_pI Sx40_ 2 vx18_.toNat 0 1) := gi_pI hIx41_ (show 0 ≤ 1 ∧ 1 ≤ 1 from ⟨by omega, by omega⟩)
      have hFx47_ : ai_fr (sx_W vw_230m) S0_ (sm_pI Sx40_ 2 vx18_.toNat 0 1) := ai_fr_tr hFx44_ (ai_fr_pI rfl)
      refine sm_T_go 3 (c1 := (87, [some (.inr (.inr (some (12, 0)))), some (.inl aa_), some (.inl lb_), some (.inr (.inr (some (3, aa_.toNat)))), some (.inr (.inr (some (5, lb_.toNat)))), some (.inl vx18_), some (.inl vx37_)], [.inl vx18_], sm_pI Sx40_ 2 vx18_.toNat 0 1)) rfl ?_
      refine sm_T_ri rfl (Or.inl ⟨_, _, rfl, _, rfl, hIx46_, hFx47_, ?_⟩)
      have CD87_ : cdf _ S0_ ((sm_pI Sx40_ 2 vx18_.toNat 0 1)) := cdf_pI (cdf_tr c47_ c71_) (Or.inr (by rw [cof_0 (by decide) (by decide)]; omega))
      have G87_ : ai_fr (sx_W w87) _ ((sm_pI Sx40_ 2 vx18_.toNat 0 1)) := ai_fr_tr (fr_le g71_ rfl) (ai_fr_pI rfl)
      have B87_ := bcm_fr BC47_ G87_
      have K87_ : ai_fr (sx_W ([(2, 0)], [], [])) _ ((sm_pI Sx40_ 2 vx18_.toNat 0 1)) := ai_fr_pI rfl
      refine ⟨?_, cdf_lb CD87_, by (unfold oka_map; omega), _, F9_, Or.inr ⟨⟨kctb_fr k71_.2.2 K87_, (K87_.2.1 9 0 0 rfl).trans k71_.1.2, ((K87_.1 9 0 1 rfl).trans k71_.1.1).trans ((K87_.1 2 _ 19 rfl).trans (l71_ _)).symm⟩, ((K87_.1 2 _ 19 rfl).trans (l71_ _)).trans (s47_.2 (by omega))⟩, u470_, ⟨by (have a9_ := G87_.1 3 aa_.toNat 1 rfl; have b9_ := G87_.1 3 aa_.toNat 2 rfl; omega), B87_.1, bvw_cg BV47_ (G87_.1 5 lb_.toNat 1 rfl) (fr_arr G87_ rfl) (fr_arr G87_ rfl) (fr_arr G87_ rfl)⟩, CD87_, _, bpc_fr BC47_ PC47_ G87_ (fun k9_ => (i47_.2 55 _ k9_).2), Or.inr ⟨by omega, by omega, rf_eq, ?_, ?_⟩⟩
      rotate_left
      · have z9_ := L47_ (by omega)
        unfold clc at z9_ ⊢
        rw [G87_.1 5 _ 1 rfl, G87_.1 5 _ 2 rfl, G87_.1 5 lb_.toNat 1 rfl, G87_.1 5 lb_.toNat 2 rfl, fr_arr (t := 55) (i := 0 + (3 + _)) G87_ rfl, fr_arr (t := 56) (i := 0 + (3 + _)) G87_ rfl, fr_arr (t := 57) (i := 0 + (3 + _)) G87_ rfl, fr_arr (t := 58) (i := 0 + (3 + _)) G87_ rfl, fr_arr (t := 55) (i := 0 + lb_.toNat) G87_ rfl, fr_arr (t := 56) (i := 0 + lb_.toNat) G87_ rfl, fr_arr (t := 57) (i := 0 + lb_.toNat) G87_ rfl, fr_arr (t := 58) (i := 0 + lb_.toNat) G87_ rfl]
        exact z9_
      · (try simp only [rd_eq, rd_ne, rf_eq, rf_nk, rf_nt, rd_fa, rd_af, rd_fl, rd_al, rd_lf, rd_la, rd_leq, rd_lne, rd_fr, rd_ar, ne_eq, Nat.reduceEqDiff, not_false_eq_true])
        rw [g71_.1 2 _ 1 rfl, g71_.1 2 _ 2 rfl, g71_.1 2 _ 3 rfl, g71_.1 2 _ 4 rfl, g71_.1 2 _ 5 rfl, g71_.1 3 aa_.toNat 1 rfl, g71_.1 3 aa_.toNat 2 rfl, g71_.1 3 aa_.toNat 3 rfl, g71_.1 3 aa_.toNat 5 rfl, z47_, y47_, x47_, w47_]
        exact p46_.2.1
      exact ⟨dAll_fr hJ_.1 hFx47_ (by decide) (by decide), cAll_cd hJ_.2.1 (cdf_pI (cdf_tr c47_ c71_) (Or.inr (by rw [cof_0 (by decide) (by decide)]; omega))) (fun _ => cOk_us (cOk_nw k1_ p46_.2.1 p46_.2.2.1 p46_.2.2.2.1 p46_.2.2.2.2.1 p46_.2.2.2.2.2.1 g71_ (by decide) (by decide) (by decide) p71_)), tpo_fr hJ_.2.2.1 hFx47_, shn_fr hJ_.2.2.2 hFx47_⟩
    · have cx39_ : ¬ (vx37_ = 0) := of_decide_eq_false cx39_
      refine sm_T_go 1 (c1 := (59, [some (.inr (.inr (some (12, 0)))), some (.inl aa_), some (.inl lb_), some (.inr (.inr (some (3, aa_.toNat)))), some (.inr (.inr (some (5, lb_.toNat)))), some (.inl vx18_), some (.inl vx37_)], [.inl vx37_], Sx32_)) rfl ?_
      refine sm_T_ri rfl (Or.inl ⟨_, _, rfl, _, rfl, hIx33_, hFx36_, ?_⟩)
      refine ⟨?_, cdf_lb c47_, by (unfold oka_map; omega), _, F9_, Or.inl ⟨by (rw [u47_]; exact u470_.2.1), s47_.1, t47a, t47b⟩, u470_, ⟨by omega, BC47_, BV47_⟩, c47_, _, PC47_, Or.inl ⟨by omega, rfl, by (rw [u47_]; exact u470_.2.1)⟩⟩
      exact ⟨dAll_fr hJ_.1 hFx36_ (by decide) (by decide), cAll_cd hJ_.2.1 c47_ (fun q9_ => absurd (u470_.2.1.symm.trans ((u47_ _).symm.trans q9_)) (by decide)), tpo_fr hJ_.2.2.1 hFx36_, shn_fr hJ_.2.2.2 hFx36_⟩
