/-! M_.expression -/
def vw_321g : sx_Wl := ([(13, 9), (13, 10), (13, 11), (13, 32), (13, 33), (13, 34), (13, 37)], [136, 137, 138, 139, 140, 141, 142, 143], [])
def vq_321g (b_ : Nat → Int) (n_ : Nat) (T_ : Nat) (F_ : Nat) (I_ : Nat) (A_ : pA) (X_ : Nat → gQ → gE → Option (gQ × gE)) (M_ : Nat) (s0_ : gS) (pr_ : pPr) (K_ : Nat) (fr_ : Nat) (p_ : Nat) (r_ : pR) (S0_ : sm_S) (u_ : Option sm_V) (S1_ : sm_S) : Prop := u_ = none ∧ gi S1_ ∧ ai_fr (sx_W vw_321g) S0_ S1_ ∧ (rg b_ n_ T_ (.inr r_.1) S1_ ∧ ∃ G_ v9_, ev F_ I_ A_ X_ M_ s0_ r_.2.2 = some ((G_, s0_.1.2), s0_.2.1, s0_.2.2.1, [v9_]) ∧ h_tp r_.2.1 = (v9_.length : Int) ∧ (1 ≤ v9_.length ∧ v9_.length ≤ 8) ∧ S1_.2.2.1 138 0 0 = (v9_.length : Int) ∧ rgl F_ G_ S1_ ∧ (imq (G_.length ≤ 1001) (rwv (S1_.2.2.1 139 0) 0 v9_)))
set_option maxHeartbeats 3000000 in
theorem vl_321g {sc_ : Nat × (Nat → Int)} (b_ : Nat → Int) (n_ : Nat) (T_ : Nat) (F_ : Nat) (I_ : Nat) (A_ : pA) (X_ : Nat → gQ → gE → Option (gQ × gE)) (M_ : Nat) (s0_ : gS) (pr_ : pPr) (K_ : Nat) (fr_ : Nat) (p_ : Nat) (r_ : pR) (S0_ : sm_S) (ht_ : rtab b_ n_ T_ S0_) (hpr_ : pr_ok b_ n_ pr_) (hmon : ∀ p_ r_, pr_ p_ = .inr r_ → p_pd b_ n_ A_ M_ p_ = .inr r_ ∧ (lx_kd b_ n_ p_ = 1 → p_fn b_ n_ A_ M_ p_ < (K_ : Int))) (hX_ : ∀ d_ q_ e_ z_, X_ d_ q_ e_ = some z_ → q_.1.length ≤ z_.1.1.length) (hen_ : r_e1 b_ n_ T_ A_ M_ fr_ S0_) (hte_ : ten A_ M_ K_ s0_.2.1 s0_.2.2.1) (hev_ : rev fr_ K_ s0_.2.1 s0_.2.2.1 (s0_.1.1.length ≤ 1001) S0_) (hx_ : rg b_ n_ T_ (.inr p_) S0_) (hm1_ : (S0_.1 13 0 27) = 1) (hs0_ : s0_.2.2.2 = [] ∧ rgl F_ s0_.1.1 S0_) (hr_ : p_ex b_ n_ false pr_ [] p_ = .inr r_) : ∀ nn_ : Nat, (∀ (k_ : Int) (S_ : sm_S), gi S_ → ai_fr (sx_W vw_321g) S0_ S_ → (((∃ x_, k_ = (x_.1 : Int) ∧ rzx b_ n_ T_ F_ I_ A_ X_ M_ s0_ x_ S_ ∧ p_xx b_ n_ false pr_ x_ (.inr r_) ∧ (x_.1 = 1 → x_.2.1 = false)) ∨ (k_ = 2 ∧ rz b_ n_ T_ r_.1 F_ I_ A_ X_ M_ s0_ ([], r_.2.1, r_.2.2) S_)) ∧ True) → (r_ms k_ S_) < nn_ → sm_T (mt_P sc_) 8 321 (17, [some (.inr (.inr (some (13, 0)))), some (.inl k_)], [], S_) (fun ro9_ => ∃ u_ S1_, ro9_ = (.inl u_, S1_, 0) ∧ vq_321g b_ n_ T_ F_ I_ A_ X_ M_ s0_ pr_ K_ fr_ p_ r_ S0_ u_ S1_)) := by
  intro nn_
  induction nn_ with
  | zero => exact fun _ _ _ _ _ h_ => absurd h_ (Nat.not_lt_zero _)
  | succ nn_ ih_ =>
    rintro k_ S_ hI_ hF_ ⟨h1_, -⟩ hm_
    have ht1_ := rtab_fr ht_ hF_ rfl rfl rfl rfl rfl
    have hn1_ := ht_.1
    have en1_ : r_e1 b_ n_ T_ A_ M_ fr_ S_ := ⟨hen_.1, (hF_.1 13 0 28 rfl).trans hen_.2.1, ⟨(hF_.1 13 0 29 rfl).trans hen_.2.2.1.1, hen_.2.2.1.2⟩, fun m_ hm_ => re1_fr (hen_.2.2.2 m_ hm_) hF_ rfl rfl rfl rfl rfl rfl⟩
    have hev1_ := rev_fr hev_ hF_ rfl rfl
    have f0_ : S_.1 13 0 10 = 0 := by rcases h1_ with ⟨x_, _, z_, _⟩ | z_; exact z_.1.1.1; exact rz_f z_.2
    refine sm_T_go 1 (c1 := (18, [some (.inr (.inr (some (13, 0)))), some (.inl k_)], [.inr (.inr (some (13, 0)))], S_)) rfl ?_
    refine sm_T_cal (d1 := 0) (Q1 := vq_292  S_) rfl rfl (by decide) (vc_292  S_ hI_ ) (fun u_ Sx1_ px4_ => ?_)
    obtain ⟨rfl, vx6_, rfl, px4_⟩ := px4_
    have e18_ := px4_
    refine sm_T_b0 (a := 0) (z := 36) rfl (fun cx7_ => ?_) (fun cx7_ => ?_)
    · have cx7_ : vx6_ = 0 := of_decide_eq_true cx7_
      exfalso; (rw [if_pos f0_] at e18_; omega)
    · have cx7_ : ¬ (vx6_ = 0) := of_decide_eq_false cx7_
      refine sm_T_go 2 (c1 := (26, [some (.inr (.inr (some (13, 0)))), some (.inl k_)], [.inl 2, .inl k_], S_)) rfl ?_
      refine sm_T_br (a := 3) (z := 31) rfl (fun cx8_ => ?_) (fun cx8_ => ?_)
      · have cx8_ : 2 ≤ k_ := of_decide_eq_true cx8_
        have hf_ : rz b_ n_ T_ r_.1 F_ I_ A_ X_ M_ s0_ ([], r_.2.1, r_.2.2) S_ := by rcases h1_ with ⟨x_, z1_, z2_, z3_⟩ | z_; (exfalso; have z4_ := z2_.2.1.1; omega); exact z_.2
        refine sm_T_rv rfl ⟨_, _, rfl, rfl, hI_, hF_, ?_⟩
        obtain ⟨Gr_, V_, xe_, xm_, xr, xv_⟩ := hf_.2.1
        have q1_ : r_.2.1.length = 0 + 1 := hf_.1.2.2.2.1
        obtain ⟨a9_, g9_, hg9_⟩ := s_ok_1 hf_.1.2
        have hg9_ : r_.2.1 = a9_ :: g9_ := hg9_
        have g0_ : g9_ = [] := List.eq_nil_of_length_eq_zero (by rw [hg9_, List.length_cons] at q1_; omega)
        rw [g0_] at hg9_
        have xm_ : V_.map (fun v_ => (v_.length : Int)) = r_.2.1 := xm_
        rw [hg9_] at xm_
        obtain ⟨v9_, W9_, rfl, lv_, xw_⟩ := mp_c xm_
        have w0_ : W9_ = [] := List.eq_nil_of_length_eq_zero (by have q9_ := congrArg List.length xw_; rw [List.length_map] at q9_; exact q9_)
        subst w0_
        exact ⟨hf_.1.1.1, Gr_, v9_, xe_, by rw [hg9_]; exact lv_.symm, xv_.2.1, xv_.1, xr, xv_.2.2.1⟩
      · have cx8_ : ¬ (2 ≤ k_) := of_decide_eq_false cx8_
        obtain ⟨x_, kx_, xz_, xx_, xt_⟩ : ∃ x_, k_ = (x_.1 : Int) ∧ rzx b_ n_ T_ F_ I_ A_ X_ M_ s0_ x_ S_ ∧ p_xx b_ n_ false pr_ x_ (.inr r_) ∧ (x_.1 = 1 → x_.2.1 = false) := by rcases h1_ with z_ | z_; exact z_; (have z1_ := z_.1; omega)
        obtain ⟨ph_, t1_, p1_, o1_, g1_, c1_⟩ := x_
        have ph1_ : ph_ ≤ 1 := xz_.2.1.1
        refine sm_T_go 1 (c1 := (30, [some (.inr (.inr (some (13, 0)))), some (.inl k_)], [.inl k_], S_)) rfl ?_
        refine sm_T_b0 (a := 1) (z := 18) rfl (fun cx9_ => ?_) (fun cx9_ => ?_)
        · have cx9_ : k_ ≠ 0 := of_decide_eq_true cx9_
          have p1b : ph_ = 1 := by have z9_ : k_ = (ph_ : Int) := kx_; omega
          subst p1b
          have t1f : t1_ = false := xt_ rfl
          subst t1f
          obtain ⟨rs_, hrs_⟩ : ∃ rs_, p_st b_ n_ false pr_ (1, false, p1_, o1_, g1_, c1_) = .inr rs_ := by have z9_ := p_xy xx_; cases hq_ : p_st b_ n_ false pr_ (1, false, p1_, o1_, g1_, c1_) with | inl e_ => (rw [hq_] at z9_; cases z9_) | inr z_ => exact ⟨z_, rfl⟩
          refine sm_T_go 2 (c1 := (50, [some (.inr (.inr (some (13, 0)))), some (.inl k_)], [.inl 0, .inr (.inr (some (13, 0)))], S_)) rfl ?_
          refine sm_T_cal (d1 := 7) (Q1 := vq_320g 0 b_ n_ T_ F_ I_ A_ X_ M_ s0_ pr_ p1_ o1_ g1_ c1_ rs_ S_) rfl rfl (by decide) (vc_320g 0 b_ n_ T_ F_ I_ A_ X_ M_ s0_ pr_ p1_ o1_ g1_ c1_ rs_ S_ hI_ (by rfl) (by exact ht1_) (by exact hpr_) (by exact xz_) (by exact hrs_)) (fun u_ Sx10_ px13_ => ?_)
          obtain ⟨vx15_, rfl, hIx11_, hFx12_, px13_⟩ := px13_
          have hFx14_ : ai_fr (sx_W vw_321g) S0_ Sx10_ := ai_fr_tr hF_ (fr_le hFx12_ rfl)
          have e50_ := px13_
          have t50_ := rtab_fr ht1_ hFx12_ rfl rfl rfl rfl rfl
          have x50_ := p_xy xx_
          rw [hrs_] at x50_
          refine sm_T_go 2 (c1 := (17, [some (.inr (.inr (some (13, 0)))), some (.inl vx15_)], [], Sx10_)) rfl ?_
          refine ih_ vx15_ Sx10_ hIx11_ hFx14_ ⟨?_, trivial⟩ ?_
          · first | (cases rs_ with | inl y_ => (left; have z8_ := x_st hn1_ hpr_ xz_.2.1 hrs_; obtain ⟨a1_, a2_, a3_, a4_, a5_, a6_⟩ := y_; have z7_ : a1_ ≤ 1 := z8_.1; (by_cases z6_ : a1_ = 1); (subst z6_; obtain ⟨⟨q1_, ⟨w_, q2_, q3_⟩, q4_⟩, q5_, q6_⟩ := e50_.1; refine ⟨(1, false, a3_, a4_, a5_, a6_), e50_.2, ⟨⟨q1_, ⟨w_, q2_, ?_⟩, q4_⟩, xo_t q5_, q6_⟩, xx_t x50_, fun _ => rfl⟩; (rcases q3_ with q3_ | q3_; (exact absurd q3_.1 (show ¬ (1 : Nat) = 0 by decide)); (exact Or.inr q3_))); (exact ⟨_, e50_.2, e50_.1, x50_, fun z_ => absurd z_ z6_⟩)) | inr r9_ => (right; have z9_ : (.inr r_ : pE pR) = .inr r9_ := x50_; cases z9_; exact ⟨e50_.2, e50_.1⟩)) | (left; have z8_ := x_st hn1_ hpr_ xz_.2.1 hy1_; obtain ⟨a1_, a2_, a3_, a4_, a5_, a6_⟩ := y1_; have z7_ : a1_ ≤ 1 := z8_.1; have z5_ : _ = (a1_ : Int) := e34_.2; (by_cases z6_ : a1_ = 1); (subst z6_; obtain ⟨⟨q1_, ⟨w_, q2_, q3_⟩, q4_⟩, q5_, q6_⟩ := e34_.1; refine ⟨(1, false, a3_, a4_, a5_, a6_), by first | rfl | (exfalso; omega), ⟨⟨q1_, ⟨w_, q2_, ?_⟩, q4_⟩, xo_t q5_, q6_⟩, xx_t x34_, fun _ => rfl⟩; (rcases q3_ with q3_ | q3_; (exact absurd q3_.1 (show ¬ (1 : Nat) = 0 by decide)); (exact Or.inr q3_))); (exact ⟨_, (by show _ = (a1_ : Int); first | omega), e34_.1, x34_, fun z_ => absurd z_ z6_⟩))
          · first | (have q2_ := rms_x (k_ := k_) ht1_ xz_.1.1 (by omega); have q3_ : r_ms k_ S_ = 1301 - p1_ := q2_.1; have q4_ : p1_ ≤ 1280 := q2_.2; have k1_ := p_st_lt hpr_ xz_.2.1 hy1_; have k2_ := x_st hn1_ hpr_ xz_.2.1 hy1_; have k5_ : p1_ < y1_.2.2.1 := k1_; have k6_ := k2_.2.2.1; refine Nat.lt_of_le_of_lt (Nat.le_of_eq (rms_x t34_ e34_.1.1.1 (by first | decide | omega)).1) ?_; omega) | (have q2_ := rms_x (k_ := k_) ht1_ xz_.1.1 (by omega); have q3_ : r_ms k_ S_ = 1301 - p1_ := q2_.1; have q4_ : p1_ ≤ 1280 := q2_.2; cases rs_ with | inl y_ => (have k1_ := p_st_lt hpr_ xz_.2.1 hrs_; have k2_ := x_st hn1_ hpr_ xz_.2.1 hrs_; have z9_ := e50_.2; have k5_ : p1_ < y_.2.2.1 := k1_; have k6_ := k2_.2.2.1; have k7_ := k2_.1; refine Nat.lt_of_le_of_lt (Nat.le_of_eq (rms_x t50_ e50_.1.1.1 (by omega)).1) ?_; omega) | inr r9_ => (rw [rms_0 (Or.inr e50_.2)]; omega))
        · have cx9_ : ¬ (k_ ≠ 0) := of_decide_eq_false cx9_
          have p0_ : ph_ = 0 := by have z9_ : k_ = (ph_ : Int) := kx_; omega
          subst p0_
          obtain ⟨y1_, hy1_⟩ : ∃ y_, p_st b_ n_ false pr_ (0, t1_, p1_, o1_, g1_, c1_) = .inr (.inl y_) := by have z9_ := p_xy xx_; cases hq_ : p_st b_ n_ false pr_ (0, t1_, p1_, o1_, g1_, c1_) with | inl e_ => (rw [hq_] at z9_; cases z9_) | inr z_ => (cases z_ with | inl y_ => exact ⟨y_, rfl⟩ | inr r9_ => exact (dn_A (show p_sA b_ n_ false pr_ t1_ p1_ o1_ g1_ c1_ = .inr (.inr r9_) from hq_)).elim)
          refine sm_T_go 1 (c1 := (34, [some (.inr (.inr (some (13, 0)))), some (.inl k_)], [.inr (.inr (some (13, 0)))], S_)) rfl ?_
          refine sm_T_cal (d1 := 6) (Q1 := vq_319g b_ n_ T_ F_ I_ A_ X_ M_ s0_ pr_ K_ fr_ t1_ p1_ o1_ g1_ c1_ y1_ S_) rfl rfl (by decide) (vc_319g b_ n_ T_ F_ I_ A_ X_ M_ s0_ pr_ K_ fr_ t1_ p1_ o1_ g1_ c1_ y1_ S_ hI_ (by exact ht1_) (by exact hpr_) (by exact hmon) (by exact hX_) (by exact en1_) (by exact hte_) (by exact hev1_) (by exact xz_) (by exact hy1_)) (fun u_ Sx16_ px19_ => ?_)
          obtain ⟨vx21_, rfl, hIx17_, hFx18_, px19_⟩ := px19_
          have hFx20_ : ai_fr (sx_W vw_321g) S0_ Sx16_ := ai_fr_tr hF_ (fr_le hFx18_ rfl)
          have e34_ := px19_
          have t34_ := rtab_fr ht1_ hFx18_ rfl rfl rfl rfl rfl
          have x34_ : p_xx b_ n_ false pr_ y1_ (.inr r_) := by have z9_ := p_xy xx_; rw [hy1_] at z9_; exact z9_
          refine sm_T_b0 (a := 0) (z := 7) rfl (fun cx22_ => ?_) (fun cx22_ => ?_)
          · have cx22_ : vx21_ = 0 := of_decide_eq_true cx22_
            refine sm_T_go 4 (c1 := (17, [some (.inr (.inr (some (13, 0)))), some (.inl 0)], [], Sx16_)) rfl ?_
            refine ih_ 0 Sx16_ hIx17_ hFx20_ ⟨?_, trivial⟩ ?_
            · first | (cases rs_ with | inl y_ => (left; have z8_ := x_st hn1_ hpr_ xz_.2.1 hrs_; obtain ⟨a1_, a2_, a3_, a4_, a5_, a6_⟩ := y_; have z7_ : a1_ ≤ 1 := z8_.1; (by_cases z6_ : a1_ = 1); (subst z6_; obtain ⟨⟨q1_, ⟨w_, q2_, q3_⟩, q4_⟩, q5_, q6_⟩ := e50_.1; refine ⟨(1, false, a3_, a4_, a5_, a6_), e50_.2, ⟨⟨q1_, ⟨w_, q2_, ?_⟩, q4_⟩, xo_t q5_, q6_⟩, xx_t x50_, fun _ => rfl⟩; (rcases q3_ with q3_ | q3_; (exact absurd q3_.1 (show ¬ (1 : Nat) = 0 by decide)); (exact Or.inr q3_))); (exact ⟨_, e50_.2, e50_.1, x50_, fun z_ => absurd z_ z6_⟩)) | inr r9_ => (right; have z9_ : (.inr r_ : pE pR) = .inr r9_ := x50_; cases z9_; exact ⟨e50_.2, e50_.1⟩)) | (left; have z8_ := x_st hn1_ hpr_ xz_.2.1 hy1_; obtain ⟨a1_, a2_, a3_, a4_, a5_, a6_⟩ := y1_; have z7_ : a1_ ≤ 1 := z8_.1; have z5_ : _ = (a1_ : Int) := e34_.2; (by_cases z6_ : a1_ = 1); (subst z6_; obtain ⟨⟨q1_, ⟨w_, q2_, q3_⟩, q4_⟩, q5_, q6_⟩ := e34_.1; refine ⟨(1, false, a3_, a4_, a5_, a6_), by first | rfl | (exfalso; omega), ⟨⟨q1_, ⟨w_, q2_, ?_⟩, q4_⟩, xo_t q5_, q6_⟩, xx_t x34_, fun _ => rfl⟩; (rcases q3_ with q3_ | q3_; (exact absurd q3_.1 (show ¬ (1 : Nat) = 0 by decide)); (exact Or.inr q3_))); (exact ⟨_, (by show _ = (a1_ : Int); first | omega), e34_.1, x34_, fun z_ => absurd z_ z6_⟩))
            · first | (have q2_ := rms_x (k_ := k_) ht1_ xz_.1.1 (by omega); have q3_ : r_ms k_ S_ = 1301 - p1_ := q2_.1; have q4_ : p1_ ≤ 1280 := q2_.2; have k1_ := p_st_lt hpr_ xz_.2.1 hy1_; have k2_ := x_st hn1_ hpr_ xz_.2.1 hy1_; have k5_ : p1_ < y1_.2.2.1 := k1_; have k6_ := k2_.2.2.1; refine Nat.lt_of_le_of_lt (Nat.le_of_eq (rms_x t34_ e34_.1.1.1 (by first | decide | omega)).1) ?_; omega) | (have q2_ := rms_x (k_ := k_) ht1_ xz_.1.1 (by omega); have q3_ : r_ms k_ S_ = 1301 - p1_ := q2_.1; have q4_ : p1_ ≤ 1280 := q2_.2; cases rs_ with | inl y_ => (have k1_ := p_st_lt hpr_ xz_.2.1 hrs_; have k2_ := x_st hn1_ hpr_ xz_.2.1 hrs_; have z9_ := e50_.2; have k5_ : p1_ < y_.2.2.1 := k1_; have k6_ := k2_.2.2.1; have k7_ := k2_.1; refine Nat.lt_of_le_of_lt (Nat.le_of_eq (rms_x t50_ e50_.1.1.1 (by omega)).1) ?_; omega) | inr r9_ => (rw [rms_0 (Or.inr e50_.2)]; omega))
          · have cx22_ : ¬ (vx21_ = 0) := of_decide_eq_false cx22_
            refine sm_T_go 4 (c1 := (17, [some (.inr (.inr (some (13, 0)))), some (.inl 1)], [], Sx16_)) rfl ?_
            refine ih_ 1 Sx16_ hIx17_ hFx20_ ⟨?_, trivial⟩ ?_
            · first | (cases rs_ with | inl y_ => (left; have z8_ := x_st hn1_ hpr_ xz_.2.1 hrs_; obtain ⟨a1_, a2_, a3_, a4_, a5_, a6_⟩ := y_; have z7_ : a1_ ≤ 1 := z8_.1; (by_cases z6_ : a1_ = 1); (subst z6_; obtain ⟨⟨q1_, ⟨w_, q2_, q3_⟩, q4_⟩, q5_, q6_⟩ := e50_.1; refine ⟨(1, false, a3_, a4_, a5_, a6_), e50_.2, ⟨⟨q1_, ⟨w_, q2_, ?_⟩, q4_⟩, xo_t q5_, q6_⟩, xx_t x50_, fun _ => rfl⟩; (rcases q3_ with q3_ | q3_; (exact absurd q3_.1 (show ¬ (1 : Nat) = 0 by decide)); (exact Or.inr q3_))); (exact ⟨_, e50_.2, e50_.1, x50_, fun z_ => absurd z_ z6_⟩)) | inr r9_ => (right; have z9_ : (.inr r_ : pE pR) = .inr r9_ := x50_; cases z9_; exact ⟨e50_.2, e50_.1⟩)) | (left; have z8_ := x_st hn1_ hpr_ xz_.2.1 hy1_; obtain ⟨a1_, a2_, a3_, a4_, a5_, a6_⟩ := y1_; have z7_ : a1_ ≤ 1 := z8_.1; have z5_ : _ = (a1_ : Int) := e34_.2; (by_cases z6_ : a1_ = 1); (subst z6_; obtain ⟨⟨q1_, ⟨w_, q2_, q3_⟩, q4_⟩, q5_, q6_⟩ := e34_.1; refine ⟨(1, false, a3_, a4_, a5_, a6_), by first | rfl | (exfalso; omega), ⟨⟨q1_, ⟨w_, q2_, ?_⟩, q4_⟩, xo_t q5_, q6_⟩, xx_t x34_, fun _ => rfl⟩; (rcases q3_ with q3_ | q3_; (exact absurd q3_.1 (show ¬ (1 : Nat) = 0 by decide)); (exact Or.inr q3_))); (exact ⟨_, (by show _ = (a1_ : Int); first | omega), e34_.1, x34_, fun z_ => absurd z_ z6_⟩))
            · first | (have q2_ := rms_x (k_ := k_) ht1_ xz_.1.1 (by omega); have q3_ : r_ms k_ S_ = 1301 - p1_ := q2_.1; have q4_ : p1_ ≤ 1280 := q2_.2; have k1_ := p_st_lt hpr_ xz_.2.1 hy1_; have k2_ := x_st hn1_ hpr_ xz_.2.1 hy1_; have k5_ : p1_ < y1_.2.2.1 := k1_; have k6_ := k2_.2.2.1; refine Nat.lt_of_le_of_lt (Nat.le_of_eq (rms_x t34_ e34_.1.1.1 (by first | decide | omega)).1) ?_; omega) | (have q2_ := rms_x (k_ := k_) ht1_ xz_.1.1 (by omega); have q3_ : r_ms k_ S_ = 1301 - p1_ := q2_.1; have q4_ : p1_ ≤ 1280 := q2_.2; cases rs_ with | inl y_ => (have k1_ := p_st_lt hpr_ xz_.2.1 hrs_; have k2_ := x_st hn1_ hpr_ xz_.2.1 hrs_; have z9_ := e50_.2; have k5_ : p1_ < y_.2.2.1 := k1_; have k6_ := k2_.2.2.1; have k7_ := k2_.1; refine Nat.lt_of_le_of_lt (Nat.le_of_eq (rms_x t50_ e50_.1.1.1 (by omega)).1) ?_; omega) | inr r9_ => (rw [rms_0 (Or.inr e50_.2)]; omega))
set_option maxHeartbeats 3000000 in
theorem vc_321g {sc_ : Nat × (Nat → Int)} (b_ : Nat → Int) (n_ : Nat) (T_ : Nat) (F_ : Nat) (I_ : Nat) (A_ : pA) (X_ : Nat → gQ → gE → Option (gQ × gE)) (M_ : Nat) (s0_ : gS) (pr_ : pPr) (K_ : Nat) (fr_ : Nat) (p_ : Nat) (r_ : pR) (S0_ : sm_S) (hI_ : gi S0_) (ht_ : rtab b_ n_ T_ S0_) (hpr_ : pr_ok b_ n_ pr_) (hmon : ∀ p_ r_, pr_ p_ = .inr r_ → p_pd b_ n_ A_ M_ p_ = .inr r_ ∧ (lx_kd b_ n_ p_ = 1 → p_fn b_ n_ A_ M_ p_ < (K_ : Int))) (hX_ : ∀ d_ q_ e_ z_, X_ d_ q_ e_ = some z_ → q_.1.length ≤ z_.1.1.length) (hen_ : r_e1 b_ n_ T_ A_ M_ fr_ S0_) (hte_ : ten A_ M_ K_ s0_.2.1 s0_.2.2.1) (hev_ : rev fr_ K_ s0_.2.1 s0_.2.2.1 (s0_.1.1.length ≤ 1001) S0_) (hx_ : rg b_ n_ T_ (.inr p_) S0_) (hm1_ : (S0_.1 13 0 27) = 1) (hs0_ : s0_.2.2.2 = [] ∧ rgl F_ s0_.1.1 S0_) (hr_ : p_ex b_ n_ false pr_ [] p_ = .inr r_) : sm_T (mt_P sc_) 8 321 (0, [some (.inr (.inr (some (13, 0)))), none], [], S0_) (fun ro9_ => ∃ u_ S1_, ro9_ = (.inl u_, S1_, 0) ∧ vq_321g b_ n_ T_ F_ I_ A_ X_ M_ s0_ pr_ K_ fr_ p_ r_ S0_ u_ S1_) := by
  have hF_ : ai_fr (sx_W vw_321g) S0_ S0_ := ai_fr_rf
  have hIx1_ : gi (sm_pI S0_ 13 0 32 0) := gi_pI hI_ (show 0 ≤ 0 ∧ 0 ≤ 1023 from ⟨by omega, by omega⟩)
  have hFx2_ : ai_fr (sx_W vw_321g) S0_ (sm_pI S0_ 13 0 32 0) := ai_fr_tr hF_ (ai_fr_pI rfl)
  have hIx3_ : gi (sm_pI (sm_pI S0_ 13 0 32 0) 13 0 33 0) := gi_pI hIx1_ (show 0 ≤ 0 ∧ 0 ≤ 60 from ⟨by omega, by omega⟩)
  have hFx4_ : ai_fr (sx_W vw_321g) S0_ (sm_pI (sm_pI S0_ 13 0 32 0) 13 0 33 0) := ai_fr_tr hFx2_ (ai_fr_pI rfl)
  have hIx5_ : gi (sm_pI (sm_pI (sm_pI S0_ 13 0 32 0) 13 0 33 0) 13 0 34 0) := gi_pI hIx3_ (show 0 ≤ 0 ∧ 0 ≤ 1023 from ⟨by omega, by omega⟩)
  have hFx6_ : ai_fr (sx_W vw_321g) S0_ (sm_pI (sm_pI (sm_pI S0_ 13 0 32 0) 13 0 33 0) 13 0 34 0) := ai_fr_tr hFx4_ (ai_fr_pI rfl)
  refine sm_T_go 11 (c1 := (17, [some (.inr (.inr (some (13, 0)))), some (.inl 0)], [], sm_pI (sm_pI (sm_pI S0_ 13 0 32 0) 13 0 33 0) 13 0 34 0)) rfl ?_
  refine (vl_321g b_ n_ T_ F_ I_ A_ X_ M_ s0_ pr_ K_ fr_ p_ r_ S0_ ht_ hpr_ hmon hX_ hen_ hte_ hev_ hx_ hm1_ hs0_ hr_ _) 0 (sm_pI (sm_pI (sm_pI S0_ 13 0 32 0) 13 0 33 0) 13 0 34 0) hIx5_ hFx6_ ⟨?_, trivial⟩ (Nat.lt_succ_self _)
  · left
    obtain ⟨i9_, z1_, z2_⟩ := id hx_.2
    have z4_ := (rp_at ht_ z2_).2.2.2.1
    refine ⟨(0, false, p_, [], [], []), rfl, ⟨⟨hx_, ⟨[], ⟨rfl, trivial, trivial⟩, Or.inl ⟨rfl, Or.inl ⟨rfl, rfl⟩⟩⟩, rfl, ⟨rfl, fun _ => trivial, fun _ => trivial⟩, hm1_⟩, x_ok_0 z4_ z2_.2.2.1 (Nat.zero_le _), ⟨s0_.1.1, [], ?_, rfl, ?_, trivial⟩, trivial⟩, ?_, fun z_ => absurd z_ (show ¬ (0 : Nat) = 1 by decide)⟩
    · rw [ev_n]; have q9_ := hs0_.1; obtain ⟨⟨q1_, q2_⟩, q3_, q4_, q5_⟩ := s0_; have q9_ : q5_ = [] := q9_; subst q9_; rfl
    · exact rgl_fr (w_ := ([(13, 32), (13, 33), (13, 34)], [], [])) hs0_.2 (ai_fr_tr (ai_fr_tr (ai_fr_pI rfl) (ai_fr_pI rfl)) (ai_fr_pI rfl)) rfl rfl rfl rfl rfl rfl
    · rw [← hr_]; exact p_ex_x ht_.1 hpr_ z4_ z2_.2.2.1 (Nat.zero_le _)
