/-! the reference: operands, second pass; written by wip/p55/gen/vg -/

/-! operands, second pass -/
def rzx (b_ : Nat → Int) (n_ T_ F_ I_ : Nat) (A_ : pA) (X_ : Nat → gQ → gE → Option (gQ × gE)) (m_ : Nat) (s0_ : gS) (x_ : pX) (S_ : sm_S) : Prop := rx b_ n_ T_ 1 x_.2.1 x_.1 x_.2.2.1 x_.2.2.2.1 x_.2.2.2.2.1 S_ ∧ x_ok b_ n_ false x_ ∧ xg F_ I_ A_ X_ m_ s0_ x_.2.2.2.2.1 x_.2.2.2.2.2 S_ ∧ o_wd x_.2.2.2.1 (if x_.1 = 0 then x_.2.2.2.2.1 else x_.2.2.2.2.1.tail)
theorem xg_fr {w_ : sx_Wl} {F_ I_ : Nat} {A_ : pA} {X_ : Nat → gQ → gE → Option (gQ × gE)} {m_ : Nat} {s0_ : gS} {h_ c_ : List Int} {S_ S'_ : sm_S} (x_ : xg F_ I_ A_ X_ m_ s0_ h_ c_ S_) (g_ : ai_fr (sx_W w_) S_ S'_) (h0_ : (sx_W w_).1 13 38 = false) (h1_ : (sx_W w_).1 13 37 = false) (h2_ : (sx_W w_).2.1 140 = false) (h3_ : (sx_W w_).2.1 141 = false) (h4_ : (sx_W w_).2.1 142 = false) (h5_ : (sx_W w_).2.1 143 = false) (h6_ : (sx_W w_).2.1 138 = false) (h7_ : (sx_W w_).2.1 139 = false) : xg F_ I_ A_ X_ m_ s0_ h_ c_ S'_ := by
  obtain ⟨G_, V_, x1_, x2_, x3_, x4_⟩ := x_
  refine ⟨G_, V_, x1_, x2_, rgl_fr x3_ g_ h0_ h1_ h2_ h3_ h4_ h5_, ?_⟩
  rw [fr_arr g_ h6_, fr_arr g_ h7_]
  exact x4_
/-- a_ value is_ pushed -/
theorem xg_pu {F_ I_ : Nat} {A_ : pA} {X_ : Nat → gQ → gE → Option (gQ × gE)} {m_ : Nat} {s0_ : gS} {G_ : pGr} {V_ : gV} {c_ c1_ v_ : List Int} {w_ : Int} {S_ S1_ : sm_S} (h1_ : ev F_ I_ A_ X_ m_ s0_ c_ = some ((G_, s0_.1.2), s0_.2.1, s0_.2.2.1, V_)) (h4_ : svl (G_.length ≤ 1001) (S_.2.2.1 139 0) (S_.2.2.1 138 0) V_) (hv_ : ev1 F_ I_ A_ X_ m_ s0_.2.1 s0_.2.2.1 c1_ v_) (hV_ : V_.length < 512) (hl_ : 1 ≤ v_.length ∧ v_.length ≤ 8) (hw_ : (v_.length : Int) = w_) (hr_ : rgl F_ G_ S1_) (hp_ : rowv V_.length v_ (G_.length ≤ 1001) S_ S1_) : xg F_ I_ A_ X_ m_ s0_ (w_ :: V_.map fun v_ => (v_.length : Int)) (c1_ ++ c_) S1_ :=
  ⟨G_, v_ :: V_, hv_ _ V_ c_ s0_ hV_ h1_, by rw [List.map_cons, hw_], hr_, svl_tp h4_ (fun z_ => z_) (fun j_ hj_ => hp_.2.2 j_ (Or.inl (by omega))) (fun j_ hj_ => by rw [hp_.1, if_neg (by omega)]) (by rw [hp_.1, if_pos rfl]) hl_ hp_.2.1⟩
def r_e1 (b_ : Nat → Int) (n_ T_ : Nat) (A_ : pA) (M_ fr_ : Nat) (S_ : sm_S) : Prop := a_ok b_ n_ A_ M_ ∧ S_.1 13 0 28 = (M_ : Int) ∧ (S_.1 13 0 29 = (fr_ : Int) ∧ fr_ ≤ 15) ∧ ∀ m_, m_ ≤ M_ → re1 b_ n_ T_ A_ m_ S_
theorem ev_le {F_ I_ : Nat} {A_ : pA} {X_ : Nat → gQ → gE → Option (gQ × gE)} {m_ : Nat} {s0_ s_ : gS} {c_ : List Int} (hX_ : ∀ d_ q_ e_ z_, X_ d_ q_ e_ = some z_ → q_.1.length ≤ z_.1.1.length) (h_ : ev F_ I_ A_ X_ m_ s0_ c_ = some s_) : s0_.1.1.length ≤ s_.1.1.length := ec_le hX_ _ _ _ h_
/-! M_.operand -/
def vw_319g : sx_Wl := ([(13, 9), (13, 10), (13, 11), (13, 32), (13, 33), (13, 34)], [136, 137, 138, 139], [])
def vq_319g (b_ : Nat → Int) (n_ : Nat) (T_ : Nat) (F_ : Nat) (I_ : Nat) (A_ : pA) (X_ : Nat → gQ → gE → Option (gQ × gE)) (M_ : Nat) (s0_ : gS) (pr_ : pPr) (K_ : Nat) (fr_ : Nat) (t_ : Bool) (p_ : Nat) (o_ : List (Int × Nat)) (g_ : List Int) (c_ : List Int) (y_ : pX) (S0_ : sm_S) (u_ : Option sm_V) (S1_ : sm_S) : Prop := ∃ v_ : Int, u_ = some (.inl v_) ∧ gi S1_ ∧ ai_fr (sx_W vw_319g) S0_ S1_ ∧ (rzx b_ n_ T_ F_ I_ A_ X_ M_ s0_ y_ S1_ ∧ v_ = (y_.1 : Int))
set_option maxHeartbeats 3000000 in
theorem vc_319g {sc_ : Nat × (Nat → Int)} (b_ : Nat → Int) (n_ : Nat) (T_ : Nat) (F_ : Nat) (I_ : Nat) (A_ : pA) (X_ : Nat → gQ → gE → Option (gQ × gE)) (M_ : Nat) (s0_ : gS) (pr_ : pPr) (K_ : Nat) (fr_ : Nat) (t_ : Bool) (p_ : Nat) (o_ : List (Int × Nat)) (g_ : List Int) (c_ : List Int) (y_ : pX) (S0_ : sm_S) (hI_ : gi S0_) (ht_ : rtab b_ n_ T_ S0_) (hpr_ : pr_ok b_ n_ pr_) (hmon : ∀ p_ r_, pr_ p_ = .inr r_ → p_pd b_ n_ A_ M_ p_ = .inr r_ ∧ (lx_kd b_ n_ p_ = 1 → p_fn b_ n_ A_ M_ p_ < (K_ : Int))) (hX_ : ∀ d_ q_ e_ z_, X_ d_ q_ e_ = some z_ → q_.1.length ≤ z_.1.1.length) (hen_ : r_e1 b_ n_ T_ A_ M_ fr_ S0_) (hte_ : ten A_ M_ K_ s0_.2.1 s0_.2.2.1) (hev_ : rev fr_ K_ s0_.2.1 s0_.2.2.1 (s0_.1.1.length ≤ 1001) S0_) (hz_ : rzx b_ n_ T_ F_ I_ A_ X_ M_ s0_ (0, t_, p_, o_, g_, c_) S0_) (hst_ : p_st b_ n_ false pr_ (0, t_, p_, o_, g_, c_) = .inr (.inl y_)) : sm_T (mt_P sc_) 6 319 (0, [some (.inr (.inr (some (13, 0))))], [], S0_) (fun ro9_ => ∃ u_ S1_, ro9_ = (.inl u_, S1_, 0) ∧ vq_319g b_ n_ T_ F_ I_ A_ X_ M_ s0_ pr_ K_ fr_ t_ p_ o_ g_ c_ y_ S0_ u_ S1_) := by
  have hF_ : ai_fr (sx_W vw_319g) S0_ S0_ := ai_fr_rf
  have hz1_ : rx b_ n_ T_ 1 t_ 0 p_ o_ g_ S0_ := hz_.1
  obtain ⟨hg_, ⟨w0_, hw_, hwt_⟩, hop_, hv_, hmo1_⟩ := id hz1_
  have hwt_ : wt b_ n_ T_ t_ o_ w0_ := by rcases hwt_ with z_ | z_; (exact z_.2); (exact absurd z_.1 (by decide))
  obtain ⟨i_, hi1_, hi2_⟩ := id hg_.2
  have hf_ := hg_.1
  have hT_ := ht_.2.1
  have hi9_ := hi2_.1
  have ra_ := rp_at ht_ hi2_
  have rk_ := r_st_3 (lx_kd_r hi2_.2.2.1)
  have e4_ : (S0_.1 13 0 9).toNat = i_ := by omega
  have so4_ : S0_.2.2.1 119 0 (S0_.1 13 0 9).toNat = r_st (lx_kd b_ n_ p_) := by rw [e4_]; exact ra_.1
  have pl4_ : S0_.2.2.1 120 0 (S0_.1 13 0 9).toNat = (p_ : Int) := by rw [e4_]; exact ra_.2.1
  have lim_ := o_lim hz_.2.1.2.1.1 hz_.2.1.2.1.2.1
  have lim1_ : o_.length ≤ 365 := lim_.1
  have wlen : w0_.length ≤ 731 := by rcases hwt_ with z_ | ⟨u_, z1_, z2_⟩; (have := wl_len z_.2; omega); (have := wl_len z2_; rw [z1_, List.length_cons]; omega)
  have hww_ := hw_.1
  have tp_ := wt_tp hwt_ hz_.2.1.2.1.1
  have gl1_ : g_.length = o_hl o_ + 0 := hz_.2.1.2.1.2.2.1
  have gl2_ : o_hl o_ ≤ 425 := lim_.2
  have hn1_ := ht_.1
  have xok_ := x_st ht_.1 hpr_ hz_.2.1 hst_
  refine sm_T_go 2 (c1 := (3, [some (.inr (.inr (some (13, 0))))], [.inl 33, .inr (.inr (some (13, 0)))], S0_)) rfl ?_
  refine sm_T_cal (d1 := 0) (Q1 := vq_295 33 b_ n_ T_ (.inr p_) S0_) rfl rfl (by decide) (vc_295 33 b_ n_ T_ (.inr p_) S0_ hI_ (by exact ht_) (by exact hg_) (by decide)) (fun u_ Sx1_ px4_ => ?_)
  obtain ⟨rfl, vx6_, rfl, px4_⟩ := px4_
  have e3_ := px4_.2 p_ rfl
  have r3_ := px4_.1.1
  refine sm_T_b0 (a := 0) (z := 43) rfl (fun cx7_ => ?_) (fun cx7_ => ?_)
  · have cx7_ : vx6_ = 0 := of_decide_eq_true cx7_
    refine sm_T_go 2 (c1 := (52, [some (.inr (.inr (some (13, 0))))], [.inl 40, .inr (.inr (some (13, 0)))], S0_)) rfl ?_
    refine sm_T_cal (d1 := 0) (Q1 := vq_295 40 b_ n_ T_ (.inr p_) S0_) rfl rfl (by decide) (vc_295 40 b_ n_ T_ (.inr p_) S0_ hI_ (by exact ht_) (by exact hg_) (by decide)) (fun u_ Sx8_ px11_ => ?_)
    obtain ⟨rfl, vx13_, rfl, px11_⟩ := px11_
    have e52_ := px11_.2 p_ rfl
    have r52_ := px11_.1.1
    have n33_ : lx_kd b_ n_ p_ ≠ 33 := fun z_ => by have := e3_.mpr z_; omega
    refine sm_T_b0 (a := 0) (z := 11) rfl (fun cx14_ => ?_) (fun cx14_ => ?_)
    · have cx14_ : vx13_ = 0 := of_decide_eq_true cx14_
      have n40_ : lx_kd b_ n_ p_ ≠ 40 := fun z_ => by have := e52_.mpr z_; omega
      obtain ⟨r_, hpr1_, hy_⟩ : ∃ r_, pr_ p_ = .inr r_ ∧ y_ = (1, false, r_.1, o_, (p_ti false t_ (r_.2.1 :: g_) (r_.2.2 ++ c_)).1, (p_ti false t_ (r_.2.1 :: g_) (r_.2.2 ++ c_)).2) := by have q9_ := hst_; rw [pA_p n33_ n40_] at q9_; obtain ⟨q_, q1_, q2_⟩ := pb_inr q9_; cases q2_; exact ⟨q_, q1_, rfl⟩
      obtain ⟨hpd_, hpk_⟩ := hmon p_ r_ hpr1_
      obtain ⟨Gr_, V_, xe_, xm_, xr, xv_⟩ := id hz_.2.2.1
      have Vl_ : V_.length = g_.length := by have q9_ := congrArg List.length xm_; rw [List.length_map] at q9_; exact q9_
      have gle_ := ev_le hX_ xe_
      have ev9_ : rev fr_ K_ s0_.2.1 s0_.2.2.1 (Gr_.length ≤ 1001) S0_ := fun z_ => hev_ (Nat.le_trans gle_ z_)
      have bx15_ : 0 ≤ S0_.1 13 0 27 ∧ S0_.1 13 0 27 ≤ 2 := hI_.1 13 0 27 rfl
      refine sm_T_go 3 (c1 := (71, [some (.inr (.inr (some (13, 0))))], [.inl 2, .inl (S0_.1 13 0 27)], S0_)) rfl ?_
      refine sm_T_br (a := 1) (z := 10) rfl (fun cx16_ => ?_) (fun cx16_ => ?_)
      · have cx16_ : (S0_.1 13 0 27) ≠ 2 := of_decide_eq_true cx16_
        have bx17_ : 0 ≤ S0_.1 13 0 9 ∧ S0_.1 13 0 9 ≤ 1280 := hI_.1 13 0 9 rfl
        refine sm_T_go 4 (c1 := (89, [some (.inr (.inr (some (13, 0))))], [.inl (S0_.1 13 0 9), .inr (.inr (some (119, 0)))], S0_)) rfl ?_
        refine sm_T_bald (n := 65537) rfl rfl (by omega) (by omega) ?_
        have bx18_ : (-128) ≤ S0_.2.2.1 119 0 (S0_.1 13 0 9).toNat ∧ S0_.2.2.1 119 0 (S0_.1 13 0 9).toNat ≤ 127 := hI_.2 119 0 _
        refine sm_T_go 1 (c1 := (91, [some (.inr (.inr (some (13, 0))))], [.inl 2, .inl (S0_.2.2.1 119 0 (S0_.1 13 0 9).toNat)], S0_)) rfl ?_
        refine sm_T_br (a := 1) (z := 10) rfl (fun cx19_ => ?_) (fun cx19_ => ?_)
        · have cx19_ : (S0_.2.2.1 119 0 (S0_.1 13 0 9).toNat) ≠ 2 := of_decide_eq_true cx19_
          refine sm_T_go 4 (c1 := (109, [some (.inr (.inr (some (13, 0))))], [.inl (S0_.1 13 0 9), .inr (.inr (some (119, 0)))], S0_)) rfl ?_
          refine sm_T_bald (n := 65537) rfl rfl (by omega) (by omega) ?_
          refine sm_T_go 1 (c1 := (111, [some (.inr (.inr (some (13, 0))))], [.inl 1, .inl (S0_.2.2.1 119 0 (S0_.1 13 0 9).toNat)], S0_)) rfl ?_
          refine sm_T_br (a := 1) (z := 10) rfl (fun cx20_ => ?_) (fun cx20_ => ?_)
          · have cx20_ : (S0_.2.2.1 119 0 (S0_.1 13 0 9).toNat) ≠ 1 := of_decide_eq_true cx20_
            exfalso; (have q9_ := hpd_; unfold p_pd at q9_; rw [if_neg (fun z_ => by have := rk_.2.2.1.mpr z_; omega), if_neg (fun z_ => by have := rk_.2.1.mpr z_; omega)] at q9_; cases q9_)
          · have cx20_ : ¬ ((S0_.2.2.1 119 0 (S0_.1 13 0 9).toNat) ≠ 1) := of_decide_eq_false cx20_
            refine sm_T_go 1 (c1 := (115, [some (.inr (.inr (some (13, 0))))], [.inr (.inr (some (13, 0)))], S0_)) rfl ?_
            refine sm_T_cal (d1 := 5) (Q1 := vq_324g b_ n_ T_ p_ g_.length F_ I_ A_ X_ M_ K_ fr_ s0_.2.1 s0_.2.2.1 (Gr_.length ≤ 1001) r_ S0_) rfl rfl (by decide) (vc_324g b_ n_ T_ p_ g_.length F_ I_ A_ X_ M_ K_ fr_ s0_.2.1 s0_.2.2.1 (Gr_.length ≤ 1001) r_ S0_ hI_ (by exact ht_) (by exact hg_) (by exact ⟨hv_.1, by omega⟩) (by exact hmo1_) (by exact rk_.2.1.mp (by omega)) (by exact hen_.1) (by exact hen_.2.1) (by exact hen_.2.2.1) (by exact hen_.2.2.2) (by exact hte_) (by exact ev9_) (by exact hpk_ (rk_.2.1.mp (by omega))) (by (have q9_ := hpd_; unfold p_pd at q9_; rw [if_neg (by have := rk_.2.1.mp (by omega); omega), if_pos (rk_.2.1.mp (by omega))] at q9_; exact q9_))) (fun u_ Sx21_ px24_ => ?_)
            obtain ⟨rfl, hIx22_, hFx23_, px24_⟩ := px24_
            have hFx25_ : ai_fr (sx_W vw_319g) S0_ Sx21_ := ai_fr_tr hF_ (fr_le hFx23_ rfl)
            have ex26_ : Sx21_.1 13 0 27 = S0_.1 13 0 27 := hFx23_.1 13 0 27 rfl
            obtain ⟨v9_, v91_, v92_, v93_, gq_, v94_⟩ := px24_
            have ws9_ := ws_fr hw_ hFx23_ rfl rfl rfl
            have op9_ := (hFx23_.1 13 0 33 rfl).trans hop_
            have vl9_ := (hFx23_.1 13 0 34 rfl).trans hv_.1
            have mo9_ := (hFx23_.1 13 0 27 rfl).trans hmo1_
            have xr9_ := rgl_fr xr hFx23_ rfl rfl rfl rfl rfl rfl
            have xp_ : xg F_ I_ A_ X_ M_ s0_ (r_.2.1 :: g_) (r_.2.2 ++ c_) Sx21_ := by have q9_ := xg_pu xe_ xv_ v91_ (by omega) v93_ v92_ xr9_ (by rw [Vl_]; exact v94_); rw [xm_] at q9_; exact q9_
            refine sm_T_go 2 (c1 := (131, [some (.inr (.inr (some (13, 0))))], [.inr (.inr (some (13, 0)))], Sx21_)) rfl ?_
            refine sm_T_cal (d1 := 0) (Q1 := vq_292  Sx21_) rfl rfl (by decide) (vc_292  Sx21_ hIx22_ ) (fun u_ Sx27_ px30_ => ?_)
            obtain ⟨rfl, vx32_, rfl, px30_⟩ := px30_
            have e131_ := px30_
            refine sm_T_b0 (a := 0) (z := 17) rfl (fun cx33_ => ?_) (fun cx33_ => ?_)
            · have cx33_ : vx32_ = 0 := of_decide_eq_true cx33_
              exfalso; (rw [if_pos gq_.1] at e131_; omega)
            · have cx33_ : ¬ (vx32_ = 0) := of_decide_eq_false cx33_
              have bx34_ : 0 ≤ Sx21_.1 13 0 34 ∧ Sx21_.1 13 0 34 ≤ 1023 := hIx22_.1 13 0 34 rfl
              refine sm_T_go 4 (c1 := (143, [some (.inr (.inr (some (13, 0))))], [.inl 1, .inl (Sx21_.1 13 0 34), .inr (.inr (some (13, 0)))], Sx21_)) rfl ?_
              refine sm_T_bin (w := (Sx21_.1 13 0 34) + 1) rfl (bi_add (by omega) (by omega) (by omega)) ?_
              have hIx35_ : gi (sm_pI Sx21_ 13 0 34 ((Sx21_.1 13 0 34) + 1)) := gi_pI hIx22_ (show 0 ≤ (Sx21_.1 13 0 34) + 1 ∧ (Sx21_.1 13 0 34) + 1 ≤ 1023 from ⟨by omega, by omega⟩)
              have hFx36_ : ai_fr (sx_W vw_319g) S0_ (sm_pI Sx21_ 13 0 34 ((Sx21_.1 13 0 34) + 1)) := ai_fr_tr hFx25_ (ai_fr_pI rfl)
              refine sm_T_go 2 (c1 := (148, [some (.inr (.inr (some (13, 0))))], [.inr (.inr (some (13, 0)))], sm_pI Sx21_ 13 0 34 ((Sx21_.1 13 0 34) + 1))) rfl ?_
              refine sm_T_cal (d1 := 1) (Q1 := vq_317g b_ n_ T_ F_ I_ A_ X_ M_ s0_ t_ o_ r_.2.1 g_ (r_.2.2 ++ c_) w0_ (sm_pI Sx21_ 13 0 34 ((Sx21_.1 13 0 34) + 1))) rfl rfl (by decide) (vc_317g b_ n_ T_ F_ I_ A_ X_ M_ s0_ t_ o_ r_.2.1 g_ (r_.2.2 ++ c_) w0_ (sm_pI Sx21_ 13 0 34 ((Sx21_.1 13 0 34) + 1)) hIx35_ (by exact ws9_) (by exact hwt_) (by exact hz_.2.1.2.1.1) (by (show _ + 1 = _; omega)) (by exact mo9_) (by omega) (by exact xg_fr (w_ := ([(13, 34)], [], [])) xp_ (ai_fr_pI rfl) rfl rfl rfl rfl rfl rfl rfl rfl)) (fun u_ Sx37_ px40_ => ?_)
              obtain ⟨rfl, hIx38_, hFx39_, px40_⟩ := px40_
              have hFx41_ : ai_fr (sx_W vw_319g) S0_ Sx37_ := ai_fr_tr hFx36_ (fr_le hFx39_ rfl)
              obtain ⟨w1_, ws148_, wl148_, x148_⟩ := px40_
              have g148_ := rg_fr (b_ := b_) (n_ := n_) (T_ := T_) (x_ := .inr r_.1) (S_ := (sm_pI Sx21_ 13 0 34 ((Sx21_.1 13 0 34) + 1))) gq_ hFx39_ rfl rfl rfl
              have op148_ := (hFx39_.1 13 0 33 rfl).trans op9_
              have mo148_ := (hFx39_.1 13 0 27 rfl).trans mo9_
              have vl148_ : Sx37_.1 13 0 34 = (g_.length : Int) + 1 := (hFx39_.1 13 0 34 rfl).trans (by show _ + 1 = _; omega)
              refine sm_T_go 1 (c1 := (152, [some (.inr (.inr (some (13, 0))))], [.inr (.inr (some (13, 0)))], Sx37_)) rfl ?_
              refine sm_T_cal (d1 := 0) (Q1 := vq_292  Sx37_) rfl rfl (by decide) (vc_292  Sx37_ hIx38_ ) (fun u_ Sx42_ px45_ => ?_)
              obtain ⟨rfl, vx47_, rfl, px45_⟩ := px45_
              have e152_ := px45_
              refine sm_T_rz rfl (by (rw [e152_]; split; (right; rfl); (left; rfl))) ⟨_, _, rfl, _, rfl, hIx38_, hFx41_, ?_⟩
              have t1_ : (p_ti false t_ (r_.2.1 :: g_) (r_.2.2 ++ c_)).1 = r_.2.1 :: g_ := by rw [ti2]
              rw [hy_]
              refine ⟨⟨⟨g148_, ⟨w1_, ws148_, Or.inr ⟨rfl, wl148_⟩⟩, op148_, ⟨?_, fun _ => ?_, fun z_ => absurd z_ (by decide)⟩, mo148_⟩, by rw [← hy_]; exact xok_, ?_, ?_⟩, by rw [e152_, if_pos g148_.1]; rfl⟩
              · show _ = ((p_ti false t_ (r_.2.1 :: g_) (r_.2.2 ++ c_)).1.length : Int); rw [t1_, vl148_, List.length_cons]; push_cast; rfl
              · show stk _ (p_ti false t_ (r_.2.1 :: g_) (r_.2.2 ++ c_)).1; rw [t1_]; obtain ⟨G9_, V9_, y1_, y2_, y3_, y4_⟩ := x148_; rw [← y2_]; exact svl_stk y4_
              · show xg F_ I_ A_ X_ M_ s0_ (p_ti false t_ (r_.2.1 :: g_) (r_.2.2 ++ c_)).1 _ _; rw [t1_]; exact x148_
              · show o_wd o_ (p_ti false t_ (r_.2.1 :: g_) (r_.2.2 ++ c_)).1.tail; rw [t1_]; exact hz_.2.2.2
        · have cx19_ : ¬ ((S0_.2.2.1 119 0 (S0_.1 13 0 9).toNat) ≠ 2) := of_decide_eq_false cx19_
          refine sm_T_go 1 (c1 := (95, [some (.inr (.inr (some (13, 0))))], [.inr (.inr (some (13, 0)))], S0_)) rfl ?_
          refine sm_T_cal (d1 := 4) (Q1 := vq_322g b_ n_ T_ p_ g_.length r_ S0_) rfl rfl (by decide) (vc_322g b_ n_ T_ p_ g_.length r_ S0_ hI_ (by exact ht_) (by exact hg_) (by exact ⟨hv_.1, by omega⟩) (by exact hmo1_) (by exact rk_.2.2.1.mp (by omega)) (by (have q9_ := hpd_; unfold p_pd at q9_; rw [if_pos (rk_.2.2.1.mp (by omega))] at q9_; exact q9_))) (fun u_ Sx48_ px51_ => ?_)
          obtain ⟨rfl, hIx49_, hFx50_, px51_⟩ := px51_
          have hFx52_ : ai_fr (sx_W vw_319g) S0_ Sx48_ := ai_fr_tr hF_ (fr_le hFx50_ rfl)
          have ex53_ : Sx48_.1 13 0 27 = S0_.1 13 0 27 := hFx50_.1 13 0 27 rfl
          have kk_ : lx_kd b_ n_ p_ = 2 := rk_.2.2.1.mp (by omega)
          have hc9_ : p_co b_ n_ p_ = .inr r_ := by have q9_ := hpd_; unfold p_pd at q9_; rw [if_pos kk_] at q9_; exact q9_
          obtain ⟨qa_, qb_, qu_, -, -, -, -, qw_, -, -, hr9_⟩ := co_r hc9_
          have e95_ := px51_
          have gq_ : rg b_ n_ T_ (.inr r_.1) Sx48_ := e95_.1
          obtain ⟨v9_, v91_, v92_, v93_, v94_⟩ : ∃ v9_, ev1 F_ I_ A_ X_ M_ s0_.2.1 s0_.2.2.1 r_.2.2 v9_ ∧ (v9_.length : Int) = r_.2.1 ∧ (1 ≤ v9_.length ∧ v9_.length ≤ 8) ∧ rowv g_.length v9_ (Gr_.length ≤ 1001) S0_ Sx48_ := by have vp_ := lx_vl_0 kk_; rw [hr9_] at e95_ ⊢; refine ⟨c_bt (lx_vl b_ n_ qb_).toNat (lx_vl b_ n_ p_), ev1_cn qw_ vp_, by rw [c_bt_l]; show _ = lx_vl b_ n_ qb_; omega, by rw [c_bt_l]; omega, rowv_of e95_.2 (by rw [c_bt_l]; show lx_vl b_ n_ qb_ = _; omega) (by rw [c_bt_l]; omega) (fun _ k9_ z9_ e9_ => ?_)⟩; unfold c_bt at e9_; rw [List.getElem?_map] at e9_; (by_cases q9_ : k9_ < (lx_vl b_ n_ qb_).toNat); (rw [List.getElem?_range q9_] at e9_; exact Option.some.inj e9_); (rw [List.getElem?_eq_none (by rw [List.length_range]; omega)] at e9_; cases e9_)
          have ws9_ := ws_fr hw_ hFx50_ rfl rfl rfl
          have op9_ := (hFx50_.1 13 0 33 rfl).trans hop_
          have vl9_ := (hFx50_.1 13 0 34 rfl).trans hv_.1
          have mo9_ := (hFx50_.1 13 0 27 rfl).trans hmo1_
          have xr9_ := rgl_fr xr hFx50_ rfl rfl rfl rfl rfl rfl
          have xp_ : xg F_ I_ A_ X_ M_ s0_ (r_.2.1 :: g_) (r_.2.2 ++ c_) Sx48_ := by have q9_ := xg_pu xe_ xv_ v91_ (by omega) v93_ v92_ xr9_ (by rw [Vl_]; exact v94_); rw [xm_] at q9_; exact q9_
          refine sm_T_go 2 (c1 := (131, [some (.inr (.inr (some (13, 0))))], [.inr (.inr (some (13, 0)))], Sx48_)) rfl ?_
          refine sm_T_cal (d1 := 0) (Q1 := vq_292  Sx48_) rfl rfl (by decide) (vc_292  Sx48_ hIx49_ ) (fun u_ Sx54_ px57_ => ?_)
          obtain ⟨rfl, vx59_, rfl, px57_⟩ := px57_
          have e131_ := px57_
          refine sm_T_b0 (a := 0) (z := 17) rfl (fun cx60_ => ?_) (fun cx60_ => ?_)
          · have cx60_ : vx59_ = 0 := of_decide_eq_true cx60_
            exfalso; (rw [if_pos gq_.1] at e131_; omega)
          · have cx60_ : ¬ (vx59_ = 0) := of_decide_eq_false cx60_
            have bx61_ : 0 ≤ Sx48_.1 13 0 34 ∧ Sx48_.1 13 0 34 ≤ 1023 := hIx49_.1 13 0 34 rfl
            refine sm_T_go 4 (c1 := (143, [some (.inr (.inr (some (13, 0))))], [.inl 1, .inl (Sx48_.1 13 0 34), .inr (.inr (some (13, 0)))], Sx48_)) rfl ?_
            refine sm_T_bin (w := (Sx48_.1 13 0 34) + 1) rfl (bi_add (by omega) (by omega) (by omega)) ?_
            have hIx62_ : gi (sm_pI Sx48_ 13 0 34 ((Sx48_.1 13 0 34) + 1)) := gi_pI hIx49_ (show 0 ≤ (Sx48_.1 13 0 34) + 1 ∧ (Sx48_.1 13 0 34) + 1 ≤ 1023 from ⟨by omega, by omega⟩)
            have hFx63_ : ai_fr (sx_W vw_319g) S0_ (sm_pI Sx48_ 13 0 34 ((Sx48_.1 13 0 34) + 1)) := ai_fr_tr hFx52_ (ai_fr_pI rfl)
            refine sm_T_go 2 (c1 := (148, [some (.inr (.inr (some (13, 0))))], [.inr (.inr (some (13, 0)))], sm_pI Sx48_ 13 0 34 ((Sx48_.1 13 0 34) + 1))) rfl ?_
            refine sm_T_cal (d1 := 1) (Q1 := vq_317g b_ n_ T_ F_ I_ A_ X_ M_ s0_ t_ o_ r_.2.1 g_ (r_.2.2 ++ c_) w0_ (sm_pI Sx48_ 13 0 34 ((Sx48_.1 13 0 34) + 1))) rfl rfl (by decide) (vc_317g b_ n_ T_ F_ I_ A_ X_ M_ s0_ t_ o_ r_.2.1 g_ (r_.2.2 ++ c_) w0_ (sm_pI Sx48_ 13 0 34 ((Sx48_.1 13 0 34) + 1)) hIx62_ (by exact ws9_) (by exact hwt_) (by exact hz_.2.1.2.1.1) (by (show _ + 1 = _; omega)) (by exact mo9_) (by omega) (by exact xg_fr (w_ := ([(13, 34)], [], [])) xp_ (ai_fr_pI rfl) rfl rfl rfl rfl rfl rfl rfl rfl)) (fun u_ Sx64_ px67_ => ?_)
            obtain ⟨rfl, hIx65_, hFx66_, px67_⟩ := px67_
            have hFx68_ : ai_fr (sx_W vw_319g) S0_ Sx64_ := ai_fr_tr hFx63_ (fr_le hFx66_ rfl)
            obtain ⟨w1_, ws148_, wl148_, x148_⟩ := px67_
            have g148_ := rg_fr (b_ := b_) (n_ := n_) (T_ := T_) (x_ := .inr r_.1) (S_ := (sm_pI Sx48_ 13 0 34 ((Sx48_.1 13 0 34) + 1))) gq_ hFx66_ rfl rfl rfl
            have op148_ := (hFx66_.1 13 0 33 rfl).trans op9_
            have mo148_ := (hFx66_.1 13 0 27 rfl).trans mo9_
            have vl148_ : Sx64_.1 13 0 34 = (g_.length : Int) + 1 := (hFx66_.1 13 0 34 rfl).trans (by show _ + 1 = _; omega)
            refine sm_T_go 1 (c1 := (152, [some (.inr (.inr (some (13, 0))))], [.inr (.inr (some (13, 0)))], Sx64_)) rfl ?_
            refine sm_T_cal (d1 := 0) (Q1 := vq_292  Sx64_) rfl rfl (by decide) (vc_292  Sx64_ hIx65_ ) (fun u_ Sx69_ px72_ => ?_)
            obtain ⟨rfl, vx74_, rfl, px72_⟩ := px72_
            have e152_ := px72_
            refine sm_T_rz rfl (by (rw [e152_]; split; (right; rfl); (left; rfl))) ⟨_, _, rfl, _, rfl, hIx65_, hFx68_, ?_⟩
            have t1_ : (p_ti false t_ (r_.2.1 :: g_) (r_.2.2 ++ c_)).1 = r_.2.1 :: g_ := by rw [ti2]
            rw [hy_]
            refine ⟨⟨⟨g148_, ⟨w1_, ws148_, Or.inr ⟨rfl, wl148_⟩⟩, op148_, ⟨?_, fun _ => ?_, fun z_ => absurd z_ (by decide)⟩, mo148_⟩, by rw [← hy_]; exact xok_, ?_, ?_⟩, by rw [e152_, if_pos g148_.1]; rfl⟩
            · show _ = ((p_ti false t_ (r_.2.1 :: g_) (r_.2.2 ++ c_)).1.length : Int); rw [t1_, vl148_, List.length_cons]; push_cast; rfl
            · show stk _ (p_ti false t_ (r_.2.1 :: g_) (r_.2.2 ++ c_)).1; rw [t1_]; obtain ⟨G9_, V9_, y1_, y2_, y3_, y4_⟩ := x148_; rw [← y2_]; exact svl_stk y4_
            · show xg F_ I_ A_ X_ M_ s0_ (p_ti false t_ (r_.2.1 :: g_) (r_.2.2 ++ c_)).1 _ _; rw [t1_]; exact x148_
            · show o_wd o_ (p_ti false t_ (r_.2.1 :: g_) (r_.2.2 ++ c_)).1.tail; rw [t1_]; exact hz_.2.2.2
      · have cx16_ : ¬ ((S0_.1 13 0 27) ≠ 2) := of_decide_eq_false cx16_
        exfalso; omega
    · have cx14_ : ¬ (vx13_ = 0) := of_decide_eq_false cx14_
      have k40_ : lx_kd b_ n_ p_ = 40 := e52_.mp (by omega)
      have n60_ : o_mk o_ ≠ 60 := fun z_ => by have q9_ := hst_; rw [pA_x k40_ z_] at q9_; cases q9_
      obtain ⟨q_, hq_, hy_⟩ : ∃ q_, p_ad b_ n_ p_ = .inr q_ ∧ y_ = (0, false, q_, (if t_ = true then -2 else -1, p_) :: o_, g_, c_) := by have q9_ := hst_; rw [pA_o k40_ n60_] at q9_; obtain ⟨q_, q1_, q2_⟩ := pb_inr q9_; cases q2_; exact ⟨q_, q1_, rfl⟩
      refine sm_T_go 2 (c1 := (61, [some (.inr (.inr (some (13, 0))))], [.inl 40, .inr (.inr (some (13, 0)))], S0_)) rfl ?_
      refine sm_T_cal (d1 := 3) (Q1 := vq_318 40 b_ n_ T_ 1 p_ i_ (o_mk o_) w0_ S0_) rfl rfl (by decide) (vc_318 40 b_ n_ T_ 1 p_ i_ (o_mk o_) w0_ S0_ hI_ (by exact ht_) (by exact hf_) (by exact ⟨hi1_, hi2_⟩) (by omega) (by exact hw_) (by omega) (by exact ⟨hop_, hz_.2.1.2.1.2.1⟩) (by decide) (by exact hmo1_)) (fun u_ Sx75_ px78_ => ?_)
      obtain ⟨rfl, hIx76_, hFx77_, px78_⟩ := px78_
      have hFx79_ : ai_fr (sx_W vw_319g) S0_ Sx75_ := ai_fr_tr hF_ (fr_le hFx77_ rfl)
      have e61_ := px78_
      have v61_ := vs_fr hv_ hFx77_ rfl rfl rfl
      have m61_ := (hFx77_.1 13 0 27 rfl).trans hmo1_
      have x61_ := xg_fr hz_.2.2.1 hFx77_ rfl rfl rfl rfl rfl rfl rfl rfl
      refine sm_T_go 1 (c1 := (65, [some (.inr (.inr (some (13, 0))))], [.inl 0], Sx75_)) rfl ?_
      refine sm_T_rz rfl (by omega) ⟨_, _, rfl, _, rfl, hIx76_, hFx79_, ?_⟩
      rw [hy_]
      obtain ⟨z1_, z2_, z3_⟩ := (e61_.2 n60_).2 q_ hq_
      refine ⟨⟨⟨z1_, ⟨_, z2_, Or.inl ⟨rfl, Or.inl ⟨rfl, wl_op hwt_ (rp_rtp ht_ hi2_ (by omega))⟩⟩⟩, ?_, v61_, m61_⟩, by rw [← hy_]; exact xok_, x61_, ?_⟩, rfl⟩
      · rw [z3_]; show _ = (((if (if t_ = true then (-2 : Int) else -1) < 0 then 1 else 0) + o_mk o_ : Nat) : Int); rw [if_pos (by split <;> decide)]; push_cast; omega
      · have q9_ := hz_.2.2.2; show o_wd _ g_; unfold o_wd; have q8_ : (if t_ = true then (-2 : Int) else -1) = -2 ∨ (if t_ = true then (-2 : Int) else -1) = -1 := (by cases t_; right; rfl; left; rfl); rw [if_neg (by show ¬ (if t_ = true then (-2 : Int) else -1) = -3; omega), if_neg (by show ¬ (if t_ = true then (-2 : Int) else -1) = -4; omega), if_pos (by show (if t_ = true then (-2 : Int) else -1) < 0; omega)]; exact q9_
  · have cx7_ : ¬ (vx6_ = 0) := of_decide_eq_false cx7_
    have k33_ : lx_kd b_ n_ p_ = 33 := e3_.mp (by omega)
    obtain ⟨q_, hq_, hy_⟩ : ∃ q_, p_ad b_ n_ p_ = .inr q_ ∧ y_ = (0, !t_, q_, o_, g_, c_) := by have q9_ := hst_; rw [pA_b k33_] at q9_; obtain ⟨q_, q1_, q2_⟩ := pb_inr q9_; cases q2_; exact ⟨q_, q1_, rfl⟩
    refine sm_T_go 1 (c1 := (10, [some (.inr (.inr (some (13, 0))))], [.inr (.inr (some (13, 0)))], S0_)) rfl ?_
    refine sm_T_cal (d1 := 0) (Q1 := vq_312 w0_ S0_) rfl rfl (by decide) (vc_312 w0_ S0_ hI_ (by exact hw_)) (fun u_ Sx80_ px83_ => ?_)
    obtain ⟨rfl, vx85_, rfl, px83_⟩ := px83_
    have e10 := px83_
    refine sm_T_go 1 (c1 := (15, [some (.inr (.inr (some (13, 0))))], [.inl 33, .inl vx85_], S0_)) rfl ?_
    refine sm_T_br (a := 1) (z := 21) rfl (fun cx86_ => ?_) (fun cx86_ => ?_)
    · have cx86_ : vx85_ ≠ 33 := of_decide_eq_true cx86_
      have tf_ := tp_.2 (by omega)
      refine sm_T_go 3 (c1 := (40, [some (.inr (.inr (some (13, 0))))], [.inl 1, .inl 33, .inr (.inr (some (13, 0)))], S0_)) rfl ?_
      refine sm_T_cal (d1 := 0) (Q1 := vq_311 33 1 w0_ S0_) rfl rfl (by decide) (vc_311 33 1 w0_ S0_ hI_ (by exact hw_) (by omega) (by decide) (by decide)) (fun u_ Sx87_ px90_ => ?_)
      obtain ⟨rfl, hIx88_, hFx89_, px90_⟩ := px90_
      have hFx91_ : ai_fr (sx_W vw_319g) S0_ Sx87_ := ai_fr_tr hF_ (fr_le hFx89_ rfl)
      have ws40_ := px90_
      have g40_ := rg_fr hg_ hFx89_ rfl rfl rfl
      have t40_ := rtab_fr ht_ hFx89_ rfl rfl rfl rfl rfl
      have v40_ := vs_fr hv_ hFx89_ rfl rfl rfl
      have op40_ := (hFx89_.1 13 0 33 rfl).trans hop_
      have x40_ := xg_fr hz_.2.2.1 hFx89_ rfl rfl rfl rfl rfl rfl rfl rfl
      refine sm_T_go 1 (c1 := (44, [some (.inr (.inr (some (13, 0))))], [.inr (.inr (some (13, 0)))], Sx87_)) rfl ?_
      refine sm_T_cal (d1 := 2) (Q1 := vq_297 b_ n_ T_ (.inr p_) Sx87_) rfl rfl (by decide) (vc_297 b_ n_ T_ (.inr p_) Sx87_ hIx88_ (by first | exact t40_ | exact rtab_fr ht_ hFx91_ rfl rfl rfl rfl rfl) (by first | exact g40_ | exact hg_) (by (intro q_ e_; cases e_; omega))) (fun u_ Sx92_ px95_ => ?_)
      obtain ⟨rfl, hIx93_, hFx94_, px95_⟩ := px95_
      have hFx96_ : ai_fr (sx_W vw_319g) S0_ Sx92_ := ai_fr_tr hFx91_ (fr_le hFx94_ rfl)
      have g44_ := px95_.1
      rw [pb_r rfl, hq_] at g44_
      first | (have ws44_ := ws_fr ws40_ hFx94_ rfl rfl rfl) | (have ws44_ := ws_fr ws9_ hFx94_ rfl rfl rfl; rw [x6_] at ws44_) | (have ws44_ := ws_fr ws9_ hFx94_ rfl rfl rfl)
      first | (have v44_ := vs_fr v40_ hFx94_ rfl rfl rfl; have op44_ := (hFx94_.1 13 0 33 rfl).trans op40_) | (have v44_ := vs_fr (vs_137 hv_) hFx94_ rfl rfl rfl; have op44_ := (hFx94_.1 13 0 33 rfl).trans hop_)
      first | (have x44_ := xg_fr x40_ hFx94_ rfl rfl rfl rfl rfl rfl rfl rfl) | (have x44_ := xg_fr (S_ := Sx87_) (xg_fr (w_ := ([], [137], [])) hz_.2.2.1 (ai_fr_aI rfl) rfl rfl rfl rfl rfl rfl rfl rfl) hFx94_ rfl rfl rfl rfl rfl rfl rfl rfl)
      refine sm_T_go 1 (c1 := (48, [some (.inr (.inr (some (13, 0))))], [.inl 0], Sx92_)) rfl ?_
      refine sm_T_rz rfl (by omega) ⟨_, _, rfl, _, rfl, hIx93_, hFx96_, ?_⟩
      rw [hy_]
      refine ⟨⟨⟨g44_, ⟨_, ws44_, Or.inl ⟨rfl, ?_⟩⟩, op44_, v44_, (hFx96_.1 13 0 27 rfl).trans hmo1_⟩, by rw [← hy_]; exact xok_, x44_, hz_.2.2.2⟩, rfl⟩
      first | exact Or.inr ⟨u0_, rfl, hu2_⟩ | (refine Or.inr ⟨w0_, ?_, tf_.2⟩; rw [tf_.1]; rfl)
    · have cx86_ : ¬ (vx85_ ≠ 33) := of_decide_eq_false cx86_
      obtain ⟨u0_, hu1_, hu2_⟩ := tp_.1 (by omega)
      subst hu1_
      have wx_ : S0_.1 13 0 32 = (u0_.length : Int) + 1 := by rw [hww_, List.length_cons]; push_cast; rfl
      obtain ⟨-, y9_, u9_, w3_, w4_, w5_⟩ := ws_tp hw_ (by omega)
      cases w3_
      have w6_ : S0_.2.2.1 137 0 (S0_.1 13 0 32 - 1).toNat = (if t_ = true then 1 else 0) := w4_
      have x6_ : i_xor (S0_.2.2.1 137 0 (S0_.1 13 0 32 - 1).toNat) 1 = (if (!t_) = true then 1 else 0) := by rw [w6_]; cases t_; exact x1_b.2; exact x1_b.1
      have x7_ : 0 ≤ i_xor (S0_.2.2.1 137 0 (S0_.1 13 0 32 - 1).toNat) 1 ∧ i_xor (S0_.2.2.1 137 0 (S0_.1 13 0 32 - 1).toNat) 1 ≤ 1280 := by rw [x6_]; cases t_ <;> decide
      have ws9_ := ws_top (z_ := i_xor (S0_.2.2.1 137 0 (S0_.1 13 0 32 - 1).toNat) 1) hw_ w5_
      have bx97_ : 0 ≤ S0_.1 13 0 32 ∧ S0_.1 13 0 32 ≤ 1023 := hI_.1 13 0 32 rfl
      refine sm_T_go 5 (c1 := (27, [some (.inr (.inr (some (13, 0))))], [.inl 1, .inl (S0_.1 13 0 32), .inr (.inr (some (137, 0)))], S0_)) rfl ?_
      refine sm_T_bin (w := (S0_.1 13 0 32) - 1) rfl (bi_sub (by omega) (by omega) (by omega)) ?_
      refine sm_T_go 1 (c1 := (29, [some (.inr (.inr (some (13, 0))))], [.inl ((S0_.1 13 0 32) - 1), .inr (.inr (some (137, 0))), .inl ((S0_.1 13 0 32) - 1), .inr (.inr (some (137, 0)))], S0_)) rfl ?_
      refine sm_T_iald (n := 1024) rfl rfl (by omega) (by omega) ?_
      have bx98_ : 0 ≤ S0_.2.2.1 137 0 ((S0_.1 13 0 32) - 1).toNat ∧ S0_.2.2.1 137 0 ((S0_.1 13 0 32) - 1).toNat ≤ 1280 := hI_.2 137 0 _
      refine sm_T_go 1 (c1 := (31, [some (.inr (.inr (some (13, 0))))], [.inl 1, .inl (S0_.2.2.1 137 0 ((S0_.1 13 0 32) - 1).toNat), .inl ((S0_.1 13 0 32) - 1), .inr (.inr (some (137, 0)))], S0_)) rfl ?_
      refine sm_T_bin (w := (i_xor (S0_.2.2.1 137 0 ((S0_.1 13 0 32) - 1).toNat) 1)) rfl rfl ?_
      refine sm_T_iast (n := 1024) rfl rfl (by omega) (by omega) ?_
      have hIx99_ : gi (sm_aI S0_ 137 0 ((S0_.1 13 0 32) - 1).toNat (i_xor (S0_.2.2.1 137 0 ((S0_.1 13 0 32) - 1).toNat) 1)) := gi_aI hI_ (show 0 ≤ (i_xor (S0_.2.2.1 137 0 ((S0_.1 13 0 32) - 1).toNat) 1) ∧ (i_xor (S0_.2.2.1 137 0 ((S0_.1 13 0 32) - 1).toNat) 1) ≤ 1280 from ⟨by omega, by omega⟩)
      have hFx100_ : ai_fr (sx_W vw_319g) S0_ (sm_aI S0_ 137 0 ((S0_.1 13 0 32) - 1).toNat (i_xor (S0_.2.2.1 137 0 ((S0_.1 13 0 32) - 1).toNat) 1)) := ai_fr_tr hF_ (ai_fr_aI rfl)
      refine sm_T_go 2 (c1 := (44, [some (.inr (.inr (some (13, 0))))], [.inr (.inr (some (13, 0)))], sm_aI S0_ 137 0 ((S0_.1 13 0 32) - 1).toNat (i_xor (S0_.2.2.1 137 0 ((S0_.1 13 0 32) - 1).toNat) 1))) rfl ?_
      refine sm_T_cal (d1 := 2) (Q1 := vq_297 b_ n_ T_ (.inr p_) (sm_aI S0_ 137 0 ((S0_.1 13 0 32) - 1).toNat (i_xor (S0_.2.2.1 137 0 ((S0_.1 13 0 32) - 1).toNat) 1))) rfl rfl (by decide) (vc_297 b_ n_ T_ (.inr p_) (sm_aI S0_ 137 0 ((S0_.1 13 0 32) - 1).toNat (i_xor (S0_.2.2.1 137 0 ((S0_.1 13 0 32) - 1).toNat) 1)) hIx99_ (by first | exact t40_ | exact rtab_fr ht_ hFx100_ rfl rfl rfl rfl rfl) (by first | exact g40_ | exact hg_) (by (intro q_ e_; cases e_; omega))) (fun u_ Sx101_ px104_ => ?_)
      obtain ⟨rfl, hIx102_, hFx103_, px104_⟩ := px104_
      have hFx105_ : ai_fr (sx_W vw_319g) S0_ Sx101_ := ai_fr_tr hFx100_ (fr_le hFx103_ rfl)
      have g44_ := px104_.1
      rw [pb_r rfl, hq_] at g44_
      first | (have ws44_ := ws_fr ws40_ hFx103_ rfl rfl rfl) | (have ws44_ := ws_fr ws9_ hFx103_ rfl rfl rfl; rw [x6_] at ws44_) | (have ws44_ := ws_fr ws9_ hFx103_ rfl rfl rfl)
      first | (have v44_ := vs_fr v40_ hFx103_ rfl rfl rfl; have op44_ := (hFx103_.1 13 0 33 rfl).trans op40_) | (have v44_ := vs_fr (vs_137 hv_) hFx103_ rfl rfl rfl; have op44_ := (hFx103_.1 13 0 33 rfl).trans hop_)
      first | (have x44_ := xg_fr x40_ hFx103_ rfl rfl rfl rfl rfl rfl rfl rfl) | (have x44_ := xg_fr (S_ := (sm_aI S0_ 137 0 ((S0_.1 13 0 32) - 1).toNat (i_xor (S0_.2.2.1 137 0 ((S0_.1 13 0 32) - 1).toNat) 1))) (xg_fr (w_ := ([], [137], [])) hz_.2.2.1 (ai_fr_aI rfl) rfl rfl rfl rfl rfl rfl rfl rfl) hFx103_ rfl rfl rfl rfl rfl rfl rfl rfl)
      refine sm_T_go 1 (c1 := (48, [some (.inr (.inr (some (13, 0))))], [.inl 0], Sx101_)) rfl ?_
      refine sm_T_rz rfl (by omega) ⟨_, _, rfl, _, rfl, hIx102_, hFx105_, ?_⟩
      rw [hy_]
      refine ⟨⟨⟨g44_, ⟨_, ws44_, Or.inl ⟨rfl, ?_⟩⟩, op44_, v44_, (hFx105_.1 13 0 27 rfl).trans hmo1_⟩, by rw [← hy_]; exact xok_, x44_, hz_.2.2.2⟩, rfl⟩
      first | exact Or.inr ⟨u0_, rfl, hu2_⟩ | (refine Or.inr ⟨w0_, ?_, tf_.2⟩; rw [tf_.1]; rfl)
