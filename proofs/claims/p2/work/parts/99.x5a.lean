/-! the class reader: names; written by wip/p55/gen/vg -/
/-! Reader.readNamed -/
def vw_143 : sx_Wl := ([(7, 2), (7, 16), (10, 2), (10, 3), (10, 4), (10, 5), (10, 6), (10, 7), (10, 8)], [74, 84], [])
def vq_143 (o_ : List (Int × Nat)) (g_ : List Int) (c_ : List Int) (b_ : Nat → Int) (n_ : Nat) (p_ : Nat) (A_ : pA) (M_ : Nat) (S0_ : sm_S) (u_ : Option sm_V) (S1_ : sm_S) : Prop := u_ = none ∧ gi S1_ ∧ ai_fr (sx_W vw_143) S0_ S1_ ∧ (∃ r_, p_na b_ n_ A_ M_ p_ = .inr r_ ∧ xr false o_ (r_.2.1 :: g_) (r_.2.2 ++ c_) S1_ ∧ ct b_ n_ r_.1 S1_)
def vx_143 (o_ : List (Int × Nat)) (g_ : List Int) (c_ : List Int) (b_ : Nat → Int) (n_ : Nat) (p_ : Nat) (A_ : pA) (M_ : Nat) (S0_ : sm_S) (S1_ : sm_S) : Prop := gi S1_ ∧ ai_fr (sx_W vw_143) S0_ S1_ ∧ (∃ e_, p_na b_ n_ A_ M_ p_ = .inl e_ ∧ ter S1_ e_)
set_option maxHeartbeats 400000 in
set_option maxRecDepth 20000 in
theorem vl_143 {sc_ : Nat × (Nat → Int)} (o_ : List (Int × Nat)) (g_ : List Int) (c_ : List Int) (b_ : Nat → Int) (n_ : Nat) (p_ : Nat) (A_ : pA) (M_ : Nat) (S0_ : sm_S) (hx_ : xr false o_ g_ c_ S0_) (hc_ : ct b_ n_ p_ S0_) (hk_ : lx_kd b_ n_ p_ = 1) (hr_ : er b_ n_ A_ M_ S0_) (ho_ : g_.length ≤ 487) (hl_ : c_.length ≤ 65530) : ∀ nn_ : Nat, (∀ (dot_ : Int) (w_ : Int) (S_ : sm_S), gi S_ → ai_fr (sx_W vw_143) S0_ S_ → ((∃ q_ l_, ct b_ n_ q_ S_ ∧ xr false o_ g_ (l_ ++ c_) S_ ∧ l_.length ≤ 1 ∧ (0 ≤ w_ ∧ w_ ≤ 8) ∧ ((dot_ = 0 ∧ p_na b_ n_ A_ M_ p_ = .inr (q_, w_, l_)) ∨ (dot_ = 1 ∧ p_na b_ n_ A_ M_ p_ = p_bi b_ n_ w_ l_ q_))) ∧ True) → (0) < nn_ → sm_T (mt_P sc_) 2 143 (274, [some (.inr (.inr (some (7, 0)))), none, none, none, some (.inl dot_), none, some (.inl w_)], [], S_) (fun r_ => (∃ u_ S1_, r_ = (.inl u_, S1_, 0) ∧ vq_143 o_ g_ c_ b_ n_ p_ A_ M_ S0_ u_ S1_) ∨ ∃ S1_, r_ = (.inr 2, S1_, 1) ∧ vx_143 o_ g_ c_ b_ n_ p_ A_ M_ S0_ S1_)) := by
  intro nn_
  induction nn_ with
  | zero => exact fun _ _ _ _ _ _ h_ => absurd h_ (Nat.not_lt_zero _)
  | succ nn_ ih_ =>
    rintro dot_ w_ S_ hI_ hF_ ⟨h1_, -⟩ hm_
    obtain ⟨q_, l_, c1_, x1_, l1_, w1_, h2_⟩ := h1_
    have hn1_ := c1_.2.2.1
    have st1_ := c1_.2.2.2.2.2.1
    have kd1_ := c1_.2.2.2.2.2.2.2.1
    have hp1_ := c1_.2.2.2.1
    have l2_ : (l_ ++ c_).length ≤ 65532 := by rw [List.length_append]; omega
    refine sm_T_go 1 (c1 := (276, [some (.inr (.inr (some (7, 0)))), none, none, none, some (.inl dot_), none, some (.inl w_)], [.inl dot_], S_)) rfl ?_
    refine sm_T_b0 (a := 0) (z := 26) rfl (fun cx1_ => ?_) (fun cx1_ => ?_)
    · have cx1_ : dot_ = 0 := of_decide_eq_true cx1_
      refine sm_T_go 2 (c1 := (305, [some (.inr (.inr (some (7, 0)))), none, none, none, some (.inl dot_), none, some (.inl w_)], [.inl dot_, .inr (.inr (some (7, 0)))], S_)) rfl ?_
      refine sm_T_b0 (a := 0) (z := 7) rfl (fun cx2_ => ?_) (fun cx2_ => ?_)
      · have cx2_ : dot_ = 0 := of_decide_eq_true cx2_
        refine sm_T_go 1 (c1 := (314, [some (.inr (.inr (some (7, 0)))), none, none, none, some (.inl dot_), none, some (.inl w_)], [.inl w_, .inr (.inr (some (7, 0)))], S_)) rfl ?_
        refine sm_T_cal (d1 := 0) (Q1 := vq_138 w_ false o_ g_ _ S_) rfl rfl (by decide) (vc_138 w_ false o_ g_ _ S_ hI_ (by first | exact x5_.1 | exact x1_.1) (by omega) (by exact ho_)) (fun u_ Sx3_ px6_ => ?_)
        obtain ⟨rfl, hIx4_, hFx5_, px6_⟩ := px6_
        have hFx7_ : ai_fr (sx_W vw_143) S0_ Sx3_ := ai_fr_tr hF_ (fr_le hFx5_ rfl)
        have e314_ := px6_
        have f314_ := hFx5_.1 7 0 17 rfl
        have F314_ := hFx5_
        refine sm_T_rv rfl (Or.inl ⟨_, _, rfl, rfl, hIx4_, hFx7_, ?_⟩)
        rcases h2_ with h2_ | h2_
        · first | (exfalso; omega) | (refine ⟨(q_, w_, l_), h2_.2, ⟨e314_, f314_.trans x1_.2⟩, ct_fr c1_ F314_ rfl rfl rfl rfl rfl rfl rfl⟩)
        · first | (exfalso; omega) | (refine ⟨((lx_nx b_ n_ q_), 1, cw 11 (lx_vl b_ n_ q_) 0 :: l_), ?_, ⟨?_, f314_.trans x5_.2⟩, ct_fr c5_ F314_ rfl rfl rfl rfl rfl rfl rfl⟩; (rw [h2_.2]; unfold p_bi; rw [k3_]; show pb (p_ad b_ n_ q_) _ = _; rw [a5_, k4_.2.1]; rfl); (rw [k4_.2.1] at e314_; exact e314_))
      · have cx2_ : ¬ (dot_ = 0) := of_decide_eq_false cx2_
        exfalso; omega
    · have cx1_ : ¬ (dot_ = 0) := of_decide_eq_false cx1_
      refine sm_T_go 6 (c1 := (287, [some (.inr (.inr (some (7, 0)))), none, none, none, some (.inl dot_), none, some (.inl w_)], [.inl 1, .inl w_, .inl 0, .inr (.inr (some (7, 0))), .inl 11, .inr (.inr (some (7, 0)))], S_)) rfl ?_
      refine sm_T_bin (w := w_ - 1) rfl (bi_sub (by omega) (by omega) (by omega)) ?_
      refine sm_T_calx (d1 := 1) (Q1 := vq_122 0 (w_ - 1) b_ n_ q_ S_) (Q2 := vx_122 0 (w_ - 1) b_ n_ q_ S_) rfl rfl (by decide) (vc_122 0 (w_ - 1) b_ n_ q_ S_ hI_ (by exact c1_)) rfl (fun Sx8_ px11_ => ?_) (fun u_ Sx8_ px11_ => ?_)
      · obtain ⟨hIx9_, hFx10_, px11_⟩ := px11_
        refine Or.inr ⟨_, rfl, hIx9_, ai_fr_tr hF_ (fr_le hFx10_ rfl), ?_⟩
        obtain ⟨e_, k1_, k2_⟩ := px11_
        refine ⟨e_, ?_, k2_⟩
        rcases h2_ with h2_ | h2_
        · omega
        · rw [h2_.2]; unfold p_bi; rw [k1_]; rfl
      obtain ⟨vx13_, rfl, hIx9_, hFx10_, px11_⟩ := px11_
      have hFx12_ : ai_fr (sx_W vw_143) S0_ Sx8_ := ai_fr_tr hF_ (fr_le hFx10_ rfl)
      have k3_ := px11_
      have k4_ := p_nu_ok k3_
      have c2_ := ct_fr c1_ hFx10_ rfl rfl rfl rfl rfl rfl rfl
      have x2_ := xr_fr x1_ hFx10_ rfl rfl rfl rfl rfl rfl rfl rfl rfl
      refine sm_T_go 1 (c1 := (292, [some (.inr (.inr (some (7, 0)))), none, none, none, some (.inl dot_), none, some (.inl w_)], [.inl 0, .inl vx13_, .inl 11, .inr (.inr (some (7, 0)))], Sx8_)) rfl ?_
      refine sm_T_cal (d1 := 0) (Q1 := vq_140 11 vx13_ 0 o_ g_ (l_ ++ c_) Sx8_) rfl rfl (by decide) (vc_140 11 vx13_ 0 o_ g_ (l_ ++ c_) Sx8_ hIx9_ (by exact x2_.1) (by decide) (by omega) (by decide) (by omega)) (fun u_ Sx14_ px17_ => ?_)
      obtain ⟨rfl, hIx15_, hFx16_, px17_⟩ := px17_
      have hFx18_ : ai_fr (sx_W vw_143) S0_ Sx14_ := ai_fr_tr hFx12_ (fr_le hFx16_ rfl)
      have x3_ := px17_
      have f3_ := hFx16_.1 7 0 17 rfl
      have c3_ := ct_fr c2_ hFx16_ rfl rfl rfl rfl rfl rfl rfl
      have x4_ : xr false o_ g_ _ _ := ⟨x3_, f3_.trans x2_.2⟩
      refine sm_T_go 2 (c1 := (299, [some (.inr (.inr (some (7, 0)))), none, none, none, some (.inl dot_), none, some (.inl w_)], [.inr (.inr (some (10, 0)))], Sx14_)) rfl ?_
      refine sm_T_calx (d1 := 1) (Q1 := vq_191 b_ n_ (lx_en b_ n_ q_) Sx14_) (Q2 := vx_191 b_ n_ (lx_en b_ n_ q_) Sx14_) rfl rfl (by decide) (vc_191 b_ n_ (lx_en b_ n_ q_) Sx14_ hIx15_ (by exact c3_.1) (by exact c3_.2.1) (by exact c3_.2.2.1) (by exact c3_.2.2.2.2.2.2.1) (by exact (lx_en_le (b := b_) c3_.2.2.2.1).2)) rfl (fun Sx19_ px22_ => ?_) (fun u_ Sx19_ px22_ => ?_)
      · obtain ⟨hIx20_, hFx21_, px22_⟩ := px22_
        refine Or.inr ⟨_, rfl, hIx20_, ai_fr_tr hFx18_ (fr_le hFx21_ rfl), ?_⟩
        refine ⟨(1, (lx_nx b_ n_ q_)), ?_, px22_.2⟩
        rcases h2_ with h2_ | h2_
        · omega
        · rw [h2_.2]; unfold p_bi; rw [k3_]; show pb (p_ad b_ n_ q_) _ = _; rw [p_ad_x px22_.1]; rfl
      obtain ⟨rfl, hIx20_, hFx21_, px22_⟩ := px22_
      have hFx23_ : ai_fr (sx_W vw_143) S0_ Sx19_ := ai_fr_tr hFx18_ (fr_le hFx21_ rfl)
      have c5_ : ct b_ n_ (lx_nx b_ n_ q_) _ := px22_
      have a5_ := p_ad_c px22_
      have x5_ := xr_fr x4_ hFx21_ rfl rfl rfl rfl rfl rfl rfl rfl rfl
      have st5_ := c5_.2.2.2.2.2.1
      have kd5_ := c5_.2.2.2.2.2.2.2.1
      have hp5_ := c5_.2.2.2.1
      refine sm_T_go 2 (c1 := (305, [some (.inr (.inr (some (7, 0)))), none, none, none, some (.inl dot_), none, some (.inl w_)], [.inl dot_, .inr (.inr (some (7, 0)))], Sx19_)) rfl ?_
      refine sm_T_b0 (a := 0) (z := 7) rfl (fun cx24_ => ?_) (fun cx24_ => ?_)
      · have cx24_ : dot_ = 0 := of_decide_eq_true cx24_
        refine sm_T_go 1 (c1 := (314, [some (.inr (.inr (some (7, 0)))), none, none, none, some (.inl dot_), none, some (.inl w_)], [.inl w_, .inr (.inr (some (7, 0)))], Sx19_)) rfl ?_
        refine sm_T_cal (d1 := 0) (Q1 := vq_138 w_ false o_ g_ _ Sx19_) rfl rfl (by decide) (vc_138 w_ false o_ g_ _ Sx19_ hIx20_ (by first | exact x5_.1 | exact x1_.1) (by omega) (by exact ho_)) (fun u_ Sx25_ px28_ => ?_)
        obtain ⟨rfl, hIx26_, hFx27_, px28_⟩ := px28_
        have hFx29_ : ai_fr (sx_W vw_143) S0_ Sx25_ := ai_fr_tr hFx23_ (fr_le hFx27_ rfl)
        have e314_ := px28_
        have f314_ := hFx27_.1 7 0 17 rfl
        have F314_ := hFx27_
        refine sm_T_rv rfl (Or.inl ⟨_, _, rfl, rfl, hIx26_, hFx29_, ?_⟩)
        rcases h2_ with h2_ | h2_
        · first | (exfalso; omega) | (refine ⟨(q_, w_, l_), h2_.2, ⟨e314_, f314_.trans x1_.2⟩, ct_fr c1_ F314_ rfl rfl rfl rfl rfl rfl rfl⟩)
        · first | (exfalso; omega) | (refine ⟨((lx_nx b_ n_ q_), 1, cw 11 (lx_vl b_ n_ q_) 0 :: l_), ?_, ⟨?_, f314_.trans x5_.2⟩, ct_fr c5_ F314_ rfl rfl rfl rfl rfl rfl rfl⟩; (rw [h2_.2]; unfold p_bi; rw [k3_]; show pb (p_ad b_ n_ q_) _ = _; rw [a5_, k4_.2.1]; rfl); (rw [k4_.2.1] at e314_; exact e314_))
      · have cx24_ : ¬ (dot_ = 0) := of_decide_eq_false cx24_
        refine sm_T_go 2 (c1 := (314, [some (.inr (.inr (some (7, 0)))), none, none, none, some (.inl dot_), none, some (.inl w_)], [.inl 1, .inr (.inr (some (7, 0)))], Sx19_)) rfl ?_
        refine sm_T_cal (d1 := 0) (Q1 := vq_138 1 false o_ g_ _ Sx19_) rfl rfl (by decide) (vc_138 1 false o_ g_ _ Sx19_ hIx20_ (by first | exact x5_.1 | exact x1_.1) (by omega) (by exact ho_)) (fun u_ Sx30_ px33_ => ?_)
        obtain ⟨rfl, hIx31_, hFx32_, px33_⟩ := px33_
        have hFx34_ : ai_fr (sx_W vw_143) S0_ Sx30_ := ai_fr_tr hFx23_ (fr_le hFx32_ rfl)
        have e314_ := px33_
        have f314_ := hFx32_.1 7 0 17 rfl
        have F314_ := hFx32_
        refine sm_T_rv rfl (Or.inl ⟨_, _, rfl, rfl, hIx31_, hFx34_, ?_⟩)
        rcases h2_ with h2_ | h2_
        · first | (exfalso; omega) | (refine ⟨(q_, w_, l_), h2_.2, ⟨e314_, f314_.trans x1_.2⟩, ct_fr c1_ F314_ rfl rfl rfl rfl rfl rfl rfl⟩)
        · first | (exfalso; omega) | (refine ⟨((lx_nx b_ n_ q_), 1, cw 11 (lx_vl b_ n_ q_) 0 :: l_), ?_, ⟨?_, f314_.trans x5_.2⟩, ct_fr c5_ F314_ rfl rfl rfl rfl rfl rfl rfl⟩; (rw [h2_.2]; unfold p_bi; rw [k3_]; show pb (p_ad b_ n_ q_) _ = _; rw [a5_, k4_.2.1]; rfl); (rw [k4_.2.1] at e314_; exact e314_))
set_option maxHeartbeats 400000 in
set_option maxRecDepth 20000 in
theorem vc_143 {sc_ : Nat × (Nat → Int)} (o_ : List (Int × Nat)) (g_ : List Int) (c_ : List Int) (b_ : Nat → Int) (n_ : Nat) (p_ : Nat) (A_ : pA) (M_ : Nat) (S0_ : sm_S) (hI_ : gi S0_) (hx_ : xr false o_ g_ c_ S0_) (hc_ : ct b_ n_ p_ S0_) (hk_ : lx_kd b_ n_ p_ = 1) (hr_ : er b_ n_ A_ M_ S0_) (ho_ : g_.length ≤ 487) (hl_ : c_.length ≤ 65530) : sm_T (mt_P sc_) 2 143 (0, [some (.inr (.inr (some (7, 0)))), none, none, none, none, none, none], [], S0_) (fun r_ => (∃ u_ S1_, r_ = (.inl u_, S1_, 0) ∧ vq_143 o_ g_ c_ b_ n_ p_ A_ M_ S0_ u_ S1_) ∨ ∃ S1_, r_ = (.inr 2, S1_, 1) ∧ vx_143 o_ g_ c_ b_ n_ p_ A_ M_ S0_ S1_) := by
  have hF_ : ai_fr (sx_W vw_143) S0_ S0_ := ai_fr_rf
  have st0_ := hc_.2.2.2.2.2.1
  have kd0_ := hc_.2.2.2.2.2.2.2.1
  have hp0_ := hc_.2.2.2.1
  have hn1_ := hc_.2.2.1
  have hM_ := hr_.1
  have hM1_ := hr_.2.1.1
  have hA0_ := hr_.2.1.2 M_ (Nat.le_refl _)
  have hA1_ := hA0_.1
  have bx1_ : 0 ≤ S0_.1 10 0 3 ∧ S0_.1 10 0 3 ≤ 1280 := hI_.1 10 0 3 rfl
  have bx2_ : 0 ≤ S0_.1 7 0 3 ∧ S0_.1 7 0 3 ≤ 16 := hI_.1 7 0 3 rfl
  refine sm_T_go 9 (c1 := (17, [some (.inr (.inr (some (7, 0)))), some (.inl (S0_.1 10 0 3)), none, none, none, none, none], [.inr (.inr (some (10, 0))), .inl (S0_.1 7 0 3), .inr (.inr (some (7, 0)))], S0_)) rfl ?_
  refine sm_T_cal (d1 := 0) (Q1 := vq_189 b_ n_ p_ S0_) rfl rfl (by decide) (vc_189 b_ n_ p_ S0_ hI_ (by exact hc_) (by exact hk_)) (fun u_ Sx3_ px6_ => ?_)
  obtain ⟨rfl, vx8_, rfl, px6_⟩ := px6_
  have e17_ := px6_
  refine sm_T_cal (d1 := 1) (Q1 := vq_119 (S0_.1 7 0 3) vx8_ b_ n_ M_ (A_.1 M_) (fun s_ => A_.2.1 (40 * M_ + s_)) p_ S0_) rfl rfl (by decide) (vc_119 (S0_.1 7 0 3) vx8_ b_ n_ M_ (A_.1 M_) (fun s_ => A_.2.1 (40 * M_ + s_)) p_ S0_ hI_ (by exact hc_.1) (by exact hn1_) (by exact hM_) (by exact er_nmr hr_ (Nat.le_refl _)) (by exact e17_) (by exact ⟨hc_.2.2.2.1, hk_⟩)) (fun u_ Sx9_ px12_ => ?_)
  obtain ⟨rfl, vx14_, rfl, px12_⟩ := px12_
  have e20_ : vx14_ = p_fn b_ n_ A_ M_ p_ := px12_
  have hix_ : ∀ s_ : Nat, vx14_ = (s_ : Int) → (40 * (S0_.1 7 0 3) + vx14_).toNat = 40 * M_ + s_ := by intro s_ z_; omega
  refine sm_T_go 3 (c1 := (26, [some (.inr (.inr (some (7, 0)))), some (.inl (S0_.1 10 0 3)), some (.inl vx14_), none, none, none, none], [.inl (-1), .inl vx14_], S0_)) rfl ?_
  refine sm_T_br (a := 1) (z := 13) rfl (fun cx15_ => ?_) (fun cx15_ => ?_)
  · have cx15_ : vx14_ ≠ (-1) := of_decide_eq_true cx15_
    obtain ⟨s9_, q1_, q2_, q3_, -⟩ := p_fn_b (b_ := b_) (n_ := n_) (A_ := A_) (m_ := M_) (p_ := p_) (by omega)
    have hiy_ := hix_ s9_ (e20_.trans q1_)
    have hA2_ := hA0_.2 s9_ q2_
    have hA3_ := hA2_.2.2.1
    refine sm_T_go 3 (c1 := (45, [some (.inr (.inr (some (7, 0)))), some (.inl (S0_.1 10 0 3)), some (.inl vx14_), none, none, none, none], [.inl 40, .inl (S0_.1 7 0 3)], S0_)) rfl ?_
    refine sm_T_bin (w := 40 * (S0_.1 7 0 3)) rfl (bi_mul (by omega) (by omega) (by omega)) ?_
    refine sm_T_go 1 (c1 := (47, [some (.inr (.inr (some (7, 0)))), some (.inl (S0_.1 10 0 3)), some (.inl vx14_), none, none, none, none], [.inl vx14_, .inl (40 * (S0_.1 7 0 3))], S0_)) rfl ?_
    refine sm_T_bin (w := 40 * (S0_.1 7 0 3) + vx14_) rfl (bi_add (by omega) (by omega) (by omega)) ?_
    refine sm_T_go 3 (c1 := (53, [some (.inr (.inr (some (7, 0)))), some (.inl (S0_.1 10 0 3)), some (.inl vx14_), some (.inl (40 * (S0_.1 7 0 3) + vx14_)), none, none, none], [.inr (.inr (some (10, 0)))], S0_)) rfl ?_
    refine sm_T_calx (d1 := 1) (Q1 := vq_191 b_ n_ (lx_en b_ n_ p_) S0_) (Q2 := vx_191 b_ n_ (lx_en b_ n_ p_) S0_) rfl rfl (by decide) (vc_191 b_ n_ (lx_en b_ n_ p_) S0_ hI_ (by exact hc_.1) (by exact hc_.2.1) (by exact hc_.2.2.1) (by exact hc_.2.2.2.2.2.2.1) (by exact (lx_en_le (b := b_) hc_.2.2.2.1).2)) rfl (fun Sx16_ px19_ => ?_) (fun u_ Sx16_ px19_ => ?_)
    · obtain ⟨hIx17_, hFx18_, px19_⟩ := px19_
      refine Or.inr ⟨_, rfl, hIx17_, ai_fr_tr hF_ (fr_le hFx18_ rfl), ?_⟩
      exact ⟨(1, (lx_nx b_ n_ p_)), na_1 q1_ (p_ad_x px19_.1), px19_.2⟩
    obtain ⟨rfl, hIx17_, hFx18_, px19_⟩ := px19_
    have hFx20_ : ai_fr (sx_W vw_143) S0_ Sx16_ := ai_fr_tr hF_ (fr_le hFx18_ rfl)
    have ex21_ : Sx16_.1 7 0 3 = S0_.1 7 0 3 := hFx18_.1 7 0 3 rfl
    have c1_ : ct b_ n_ (lx_nx b_ n_ p_) _ := px19_
    have a1_ := p_ad_c px19_
    have x1_ := xr_fr hx_ hFx18_ rfl rfl rfl rfl rfl rfl rfl rfl rfl
    have r1_ := er_fr hr_ hFx18_ rfl rfl rfl rfl rfl rfl
    have st1_ := c1_.2.2.2.2.2.1
    have kd1_ := c1_.2.2.2.2.2.2.2.1
    have hp1_ := c1_.2.2.2.1
    have bx22_ : (-128) ≤ Sx16_.1 10 0 2 ∧ Sx16_.1 10 0 2 ≤ 257 := hIx17_.1 10 0 2 rfl
    refine sm_T_go 4 (c1 := (65, [some (.inr (.inr (some (7, 0)))), some (.inl (S0_.1 10 0 3)), some (.inl vx14_), some (.inl (40 * (S0_.1 7 0 3) + vx14_)), none, none, none], [.inl 46, .inl (Sx16_.1 10 0 2)], Sx16_)) rfl ?_
    refine sm_T_br (a := 1) (z := 7) rfl (fun cx23_ => ?_) (fun cx23_ => ?_)
    · have cx23_ : (Sx16_.1 10 0 2) ≠ 46 := of_decide_eq_true cx23_
      refine sm_T_go 14 (c1 := (159, [some (.inr (.inr (some (7, 0)))), some (.inl (S0_.1 10 0 3)), some (.inl vx14_), some (.inl (40 * (S0_.1 7 0 3) + vx14_)), some (.inl 0), some (.inl 0), none], [.inl (40 * (S0_.1 7 0 3) + vx14_), .inr (.inr (some (79, 0))), .inl 0], Sx16_)) rfl ?_
      refine sm_T_iald (n := 640) rfl rfl (by omega) (by omega) ?_
      have bx24_ : 0 ≤ Sx16_.2.2.1 79 0 (40 * (S0_.1 7 0 3) + vx14_).toNat ∧ Sx16_.2.2.1 79 0 (40 * (S0_.1 7 0 3) + vx14_).toNat ≤ 5 := hIx17_.2 79 0 _
      refine sm_T_go 1 (c1 := (161, [some (.inr (.inr (some (7, 0)))), some (.inl (S0_.1 10 0 3)), some (.inl vx14_), some (.inl (40 * (S0_.1 7 0 3) + vx14_)), some (.inl 0), some (.inl 0), none], [.inl 5, .inl (Sx16_.2.2.1 79 0 (40 * (S0_.1 7 0 3) + vx14_).toNat), .inl 0], Sx16_)) rfl ?_
      refine sm_T_br (a := 1) (z := 7) rfl (fun cx25_ => ?_) (fun cx25_ => ?_)
      · have cx25_ : (Sx16_.2.2.1 79 0 (40 * (S0_.1 7 0 3) + vx14_).toNat) ≠ 5 := of_decide_eq_true cx25_
        first | have t4_ := er_at r2_ q2_ hiy_ | have t4_ := er_at r1_ q2_ hiy_
        refine sm_T_go 5 (c1 := (187, [some (.inr (.inr (some (7, 0)))), some (.inl (S0_.1 10 0 3)), some (.inl vx14_), some (.inl (40 * (S0_.1 7 0 3) + vx14_)), some (.inl 0), some (.inl 0), none], [.inl (40 * (S0_.1 7 0 3) + vx14_), .inr (.inr (some (80, 0)))], Sx16_)) rfl ?_
        refine sm_T_iald (n := 640) rfl rfl (by omega) (by omega) ?_
        have bx26_ : 0 ≤ Sx16_.2.2.1 80 0 (40 * (S0_.1 7 0 3) + vx14_).toNat ∧ Sx16_.2.2.1 80 0 (40 * (S0_.1 7 0 3) + vx14_).toNat ≤ 8 := hIx17_.2 80 0 _
        refine sm_T_go 7 (c1 := (271, [some (.inr (.inr (some (7, 0)))), some (.inl (S0_.1 10 0 3)), some (.inl vx14_), some (.inl (40 * (S0_.1 7 0 3) + vx14_)), some (.inl 0), some (.inl 0), some (.inl (Sx16_.2.2.1 80 0 (40 * (S0_.1 7 0 3) + vx14_).toNat))], [.inl 0, .inl vx14_, .inl 9, .inr (.inr (some (7, 0)))], Sx16_)) rfl ?_
        refine sm_T_cal (d1 := 0) (Q1 := vq_140 9 vx14_ 0 o_ g_ c_ Sx16_) rfl rfl (by decide) (vc_140 9 vx14_ 0 o_ g_ c_ Sx16_ hIx17_ (by first | exact x2_.1 | exact x1_.1) (by decide) (by omega) (by decide) (by omega)) (fun u_ Sx27_ px30_ => ?_)
        obtain ⟨rfl, hIx28_, hFx29_, px30_⟩ := px30_
        have hFx31_ : ai_fr (sx_W vw_143) S0_ Sx27_ := ai_fr_tr hFx20_ (fr_le hFx29_ rfl)
        have ex32_ : Sx27_.1 10 0 2 = Sx16_.1 10 0 2 := hFx29_.1 10 0 2 rfl
        have e271_ := px30_
        have f271_ := hFx29_.1 7 0 17 rfl
        have F271_ := hFx29_
        rw [e20_, q1_] at e271_
        refine sm_T_go 0 (c1 := (274, [some (.inr (.inr (some (7, 0)))), some (.inl (S0_.1 10 0 3)), some (.inl vx14_), some (.inl (40 * (S0_.1 7 0 3) + vx14_)), some (.inl 0), some (.inl 0), some (.inl (Sx16_.2.2.1 80 0 (40 * (S0_.1 7 0 3) + vx14_).toNat))], [], Sx27_)) rfl ?_
        refine sm_T_wk [some (.inr (.inr (some (7, 0)))), none, none, none, some (.inl 0), none, some (.inl (Sx16_.2.2.1 80 0 (40 * (S0_.1 7 0 3) + vx14_).toNat))] (by exact ⟨rfl, rfl, rfl, trivial⟩) ?_
        refine (vl_143 o_ g_ c_ b_ n_ p_ A_ M_ S0_ hx_ hc_ hk_ hr_ ho_ hl_ _) 0 (Sx16_.2.2.1 80 0 (40 * (S0_.1 7 0 3) + vx14_).toNat) Sx27_ hIx28_ hFx31_ ⟨?_, trivial⟩ (Nat.lt_succ_self _)
        · first | (refine ⟨(lx_nx b_ n_ (lx_nx b_ n_ p_)), [cw 9 s9_ 0], ct_fr c2_ F271_ rfl rfl rfl rfl rfl rfl rfl, ⟨e271_, f271_.trans x2_.2⟩, by simp, by omega, Or.inr ⟨rfl, ?_⟩⟩; rw [na_5 q1_ a1_ (by omega) a2_ (by omega), t4_.2.1]; exact if_neg (by omega)) | (refine ⟨(lx_nx b_ n_ p_), [cw 9 s9_ 0], ct_fr c1_ F271_ rfl rfl rfl rfl rfl rfl rfl, ⟨e271_, f271_.trans x1_.2⟩, by simp, by omega, Or.inl ⟨rfl, ?_⟩⟩; rw [na_2 q1_ a1_ (by omega), t4_.2.1]; exact if_neg (by omega)) | (refine ⟨(lx_nx b_ n_ (lx_nx b_ n_ (lx_nx b_ n_ (lx_nx b_ n_ p_)))), [cw 10 s9_ (p_fn b_ n_ A_ (A_.2.2.2.2 (40 * M_ + s9_)).toNat (lx_nx b_ n_ (lx_nx b_ n_ p_)))], c4_, ?_, by simp, by rw [e220_.2.1, wb2_]; exact wb1_, Or.inr ⟨rfl, ?_⟩⟩; (rw [e20_, q1_] at x4_; exact x4_); (rw [na_4 q1_ a1_ (by omega) a2_ (by omega), if_pos h5_, pa_5 e220_.1 a3_ (by omega) a4_, e220_.2.1])) | (refine ⟨(lx_nx b_ n_ (lx_nx b_ n_ (lx_nx b_ n_ p_))), [cw 10 s9_ (p_fn b_ n_ A_ (A_.2.2.2.2 (40 * M_ + s9_)).toNat (lx_nx b_ n_ (lx_nx b_ n_ p_)))], c3_, ?_, by simp, by rw [e220_.2.1, wb2_]; exact wb1_, Or.inl ⟨rfl, ?_⟩⟩; (rw [e20_, q1_] at x3_; exact x3_); (rw [na_4 q1_ a1_ (by omega) a2_ (by omega), if_pos h5_, pa_3 e220_.1 a3_ (by omega), e220_.2.1]))
      · have cx25_ : ¬ ((Sx16_.2.2.1 79 0 (40 * (S0_.1 7 0 3) + vx14_).toNat) ≠ 5) := of_decide_eq_false cx25_
        first | have t4_ := er_at r2_ q2_ hiy_ | have t4_ := er_at r1_ q2_ hiy_
        refine sm_T_go 7 (c1 := (179, [some (.inr (.inr (some (7, 0)))), some (.inl (S0_.1 10 0 3)), some (.inl vx14_), some (.inl (40 * (S0_.1 7 0 3) + vx14_)), some (.inl 0), some (.inl 0), none], [.inl (S0_.1 10 0 3), .inl 11, .inr (.inr (some (10, 0)))], Sx16_)) rfl ?_
        refine sm_T_calx (d1 := 0) (Q1 := vq_187 11 (S0_.1 10 0 3) Sx16_) (Q2 := vx_187 11 (S0_.1 10 0 3) Sx16_) rfl rfl (by decide) (vc_187 11 (S0_.1 10 0 3) Sx16_ hIx17_ (by decide) (by omega)) rfl (fun Sx33_ px36_ => ?_) (fun u_ Sx33_ px36_ => ?_)
        · obtain ⟨hIx34_, hFx35_, px36_⟩ := px36_
          refine Or.inr ⟨_, rfl, hIx34_, ai_fr_tr hFx20_ (fr_le hFx35_ rfl), ?_⟩
          first | (have t5_ := (er_at r2_ q2_ hiy_).1; refine ⟨(11, p_), ?_, px36_.1, px36_.2.trans st0_⟩; first | (rw [na_4 q1_ a1_ (by omega) a2_ (by omega)]; exact if_neg (by omega)) | (rw [na_5 q1_ a1_ (by omega) a2_ (by omega)]; exact if_pos (by omega))) | (have t5_ := (er_at r1_ q2_ hiy_).1; refine ⟨(11, p_), ?_, px36_.1, px36_.2.trans st0_⟩; rw [na_2 q1_ a1_ (by omega)]; exact if_pos (by omega))
        · exact (px36_.2.2.2).elim
    · have cx23_ : ¬ ((Sx16_.1 10 0 2) ≠ 46) := of_decide_eq_false cx23_
      refine sm_T_go 7 (c1 := (84, [some (.inr (.inr (some (7, 0)))), some (.inl (S0_.1 10 0 3)), some (.inl vx14_), some (.inl (40 * (S0_.1 7 0 3) + vx14_)), some (.inl 1), none, none], [.inr (.inr (some (10, 0)))], Sx16_)) rfl ?_
      refine sm_T_calx (d1 := 1) (Q1 := vq_191 b_ n_ (lx_en b_ n_ (lx_nx b_ n_ p_)) Sx16_) (Q2 := vx_191 b_ n_ (lx_en b_ n_ (lx_nx b_ n_ p_)) Sx16_) rfl rfl (by decide) (vc_191 b_ n_ (lx_en b_ n_ (lx_nx b_ n_ p_)) Sx16_ hIx17_ (by exact c1_.1) (by exact c1_.2.1) (by exact c1_.2.2.1) (by exact c1_.2.2.2.2.2.2.1) (by exact (lx_en_le (b := b_) c1_.2.2.2.1).2)) rfl (fun Sx38_ px41_ => ?_) (fun u_ Sx38_ px41_ => ?_)
      · obtain ⟨hIx39_, hFx40_, px41_⟩ := px41_
        refine Or.inr ⟨_, rfl, hIx39_, ai_fr_tr hFx20_ (fr_le hFx40_ rfl), ?_⟩
        exact ⟨(1, (lx_nx b_ n_ (lx_nx b_ n_ p_))), na_3 q1_ a1_ (by omega) (p_ad_x px41_.1), px41_.2⟩
      obtain ⟨rfl, hIx39_, hFx40_, px41_⟩ := px41_
      have hFx42_ : ai_fr (sx_W vw_143) S0_ Sx38_ := ai_fr_tr hFx20_ (fr_le hFx40_ rfl)
      have c2_ : ct b_ n_ (lx_nx b_ n_ (lx_nx b_ n_ p_)) _ := px41_
      have a2_ := p_ad_c px41_
      have x2_ := xr_fr x1_ hFx40_ rfl rfl rfl rfl rfl rfl rfl rfl rfl
      have r2_ := er_fr r1_ hFx40_ rfl rfl rfl rfl rfl rfl
      have st2_ := c2_.2.2.2.2.2.1
      have kd2_ := c2_.2.2.2.2.2.2.2.1
      have hp2_ := c2_.2.2.2.1
      have bx43_ : (-128) ≤ Sx38_.1 10 0 2 ∧ Sx38_.1 10 0 2 ≤ 257 := hIx39_.1 10 0 2 rfl
      refine sm_T_go 6 (c1 := (100, [some (.inr (.inr (some (7, 0)))), some (.inl (S0_.1 10 0 3)), some (.inl vx14_), some (.inl (40 * (S0_.1 7 0 3) + vx14_)), some (.inl 1), none, none], [.inl 2, .inl (Sx38_.1 10 0 2)], Sx38_)) rfl ?_
      refine sm_T_br (a := 0) (z := 29) rfl (fun cx44_ => ?_) (fun cx44_ => ?_)
      · have cx44_ : (Sx38_.1 10 0 2) = 2 := of_decide_eq_true cx44_
        refine sm_T_go 6 (c1 := (142, [some (.inr (.inr (some (7, 0)))), some (.inl (S0_.1 10 0 3)), some (.inl vx14_), some (.inl (40 * (S0_.1 7 0 3) + vx14_)), some (.inl 1), none, none], [.inl 1, .inl (Sx38_.1 10 0 2)], Sx38_)) rfl ?_
        refine sm_T_br (a := 1) (z := 7) rfl (fun cx45_ => ?_) (fun cx45_ => ?_)
        · have cx45_ : (Sx38_.1 10 0 2) ≠ 1 := of_decide_eq_true cx45_
          refine sm_T_go 6 (c1 := (159, [some (.inr (.inr (some (7, 0)))), some (.inl (S0_.1 10 0 3)), some (.inl vx14_), some (.inl (40 * (S0_.1 7 0 3) + vx14_)), some (.inl 1), some (.inl 0), none], [.inl (40 * (S0_.1 7 0 3) + vx14_), .inr (.inr (some (79, 0))), .inl 0], Sx38_)) rfl ?_
          refine sm_T_iald (n := 640) rfl rfl (by omega) (by omega) ?_
          have bx46_ : 0 ≤ Sx38_.2.2.1 79 0 (40 * (S0_.1 7 0 3) + vx14_).toNat ∧ Sx38_.2.2.1 79 0 (40 * (S0_.1 7 0 3) + vx14_).toNat ≤ 5 := hIx39_.2 79 0 _
          refine sm_T_go 1 (c1 := (161, [some (.inr (.inr (some (7, 0)))), some (.inl (S0_.1 10 0 3)), some (.inl vx14_), some (.inl (40 * (S0_.1 7 0 3) + vx14_)), some (.inl 1), some (.inl 0), none], [.inl 5, .inl (Sx38_.2.2.1 79 0 (40 * (S0_.1 7 0 3) + vx14_).toNat), .inl 0], Sx38_)) rfl ?_
          refine sm_T_br (a := 1) (z := 7) rfl (fun cx47_ => ?_) (fun cx47_ => ?_)
          · have cx47_ : (Sx38_.2.2.1 79 0 (40 * (S0_.1 7 0 3) + vx14_).toNat) ≠ 5 := of_decide_eq_true cx47_
            first | have t4_ := er_at r2_ q2_ hiy_ | have t4_ := er_at r1_ q2_ hiy_
            refine sm_T_go 5 (c1 := (187, [some (.inr (.inr (some (7, 0)))), some (.inl (S0_.1 10 0 3)), some (.inl vx14_), some (.inl (40 * (S0_.1 7 0 3) + vx14_)), some (.inl 1), some (.inl 0), none], [.inl (40 * (S0_.1 7 0 3) + vx14_), .inr (.inr (some (80, 0)))], Sx38_)) rfl ?_
            refine sm_T_iald (n := 640) rfl rfl (by omega) (by omega) ?_
            have bx48_ : 0 ≤ Sx38_.2.2.1 80 0 (40 * (S0_.1 7 0 3) + vx14_).toNat ∧ Sx38_.2.2.1 80 0 (40 * (S0_.1 7 0 3) + vx14_).toNat ≤ 8 := hIx39_.2 80 0 _
            refine sm_T_go 7 (c1 := (271, [some (.inr (.inr (some (7, 0)))), some (.inl (S0_.1 10 0 3)), some (.inl vx14_), some (.inl (40 * (S0_.1 7 0 3) + vx14_)), some (.inl 1), some (.inl 0), some (.inl (Sx38_.2.2.1 80 0 (40 * (S0_.1 7 0 3) + vx14_).toNat))], [.inl 0, .inl vx14_, .inl 9, .inr (.inr (some (7, 0)))], Sx38_)) rfl ?_
            refine sm_T_cal (d1 := 0) (Q1 := vq_140 9 vx14_ 0 o_ g_ c_ Sx38_) rfl rfl (by decide) (vc_140 9 vx14_ 0 o_ g_ c_ Sx38_ hIx39_ (by first | exact x2_.1 | exact x1_.1) (by decide) (by omega) (by decide) (by omega)) (fun u_ Sx49_ px52_ => ?_)
            obtain ⟨rfl, hIx50_, hFx51_, px52_⟩ := px52_
            have hFx53_ : ai_fr (sx_W vw_143) S0_ Sx49_ := ai_fr_tr hFx42_ (fr_le hFx51_ rfl)
            have ex54_ : Sx49_.1 10 0 2 = Sx38_.1 10 0 2 := hFx51_.1 10 0 2 rfl
            have e271_ := px52_
            have f271_ := hFx51_.1 7 0 17 rfl
            have F271_ := hFx51_
            rw [e20_, q1_] at e271_
            refine sm_T_go 0 (c1 := (274, [some (.inr (.inr (some (7, 0)))), some (.inl (S0_.1 10 0 3)), some (.inl vx14_), some (.inl (40 * (S0_.1 7 0 3) + vx14_)), some (.inl 1), some (.inl 0), some (.inl (Sx38_.2.2.1 80 0 (40 * (S0_.1 7 0 3) + vx14_).toNat))], [], Sx49_)) rfl ?_
            refine sm_T_wk [some (.inr (.inr (some (7, 0)))), none, none, none, some (.inl 1), none, some (.inl (Sx38_.2.2.1 80 0 (40 * (S0_.1 7 0 3) + vx14_).toNat))] (by exact ⟨rfl, rfl, rfl, trivial⟩) ?_
            refine (vl_143 o_ g_ c_ b_ n_ p_ A_ M_ S0_ hx_ hc_ hk_ hr_ ho_ hl_ _) 1 (Sx38_.2.2.1 80 0 (40 * (S0_.1 7 0 3) + vx14_).toNat) Sx49_ hIx50_ hFx53_ ⟨?_, trivial⟩ (Nat.lt_succ_self _)
            · first | (refine ⟨(lx_nx b_ n_ (lx_nx b_ n_ p_)), [cw 9 s9_ 0], ct_fr c2_ F271_ rfl rfl rfl rfl rfl rfl rfl, ⟨e271_, f271_.trans x2_.2⟩, by simp, by omega, Or.inr ⟨rfl, ?_⟩⟩; rw [na_5 q1_ a1_ (by omega) a2_ (by omega), t4_.2.1]; exact if_neg (by omega)) | (refine ⟨(lx_nx b_ n_ p_), [cw 9 s9_ 0], ct_fr c1_ F271_ rfl rfl rfl rfl rfl rfl rfl, ⟨e271_, f271_.trans x1_.2⟩, by simp, by omega, Or.inl ⟨rfl, ?_⟩⟩; rw [na_2 q1_ a1_ (by omega), t4_.2.1]; exact if_neg (by omega)) | (refine ⟨(lx_nx b_ n_ (lx_nx b_ n_ (lx_nx b_ n_ (lx_nx b_ n_ p_)))), [cw 10 s9_ (p_fn b_ n_ A_ (A_.2.2.2.2 (40 * M_ + s9_)).toNat (lx_nx b_ n_ (lx_nx b_ n_ p_)))], c4_, ?_, by simp, by rw [e220_.2.1, wb2_]; exact wb1_, Or.inr ⟨rfl, ?_⟩⟩; (rw [e20_, q1_] at x4_; exact x4_); (rw [na_4 q1_ a1_ (by omega) a2_ (by omega), if_pos h5_, pa_5 e220_.1 a3_ (by omega) a4_, e220_.2.1])) | (refine ⟨(lx_nx b_ n_ (lx_nx b_ n_ (lx_nx b_ n_ p_))), [cw 10 s9_ (p_fn b_ n_ A_ (A_.2.2.2.2 (40 * M_ + s9_)).toNat (lx_nx b_ n_ (lx_nx b_ n_ p_)))], c3_, ?_, by simp, by rw [e220_.2.1, wb2_]; exact wb1_, Or.inl ⟨rfl, ?_⟩⟩; (rw [e20_, q1_] at x3_; exact x3_); (rw [na_4 q1_ a1_ (by omega) a2_ (by omega), if_pos h5_, pa_3 e220_.1 a3_ (by omega), e220_.2.1]))
          · have cx47_ : ¬ ((Sx38_.2.2.1 79 0 (40 * (S0_.1 7 0 3) + vx14_).toNat) ≠ 5) := of_decide_eq_false cx47_
            first | have t4_ := er_at r2_ q2_ hiy_ | have t4_ := er_at r1_ q2_ hiy_
            refine sm_T_go 7 (c1 := (179, [some (.inr (.inr (some (7, 0)))), some (.inl (S0_.1 10 0 3)), some (.inl vx14_), some (.inl (40 * (S0_.1 7 0 3) + vx14_)), some (.inl 1), some (.inl 0), none], [.inl (S0_.1 10 0 3), .inl 11, .inr (.inr (some (10, 0)))], Sx38_)) rfl ?_
            refine sm_T_calx (d1 := 0) (Q1 := vq_187 11 (S0_.1 10 0 3) Sx38_) (Q2 := vx_187 11 (S0_.1 10 0 3) Sx38_) rfl rfl (by decide) (vc_187 11 (S0_.1 10 0 3) Sx38_ hIx39_ (by decide) (by omega)) rfl (fun Sx55_ px58_ => ?_) (fun u_ Sx55_ px58_ => ?_)
            · obtain ⟨hIx56_, hFx57_, px58_⟩ := px58_
              refine Or.inr ⟨_, rfl, hIx56_, ai_fr_tr hFx42_ (fr_le hFx57_ rfl), ?_⟩
              first | (have t5_ := (er_at r2_ q2_ hiy_).1; refine ⟨(11, p_), ?_, px58_.1, px58_.2.trans st0_⟩; first | (rw [na_4 q1_ a1_ (by omega) a2_ (by omega)]; exact if_neg (by omega)) | (rw [na_5 q1_ a1_ (by omega) a2_ (by omega)]; exact if_pos (by omega))) | (have t5_ := (er_at r1_ q2_ hiy_).1; refine ⟨(11, p_), ?_, px58_.1, px58_.2.trans st0_⟩; rw [na_2 q1_ a1_ (by omega)]; exact if_pos (by omega))
            · exact (px58_.2.2.2).elim
        · have cx45_ : ¬ ((Sx38_.1 10 0 2) ≠ 1) := of_decide_eq_false cx45_
          exfalso; omega
      · have cx44_ : ¬ ((Sx38_.1 10 0 2) = 2) := of_decide_eq_false cx44_
        refine sm_T_go 4 (c1 := (111, [some (.inr (.inr (some (7, 0)))), some (.inl (S0_.1 10 0 3)), some (.inl vx14_), some (.inl (40 * (S0_.1 7 0 3) + vx14_)), some (.inl 1), none, none], [.inl 1, .inl (Sx38_.1 10 0 2)], Sx38_)) rfl ?_
        refine sm_T_br (a := 0) (z := 18) rfl (fun cx60_ => ?_) (fun cx60_ => ?_)
        · have cx60_ : (Sx38_.1 10 0 2) = 1 := of_decide_eq_true cx60_
          refine sm_T_go 6 (c1 := (142, [some (.inr (.inr (some (7, 0)))), some (.inl (S0_.1 10 0 3)), some (.inl vx14_), some (.inl (40 * (S0_.1 7 0 3) + vx14_)), some (.inl 1), none, none], [.inl 1, .inl (Sx38_.1 10 0 2)], Sx38_)) rfl ?_
          refine sm_T_br (a := 1) (z := 7) rfl (fun cx61_ => ?_) (fun cx61_ => ?_)
          · have cx61_ : (Sx38_.1 10 0 2) ≠ 1 := of_decide_eq_true cx61_
            exfalso; omega
          · have cx61_ : ¬ ((Sx38_.1 10 0 2) ≠ 1) := of_decide_eq_false cx61_
            refine sm_T_go 7 (c1 := (159, [some (.inr (.inr (some (7, 0)))), some (.inl (S0_.1 10 0 3)), some (.inl vx14_), some (.inl (40 * (S0_.1 7 0 3) + vx14_)), some (.inl 1), some (.inl 1), none], [.inl (40 * (S0_.1 7 0 3) + vx14_), .inr (.inr (some (79, 0))), .inl 1], Sx38_)) rfl ?_
            refine sm_T_iald (n := 640) rfl rfl (by omega) (by omega) ?_
            have bx62_ : 0 ≤ Sx38_.2.2.1 79 0 (40 * (S0_.1 7 0 3) + vx14_).toNat ∧ Sx38_.2.2.1 79 0 (40 * (S0_.1 7 0 3) + vx14_).toNat ≤ 5 := hIx39_.2 79 0 _
            refine sm_T_go 1 (c1 := (161, [some (.inr (.inr (some (7, 0)))), some (.inl (S0_.1 10 0 3)), some (.inl vx14_), some (.inl (40 * (S0_.1 7 0 3) + vx14_)), some (.inl 1), some (.inl 1), none], [.inl 5, .inl (Sx38_.2.2.1 79 0 (40 * (S0_.1 7 0 3) + vx14_).toNat), .inl 1], Sx38_)) rfl ?_
            refine sm_T_br (a := 1) (z := 7) rfl (fun cx63_ => ?_) (fun cx63_ => ?_)
            · have cx63_ : (Sx38_.2.2.1 79 0 (40 * (S0_.1 7 0 3) + vx14_).toNat) ≠ 5 := of_decide_eq_true cx63_
              first | have t4_ := er_at r2_ q2_ hiy_ | have t4_ := er_at r1_ q2_ hiy_
              refine sm_T_go 6 (c1 := (179, [some (.inr (.inr (some (7, 0)))), some (.inl (S0_.1 10 0 3)), some (.inl vx14_), some (.inl (40 * (S0_.1 7 0 3) + vx14_)), some (.inl 1), some (.inl 1), none], [.inl (S0_.1 10 0 3), .inl 11, .inr (.inr (some (10, 0)))], Sx38_)) rfl ?_
              refine sm_T_calx (d1 := 0) (Q1 := vq_187 11 (S0_.1 10 0 3) Sx38_) (Q2 := vx_187 11 (S0_.1 10 0 3) Sx38_) rfl rfl (by decide) (vc_187 11 (S0_.1 10 0 3) Sx38_ hIx39_ (by decide) (by omega)) rfl (fun Sx64_ px67_ => ?_) (fun u_ Sx64_ px67_ => ?_)
              · obtain ⟨hIx65_, hFx66_, px67_⟩ := px67_
                refine Or.inr ⟨_, rfl, hIx65_, ai_fr_tr hFx42_ (fr_le hFx66_ rfl), ?_⟩
                first | (have t5_ := (er_at r2_ q2_ hiy_).1; refine ⟨(11, p_), ?_, px67_.1, px67_.2.trans st0_⟩; first | (rw [na_4 q1_ a1_ (by omega) a2_ (by omega)]; exact if_neg (by omega)) | (rw [na_5 q1_ a1_ (by omega) a2_ (by omega)]; exact if_pos (by omega))) | (have t5_ := (er_at r1_ q2_ hiy_).1; refine ⟨(11, p_), ?_, px67_.1, px67_.2.trans st0_⟩; rw [na_2 q1_ a1_ (by omega)]; exact if_pos (by omega))
              · exact (px67_.2.2.2).elim
            · have cx63_ : ¬ ((Sx38_.2.2.1 79 0 (40 * (S0_.1 7 0 3) + vx14_).toNat) ≠ 5) := of_decide_eq_false cx63_
              first | have t4_ := er_at r2_ q2_ hiy_ | have t4_ := er_at r1_ q2_ hiy_
              refine sm_T_go 6 (c1 := (187, [some (.inr (.inr (some (7, 0)))), some (.inl (S0_.1 10 0 3)), some (.inl vx14_), some (.inl (40 * (S0_.1 7 0 3) + vx14_)), some (.inl 1), some (.inl 1), none], [.inl (40 * (S0_.1 7 0 3) + vx14_), .inr (.inr (some (80, 0)))], Sx38_)) rfl ?_
              refine sm_T_iald (n := 640) rfl rfl (by omega) (by omega) ?_
              have bx69_ : 0 ≤ Sx38_.2.2.1 80 0 (40 * (S0_.1 7 0 3) + vx14_).toNat ∧ Sx38_.2.2.1 80 0 (40 * (S0_.1 7 0 3) + vx14_).toNat ≤ 8 := hIx39_.2 80 0 _
              refine sm_T_go 8 (c1 := (202, [some (.inr (.inr (some (7, 0)))), some (.inl (S0_.1 10 0 3)), some (.inl vx14_), some (.inl (40 * (S0_.1 7 0 3) + vx14_)), some (.inl 1), some (.inl 1), some (.inl (Sx38_.2.2.1 80 0 (40 * (S0_.1 7 0 3) + vx14_).toNat))], [.inl (40 * (S0_.1 7 0 3) + vx14_), .inr (.inr (some (81, 0))), .inl vx14_, .inr (.inr (some (7, 0)))], Sx38_)) rfl ?_
              refine sm_T_iald (n := 640) rfl rfl (by omega) (by omega) ?_
              have bx70_ : 0 ≤ Sx38_.2.2.1 81 0 (40 * (S0_.1 7 0 3) + vx14_).toNat ∧ Sx38_.2.2.1 81 0 (40 * (S0_.1 7 0 3) + vx14_).toNat ≤ 255 := hIx39_.2 81 0 _
              refine sm_T_go 4 (c1 := (209, [some (.inr (.inr (some (7, 0)))), some (.inl (S0_.1 10 0 3)), some (.inl vx14_), some (.inl (40 * (S0_.1 7 0 3) + vx14_)), some (.inl 1), some (.inl 1), some (.inl (Sx38_.2.2.1 80 0 (40 * (S0_.1 7 0 3) + vx14_).toNat))], [.inl (40 * (S0_.1 7 0 3) + vx14_), .inr (.inr (some (81, 0))), .inr (.inr (some (7, 0))), .inl (Sx38_.2.2.1 81 0 (40 * (S0_.1 7 0 3) + vx14_).toNat), .inl vx14_, .inr (.inr (some (7, 0)))], Sx38_)) rfl ?_
              refine sm_T_iald (n := 640) rfl rfl (by omega) (by omega) ?_
              refine sm_T_go 2 (c1 := (214, [some (.inr (.inr (some (7, 0)))), some (.inl (S0_.1 10 0 3)), some (.inl vx14_), some (.inl (40 * (S0_.1 7 0 3) + vx14_)), some (.inl 1), some (.inl 1), some (.inl (Sx38_.2.2.1 80 0 (40 * (S0_.1 7 0 3) + vx14_).toNat))], [.inr (.inr (some (10, 0))), .inl (Sx38_.2.2.1 81 0 (40 * (S0_.1 7 0 3) + vx14_).toNat), .inr (.inr (some (7, 0))), .inl (Sx38_.2.2.1 81 0 (40 * (S0_.1 7 0 3) + vx14_).toNat), .inl vx14_, .inr (.inr (some (7, 0)))], Sx38_)) rfl ?_
              refine sm_T_cal (d1 := 0) (Q1 := vq_189 b_ n_ (lx_nx b_ n_ (lx_nx b_ n_ p_)) Sx38_) rfl rfl (by decide) (vc_189 b_ n_ (lx_nx b_ n_ (lx_nx b_ n_ p_)) Sx38_ hIx39_ (by exact c2_) (by omega)) (fun u_ Sx71_ px74_ => ?_)
              obtain ⟨rfl, vx76_, rfl, px74_⟩ := px74_
              have e214_ := px74_
              have h5_ : A_.2.2.1 (40 * M_ + s9_) = 5 := by omega
              have hd5_ := hA2_.2.2.2.2.1 h5_
              have hd6_ : ((A_.2.2.2.2 (40 * M_ + s9_)).toNat : Nat) < M_ := by omega
              refine sm_T_cal (d1 := 1) (Q1 := vq_119 (Sx38_.2.2.1 81 0 (40 * (S0_.1 7 0 3) + vx14_).toNat) vx76_ b_ n_ (A_.2.2.2.2 (40 * M_ + s9_)).toNat (A_.1 (A_.2.2.2.2 (40 * M_ + s9_)).toNat) (fun s_ => A_.2.1 (40 * (A_.2.2.2.2 (40 * M_ + s9_)).toNat + s_)) (lx_nx b_ n_ (lx_nx b_ n_ p_)) Sx38_) rfl rfl (by decide) (vc_119 (Sx38_.2.2.1 81 0 (40 * (S0_.1 7 0 3) + vx14_).toNat) vx76_ b_ n_ (A_.2.2.2.2 (40 * M_ + s9_)).toNat (A_.1 (A_.2.2.2.2 (40 * M_ + s9_)).toNat) (fun s_ => A_.2.1 (40 * (A_.2.2.2.2 (40 * M_ + s9_)).toNat + s_)) (lx_nx b_ n_ (lx_nx b_ n_ p_)) Sx38_ hIx39_ (by exact c2_.1) (by exact hn1_) (by rw [t4_.2.2]; omega) (by exact er_nmr r2_ (by omega)) (by exact e214_) (by exact ⟨c2_.2.2.2.1, by omega⟩)) (fun u_ Sx77_ px80_ => ?_)
              obtain ⟨rfl, vx82_, rfl, px80_⟩ := px80_
              have e217_ : vx82_ = p_fn b_ n_ A_ (A_.2.2.2.2 (40 * M_ + s9_)).toNat (lx_nx b_ n_ (lx_nx b_ n_ p_)) := px80_
              refine sm_T_calx (d1 := 1) (Q1 := vq_144 vx14_ (Sx38_.2.2.1 81 0 (40 * (S0_.1 7 0 3) + vx14_).toNat) vx82_ o_ g_ c_ b_ n_ (lx_nx b_ n_ (lx_nx b_ n_ p_)) A_ M_ (A_.2.2.2.2 (40 * M_ + s9_)).toNat Sx38_) (Q2 := vx_144 vx14_ (Sx38_.2.2.1 81 0 (40 * (S0_.1 7 0 3) + vx14_).toNat) vx82_ o_ g_ c_ b_ n_ (lx_nx b_ n_ (lx_nx b_ n_ p_)) A_ M_ (A_.2.2.2.2 (40 * M_ + s9_)).toNat Sx38_) rfl rfl (by decide) (vc_144 vx14_ (Sx38_.2.2.1 81 0 (40 * (S0_.1 7 0 3) + vx14_).toNat) vx82_ o_ g_ c_ b_ n_ (lx_nx b_ n_ (lx_nx b_ n_ p_)) A_ M_ (A_.2.2.2.2 (40 * M_ + s9_)).toNat Sx38_ hIx39_ (by exact x2_) (by exact c2_) (by exact r2_) (by rw [t4_.2.2]; exact ⟨by omega, by omega⟩) (by exact e217_) (by omega) (by omega)) rfl (fun Sx83_ px86_ => ?_) (fun u_ Sx83_ px86_ => ?_)
              · obtain ⟨hIx84_, hFx85_, px86_⟩ := px86_
                refine Or.inr ⟨_, rfl, hIx84_, ai_fr_tr hFx42_ (fr_le hFx85_ rfl), ?_⟩
                refine ⟨(11, (lx_nx b_ n_ (lx_nx b_ n_ p_))), ?_, px86_.2⟩
                rw [na_4 q1_ a1_ (by omega) a2_ (by omega), if_pos h5_]; exact pa_1 px86_.1
              obtain ⟨vx88_, rfl, hIx84_, hFx85_, px86_⟩ := px86_
              have hFx87_ : ai_fr (sx_W vw_143) S0_ Sx83_ := ai_fr_tr hFx42_ (fr_le hFx85_ rfl)
              have ex89_ : Sx83_.1 10 0 2 = Sx38_.1 10 0 2 := hFx85_.1 10 0 2 rfl
              have e220_ := px86_
              have c220_ := ct_fr c2_ hFx85_ rfl rfl rfl rfl rfl rfl rfl
              have r220_ := er_fr r2_ hFx85_ rfl rfl rfl rfl rfl rfl
              have wb_ := (hr_.2.1.2 (A_.2.2.2.2 (40 * M_ + s9_)).toNat (by omega)).2
              obtain ⟨s8_, q5_, q6_, q7_, -⟩ := p_fn_b (b_ := b_) (n_ := n_) (A_ := A_) (m_ := (A_.2.2.2.2 (40 * M_ + s9_)).toNat) (p_ := (lx_nx b_ n_ (lx_nx b_ n_ p_))) (fun z_ => e220_.1 (Or.inl z_))
              have wb1_ := (wb_ s8_ q6_).2.2.1
              have wb2_ : (p_fn b_ n_ A_ (A_.2.2.2.2 (40 * M_ + s9_)).toNat (lx_nx b_ n_ (lx_nx b_ n_ p_))).toNat = s8_ := q7_
              refine sm_T_go 3 (c1 := (229, [some (.inr (.inr (some (7, 0)))), some (.inl (S0_.1 10 0 3)), some (.inl vx14_), some (.inl (40 * (S0_.1 7 0 3) + vx14_)), some (.inl 1), some (.inl 1), some (.inl vx88_)], [.inr (.inr (some (10, 0)))], Sx83_)) rfl ?_
              refine sm_T_calx (d1 := 1) (Q1 := vq_191 b_ n_ (lx_en b_ n_ (lx_nx b_ n_ (lx_nx b_ n_ p_))) Sx83_) (Q2 := vx_191 b_ n_ (lx_en b_ n_ (lx_nx b_ n_ (lx_nx b_ n_ p_))) Sx83_) rfl rfl (by decide) (vc_191 b_ n_ (lx_en b_ n_ (lx_nx b_ n_ (lx_nx b_ n_ p_))) Sx83_ hIx84_ (by exact c220_.1) (by exact c220_.2.1) (by exact c220_.2.2.1) (by exact c220_.2.2.2.2.2.2.1) (by exact (lx_en_le (b := b_) c220_.2.2.2.1).2)) rfl (fun Sx90_ px93_ => ?_) (fun u_ Sx90_ px93_ => ?_)
              · obtain ⟨hIx91_, hFx92_, px93_⟩ := px93_
                refine Or.inr ⟨_, rfl, hIx91_, ai_fr_tr hFx87_ (fr_le hFx92_ rfl), ?_⟩
                refine ⟨(1, (lx_nx b_ n_ (lx_nx b_ n_ (lx_nx b_ n_ p_)))), ?_, px93_.2⟩
                rw [na_4 q1_ a1_ (by omega) a2_ (by omega), if_pos h5_]; exact pa_2 e220_.1 (p_ad_x px93_.1)
              obtain ⟨rfl, hIx91_, hFx92_, px93_⟩ := px93_
              have hFx94_ : ai_fr (sx_W vw_143) S0_ Sx90_ := ai_fr_tr hFx87_ (fr_le hFx92_ rfl)
              have c3_ : ct b_ n_ (lx_nx b_ n_ (lx_nx b_ n_ (lx_nx b_ n_ p_))) _ := px93_
              have a3_ := p_ad_c px93_
              have x3_ := xr_fr e220_.2.2 hFx92_ rfl rfl rfl rfl rfl rfl rfl rfl rfl
              have st3_ := c3_.2.2.2.2.2.1
              have kd3_ := c3_.2.2.2.2.2.2.2.1
              have hp3_ := c3_.2.2.2.1
              have bx95_ : (-128) ≤ Sx90_.1 10 0 2 ∧ Sx90_.1 10 0 2 ≤ 257 := hIx91_.1 10 0 2 rfl
              refine sm_T_go 4 (c1 := (241, [some (.inr (.inr (some (7, 0)))), some (.inl (S0_.1 10 0 3)), some (.inl vx14_), some (.inl (40 * (S0_.1 7 0 3) + vx14_)), some (.inl 1), some (.inl 1), some (.inl vx88_)], [.inl 46, .inl (Sx90_.1 10 0 2)], Sx90_)) rfl ?_
              refine sm_T_br (a := 1) (z := 7) rfl (fun cx96_ => ?_) (fun cx96_ => ?_)
              · have cx96_ : (Sx90_.1 10 0 2) ≠ 46 := of_decide_eq_true cx96_
                refine sm_T_go 4 (c1 := (274, [some (.inr (.inr (some (7, 0)))), some (.inl (S0_.1 10 0 3)), some (.inl vx14_), some (.inl (40 * (S0_.1 7 0 3) + vx14_)), some (.inl 0), some (.inl 1), some (.inl vx88_)], [], Sx90_)) rfl ?_
                refine sm_T_wk [some (.inr (.inr (some (7, 0)))), none, none, none, some (.inl 0), none, some (.inl vx88_)] (by exact ⟨rfl, rfl, rfl, trivial⟩) ?_
                refine (vl_143 o_ g_ c_ b_ n_ p_ A_ M_ S0_ hx_ hc_ hk_ hr_ ho_ hl_ _) 0 vx88_ Sx90_ hIx91_ hFx94_ ⟨?_, trivial⟩ (Nat.lt_succ_self _)
                · first | (refine ⟨(lx_nx b_ n_ (lx_nx b_ n_ p_)), [cw 9 s9_ 0], ct_fr c2_ F271_ rfl rfl rfl rfl rfl rfl rfl, ⟨e271_, f271_.trans x2_.2⟩, by simp, by omega, Or.inr ⟨rfl, ?_⟩⟩; rw [na_5 q1_ a1_ (by omega) a2_ (by omega), t4_.2.1]; exact if_neg (by omega)) | (refine ⟨(lx_nx b_ n_ p_), [cw 9 s9_ 0], ct_fr c1_ F271_ rfl rfl rfl rfl rfl rfl rfl, ⟨e271_, f271_.trans x1_.2⟩, by simp, by omega, Or.inl ⟨rfl, ?_⟩⟩; rw [na_2 q1_ a1_ (by omega), t4_.2.1]; exact if_neg (by omega)) | (refine ⟨(lx_nx b_ n_ (lx_nx b_ n_ (lx_nx b_ n_ (lx_nx b_ n_ p_)))), [cw 10 s9_ (p_fn b_ n_ A_ (A_.2.2.2.2 (40 * M_ + s9_)).toNat (lx_nx b_ n_ (lx_nx b_ n_ p_)))], c4_, ?_, by simp, by rw [e220_.2.1, wb2_]; exact wb1_, Or.inr ⟨rfl, ?_⟩⟩; (rw [e20_, q1_] at x4_; exact x4_); (rw [na_4 q1_ a1_ (by omega) a2_ (by omega), if_pos h5_, pa_5 e220_.1 a3_ (by omega) a4_, e220_.2.1])) | (refine ⟨(lx_nx b_ n_ (lx_nx b_ n_ (lx_nx b_ n_ p_))), [cw 10 s9_ (p_fn b_ n_ A_ (A_.2.2.2.2 (40 * M_ + s9_)).toNat (lx_nx b_ n_ (lx_nx b_ n_ p_)))], c3_, ?_, by simp, by rw [e220_.2.1, wb2_]; exact wb1_, Or.inl ⟨rfl, ?_⟩⟩; (rw [e20_, q1_] at x3_; exact x3_); (rw [na_4 q1_ a1_ (by omega) a2_ (by omega), if_pos h5_, pa_3 e220_.1 a3_ (by omega), e220_.2.1]))
              · have cx96_ : ¬ ((Sx90_.1 10 0 2) ≠ 46) := of_decide_eq_false cx96_
                refine sm_T_go 7 (c1 := (260, [some (.inr (.inr (some (7, 0)))), some (.inl (S0_.1 10 0 3)), some (.inl vx14_), some (.inl (40 * (S0_.1 7 0 3) + vx14_)), some (.inl 1), some (.inl 1), some (.inl vx88_)], [.inr (.inr (some (10, 0)))], Sx90_)) rfl ?_
                refine sm_T_calx (d1 := 1) (Q1 := vq_191 b_ n_ (lx_en b_ n_ (lx_nx b_ n_ (lx_nx b_ n_ (lx_nx b_ n_ p_)))) Sx90_) (Q2 := vx_191 b_ n_ (lx_en b_ n_ (lx_nx b_ n_ (lx_nx b_ n_ (lx_nx b_ n_ p_)))) Sx90_) rfl rfl (by decide) (vc_191 b_ n_ (lx_en b_ n_ (lx_nx b_ n_ (lx_nx b_ n_ (lx_nx b_ n_ p_)))) Sx90_ hIx91_ (by exact c3_.1) (by exact c3_.2.1) (by exact c3_.2.2.1) (by exact c3_.2.2.2.2.2.2.1) (by exact (lx_en_le (b := b_) c3_.2.2.2.1).2)) rfl (fun Sx97_ px100_ => ?_) (fun u_ Sx97_ px100_ => ?_)
                · obtain ⟨hIx98_, hFx99_, px100_⟩ := px100_
                  refine Or.inr ⟨_, rfl, hIx98_, ai_fr_tr hFx94_ (fr_le hFx99_ rfl), ?_⟩
                  refine ⟨(1, (lx_nx b_ n_ (lx_nx b_ n_ (lx_nx b_ n_ (lx_nx b_ n_ p_))))), ?_, px100_.2⟩
                  rw [na_4 q1_ a1_ (by omega) a2_ (by omega), if_pos h5_]; exact pa_4 e220_.1 a3_ (by omega) (p_ad_x px100_.1)
                obtain ⟨rfl, hIx98_, hFx99_, px100_⟩ := px100_
                have hFx101_ : ai_fr (sx_W vw_143) S0_ Sx97_ := ai_fr_tr hFx94_ (fr_le hFx99_ rfl)
                have c4_ : ct b_ n_ (lx_nx b_ n_ (lx_nx b_ n_ (lx_nx b_ n_ (lx_nx b_ n_ p_)))) _ := px100_
                have a4_ := p_ad_c px100_
                have x4_ := xr_fr x3_ hFx99_ rfl rfl rfl rfl rfl rfl rfl rfl rfl
                have st4_ := c4_.2.2.2.2.2.1
                have kd4_ := c4_.2.2.2.2.2.2.2.1
                have hp4_ := c4_.2.2.2.1
                refine sm_T_go 1 (c1 := (274, [some (.inr (.inr (some (7, 0)))), some (.inl (S0_.1 10 0 3)), some (.inl vx14_), some (.inl (40 * (S0_.1 7 0 3) + vx14_)), some (.inl 1), some (.inl 1), some (.inl vx88_)], [], Sx97_)) rfl ?_
                refine sm_T_wk [some (.inr (.inr (some (7, 0)))), none, none, none, some (.inl 1), none, some (.inl vx88_)] (by exact ⟨rfl, rfl, rfl, trivial⟩) ?_
                refine (vl_143 o_ g_ c_ b_ n_ p_ A_ M_ S0_ hx_ hc_ hk_ hr_ ho_ hl_ _) 1 vx88_ Sx97_ hIx98_ hFx101_ ⟨?_, trivial⟩ (Nat.lt_succ_self _)
                · first | (refine ⟨(lx_nx b_ n_ (lx_nx b_ n_ p_)), [cw 9 s9_ 0], ct_fr c2_ F271_ rfl rfl rfl rfl rfl rfl rfl, ⟨e271_, f271_.trans x2_.2⟩, by simp, by omega, Or.inr ⟨rfl, ?_⟩⟩; rw [na_5 q1_ a1_ (by omega) a2_ (by omega), t4_.2.1]; exact if_neg (by omega)) | (refine ⟨(lx_nx b_ n_ p_), [cw 9 s9_ 0], ct_fr c1_ F271_ rfl rfl rfl rfl rfl rfl rfl, ⟨e271_, f271_.trans x1_.2⟩, by simp, by omega, Or.inl ⟨rfl, ?_⟩⟩; rw [na_2 q1_ a1_ (by omega), t4_.2.1]; exact if_neg (by omega)) | (refine ⟨(lx_nx b_ n_ (lx_nx b_ n_ (lx_nx b_ n_ (lx_nx b_ n_ p_)))), [cw 10 s9_ (p_fn b_ n_ A_ (A_.2.2.2.2 (40 * M_ + s9_)).toNat (lx_nx b_ n_ (lx_nx b_ n_ p_)))], c4_, ?_, by simp, by rw [e220_.2.1, wb2_]; exact wb1_, Or.inr ⟨rfl, ?_⟩⟩; (rw [e20_, q1_] at x4_; exact x4_); (rw [na_4 q1_ a1_ (by omega) a2_ (by omega), if_pos h5_, pa_5 e220_.1 a3_ (by omega) a4_, e220_.2.1])) | (refine ⟨(lx_nx b_ n_ (lx_nx b_ n_ (lx_nx b_ n_ p_))), [cw 10 s9_ (p_fn b_ n_ A_ (A_.2.2.2.2 (40 * M_ + s9_)).toNat (lx_nx b_ n_ (lx_nx b_ n_ p_)))], c3_, ?_, by simp, by rw [e220_.2.1, wb2_]; exact wb1_, Or.inl ⟨rfl, ?_⟩⟩; (rw [e20_, q1_] at x3_; exact x3_); (rw [na_4 q1_ a1_ (by omega) a2_ (by omega), if_pos h5_, pa_3 e220_.1 a3_ (by omega), e220_.2.1]))
        · have cx60_ : ¬ ((Sx38_.1 10 0 2) = 1) := of_decide_eq_false cx60_
          have bx102_ : 0 ≤ Sx38_.1 10 0 3 ∧ Sx38_.1 10 0 3 ≤ 1280 := hIx39_.1 10 0 3 rfl
          refine sm_T_go 6 (c1 := (126, [some (.inr (.inr (some (7, 0)))), some (.inl (S0_.1 10 0 3)), some (.inl vx14_), some (.inl (40 * (S0_.1 7 0 3) + vx14_)), some (.inl 1), none, none], [.inl (Sx38_.1 10 0 3), .inl 2, .inr (.inr (some (10, 0)))], Sx38_)) rfl ?_
          refine sm_T_calx (d1 := 0) (Q1 := vq_187 2 (Sx38_.1 10 0 3) Sx38_) (Q2 := vx_187 2 (Sx38_.1 10 0 3) Sx38_) rfl rfl (by decide) (vc_187 2 (Sx38_.1 10 0 3) Sx38_ hIx39_ (by decide) (by omega)) rfl (fun Sx103_ px106_ => ?_) (fun u_ Sx103_ px106_ => ?_)
          · obtain ⟨hIx104_, hFx105_, px106_⟩ := px106_
            refine Or.inr ⟨_, rfl, hIx104_, ai_fr_tr hFx42_ (fr_le hFx105_ rfl), ?_⟩
            exact ⟨(2, (lx_nx b_ n_ (lx_nx b_ n_ p_))), na_6 q1_ a1_ (by omega) a2_ (by omega) (by omega), px106_.1, px106_.2.trans st2_⟩
          · exact (px106_.2.2.2).elim
  · have cx15_ : ¬ (vx14_ ≠ (-1)) := of_decide_eq_false cx15_
    refine sm_T_go 4 (c1 := (36, [some (.inr (.inr (some (7, 0)))), some (.inl (S0_.1 10 0 3)), some (.inl vx14_), none, none, none, none], [.inl (S0_.1 10 0 3), .inl 11, .inr (.inr (some (10, 0)))], S0_)) rfl ?_
    refine sm_T_calx (d1 := 0) (Q1 := vq_187 11 (S0_.1 10 0 3) S0_) (Q2 := vx_187 11 (S0_.1 10 0 3) S0_) rfl rfl (by decide) (vc_187 11 (S0_.1 10 0 3) S0_ hI_ (by decide) (by omega)) rfl (fun Sx108_ px111_ => ?_) (fun u_ Sx108_ px111_ => ?_)
    · obtain ⟨hIx109_, hFx110_, px111_⟩ := px111_
      refine Or.inr ⟨_, rfl, hIx109_, ai_fr_tr hF_ (fr_le hFx110_ rfl), ?_⟩
      exact ⟨(11, p_), na_0 (by omega), px111_.1, px111_.2.trans st0_⟩
    · exact (px111_.2.2.2).elim

theorem st_tb : ∀ k_ : Nat, k_ < 3 → st_at 1 (k_ : Int) = if (k_ : Int) = 0 then 170 else if (k_ : Int) = 1 then 204 else 240 := by decide +kernel
