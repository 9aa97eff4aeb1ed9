/-! M_.choose -/
def vw_314g : sx_Wl := ([(13, 32), (13, 33), (13, 34), (13, 37)], [138, 139, 140, 141, 142, 143], [])
def vq_314g (b_ : Nat → Int) (n_ : Nat) (T_ : Nat) (p_ : Nat) (F_ : Nat) (I_ : Nat) (A_ : pA) (X_ : Nat → gQ → gE → Option (gQ × gE)) (m_ : Nat) (s0_ : gS) (q_ : Nat) (o_ : List (Int × Nat)) (x_ : Int) (y_ : Int) (z_ : Int) (g_ : List Int) (c_ : List Int) (S0_ : sm_S) (u_ : Option sm_V) (S1_ : sm_S) : Prop := u_ = none ∧ gi S1_ ∧ ai_fr (sx_W vw_314g) S0_ S1_ ∧ (rz b_ n_ T_ p_ F_ I_ A_ X_ m_ s0_ (o_, y_ :: g_, 7 :: c_) S1_ ∧ (S1_.1 13 0 32) = (S0_.1 13 0 32) - 1)
set_option maxHeartbeats 1500000 in
theorem vc_314g {sc_ : Nat × (Nat → Int)} (b_ : Nat → Int) (n_ : Nat) (T_ : Nat) (p_ : Nat) (F_ : Nat) (I_ : Nat) (A_ : pA) (X_ : Nat → gQ → gE → Option (gQ × gE)) (m_ : Nat) (s0_ : gS) (q_ : Nat) (o_ : List (Int × Nat)) (x_ : Int) (y_ : Int) (z_ : Int) (g_ : List Int) (c_ : List Int) (S0_ : sm_S) (hI_ : gi S0_) (ht_ : rtab b_ n_ T_ S0_) (hz_ : rz b_ n_ T_ p_ F_ I_ A_ X_ m_ s0_ ((-4, q_) :: o_, x_ :: y_ :: z_ :: g_, c_) S0_) (hxy_ : x_ = y_) : sm_T (mt_P sc_) 4 314 (0, [some (.inr (.inr (some (13, 0)))), none, none], [], S0_) (fun ro9_ => ∃ u_ S1_, ro9_ = (.inl u_, S1_, 0) ∧ vq_314g b_ n_ T_ p_ F_ I_ A_ X_ m_ s0_ q_ o_ x_ y_ z_ g_ c_ S0_ u_ S1_) := by
  have hF_ : ai_fr (sx_W vw_314g) S0_ S0_ := ai_fr_rf
  obtain ⟨⟨hg_, ⟨w0_, hw_, hwl_⟩, hop_, hv_, hmo1_⟩, hs_⟩ := id hz_.1
  have hwl_ : wl b_ n_ T_ ((-4, q_) :: o_) w0_ := by rcases hwl_ with z_ | z_; (exact absurd z_.1 (by decide)); (exact z_.2)
  obtain ⟨tq_, u0_, rfl, hq_, hwr_⟩ := hwl_
  have hT_ := ht_.2.1
  have hq1_ := rtp_at ht_ hq_
  obtain ⟨v1_, v2_, v3_⟩ := id hv_
  have w1_ := ws_tp hw_ (by rw [hw_.1, List.length_cons]; push_cast; omega)
  obtain ⟨y9_, u9_, w3_, w4_, w5_⟩ := w1_.2
  cases w3_
  have hwl1_ : S0_.1 13 0 32 = (u0_.length : Int) + 1 := by rw [hw_.1, List.length_cons]; push_cast; rfl
  have hf0_ := hg_.1
  have hol_ := o_lim hs_.1 hs_.2.1
  obtain ⟨Gr_, V0_, xe_, xm_, xr, xv_⟩ := id hz_.2.1
  obtain ⟨vy_, V1_, rfl, ly_, xm1_⟩ := mp_c xm_
  obtain ⟨vx_, Vq_, rfl, lx_, xm2_⟩ := mp_c xm1_
  obtain ⟨vz_, V_, rfl, lz_, xm3_⟩ := mp_c xm2_
  have hwr1_ : wl b_ n_ T_ o_ u0_ := by rcases hwr_ with z9_ | z9_; (exact z9_.2); (exact absurd z9_.1 (by decide))
  clear hwr_
  have hop1_ : S0_.1 13 0 33 = (o_mk o_ : Int) + 1 := by rw [hop_]; show ((1 + o_mk o_ : Nat) : Int) = _; push_cast; omega
  have v4_ : S0_.1 13 0 34 = (g_.length : Int) + 3 := by rw [v1_]; simp only [List.length_cons]; push_cast; omega
  have Vl_ : V_.length = g_.length := by rw [← xm3_, List.length_map]
  have l1_ : (S0_.1 13 0 34 - 3).toNat = V_.length := by omega
  have l2_ : (S0_.1 13 0 34 - 2).toNat = (vz_ :: V_).length := by simp only [List.length_cons]; omega
  have l3_ : (S0_.1 13 0 34 - 1).toNat = (vx_ :: vz_ :: V_).length := by simp only [List.length_cons]; omega
  have e2_ : S0_.2.2.1 138 0 (S0_.1 13 0 34 - 2).toNat = (vx_.length : Int) := by rw [l2_]; exact xv_.2.2.2.1
  have e3_ : S0_.2.2.1 138 0 (S0_.1 13 0 34 - 1).toNat = (vy_.length : Int) := by rw [l3_]; exact xv_.1
  have hul_ : u0_.length ≤ 731 := by have := wl_len hwr1_; have h9_ : ((-4, q_) :: o_).length ≤ 365 := hol_.1; simp only [List.length_cons] at h9_; omega
  have hgl_ : (x_ :: y_ :: z_ :: g_).length = o_hl ((-4, q_) :: o_) + 1 := hs_.2.2.1
  have hgl2_ : o_hl ((-4, q_) :: o_) ≤ 425 := hol_.2
  simp only [List.length_cons] at hgl_
  have lxy_ : vx_.length = vy_.length := by omega
  have x8_ := xv_.2.2.2.2.1
  have ow_ := o_wd_4 hz_.2.2
  obtain ⟨cc_, rfl⟩ : ∃ cc_, vz_ = [cc_] := by cases vz_ with | nil => (simp only [List.length_nil] at lz_; omega) | cons a1_ a2_ => (cases a2_ with | nil => exact ⟨a1_, rfl⟩ | cons a3_ a4_ => (simp only [List.length_cons] at lz_; push_cast at lz_; omega))
  have evn_ := ev_ch xe_ lxy_ x8_.1
  have ogl_ : Gr_.length ≤ (g_ch F_ cc_ Gr_ vx_ vy_).2.length := g_z2_le (fun G_ a_ b_ => g_c3_le) _ _ _
  have oln_ : (g_ch F_ cc_ Gr_ vx_ vy_).1.length = vx_.length := g_z2_ln _ _ _ lxy_
  have bx1_ : 0 ≤ S0_.1 13 0 32 ∧ S0_.1 13 0 32 ≤ 1023 := hI_.1 13 0 32 rfl
  refine sm_T_go 5 (c1 := (9, [some (.inr (.inr (some (13, 0)))), none, none], [.inl 1, .inl (S0_.1 13 0 32), .inr (.inr (some (137, 0)))], S0_)) rfl ?_
  refine sm_T_bin (w := (S0_.1 13 0 32) - 1) rfl (bi_sub (by omega) (by omega) (by omega)) ?_
  refine sm_T_iald (n := 1024) rfl rfl (by omega) (by omega) ?_
  have bx2_ : 0 ≤ S0_.2.2.1 137 0 ((S0_.1 13 0 32) - 1).toNat ∧ S0_.2.2.1 137 0 ((S0_.1 13 0 32) - 1).toNat ≤ 1280 := hI_.2 137 0 _
  refine sm_T_go 5 (c1 := (18, [some (.inr (.inr (some (13, 0)))), some (.inl (S0_.2.2.1 137 0 ((S0_.1 13 0 32) - 1).toNat)), none], [.inl 1, .inl (S0_.1 13 0 32), .inr (.inr (some (13, 0)))], S0_)) rfl ?_
  refine sm_T_bin (w := (S0_.1 13 0 32) - 1) rfl (bi_sub (by omega) (by omega) (by omega)) ?_
  have hIx3_ : gi (sm_pI S0_ 13 0 32 ((S0_.1 13 0 32) - 1)) := gi_pI hI_ (show 0 ≤ (S0_.1 13 0 32) - 1 ∧ (S0_.1 13 0 32) - 1 ≤ 1023 from ⟨by omega, by omega⟩)
  have hFx4_ : ai_fr (sx_W vw_314g) S0_ (sm_pI S0_ 13 0 32 ((S0_.1 13 0 32) - 1)) := ai_fr_tr hF_ (ai_fr_pI rfl)
  have bx5_ : 0 ≤ S0_.1 13 0 33 ∧ S0_.1 13 0 33 ≤ 60 := hI_.1 13 0 33 rfl
  refine sm_T_go 5 (c1 := (28, [some (.inr (.inr (some (13, 0)))), some (.inl (S0_.2.2.1 137 0 ((S0_.1 13 0 32) - 1).toNat)), none], [.inl 1, .inl (S0_.1 13 0 33), .inr (.inr (some (13, 0)))], sm_pI S0_ 13 0 32 ((S0_.1 13 0 32) - 1))) rfl ?_
  refine sm_T_bin (w := (S0_.1 13 0 33) - 1) rfl (bi_sub (by omega) (by omega) (by omega)) ?_
  have hIx6_ : gi (sm_pI (sm_pI S0_ 13 0 32 ((S0_.1 13 0 32) - 1)) 13 0 33 ((S0_.1 13 0 33) - 1)) := gi_pI hIx3_ (show 0 ≤ (S0_.1 13 0 33) - 1 ∧ (S0_.1 13 0 33) - 1 ≤ 60 from ⟨by omega, by omega⟩)
  have hFx7_ : ai_fr (sx_W vw_314g) S0_ (sm_pI (sm_pI S0_ 13 0 32 ((S0_.1 13 0 32) - 1)) 13 0 33 ((S0_.1 13 0 33) - 1)) := ai_fr_tr hFx4_ (ai_fr_pI rfl)
  have bx8_ : 0 ≤ S0_.1 13 0 34 ∧ S0_.1 13 0 34 ≤ 1023 := hI_.1 13 0 34 rfl
  refine sm_T_go 4 (c1 := (37, [some (.inr (.inr (some (13, 0)))), some (.inl (S0_.2.2.1 137 0 ((S0_.1 13 0 32) - 1).toNat)), none], [.inl 3, .inl (S0_.1 13 0 34)], sm_pI (sm_pI S0_ 13 0 32 ((S0_.1 13 0 32) - 1)) 13 0 33 ((S0_.1 13 0 33) - 1))) rfl ?_
  refine sm_T_bin (w := (S0_.1 13 0 34) - 3) rfl (bi_sub (by omega) (by omega) (by omega)) ?_
  refine sm_T_go 5 (c1 := (45, [some (.inr (.inr (some (13, 0)))), some (.inl (S0_.2.2.1 137 0 ((S0_.1 13 0 32) - 1).toNat)), some (.inl ((S0_.1 13 0 34) - 3))], [.inl 1, .inl ((S0_.1 13 0 34) - 3), .inr (.inr (some (138, 0)))], sm_pI (sm_pI S0_ 13 0 32 ((S0_.1 13 0 32) - 1)) 13 0 33 ((S0_.1 13 0 33) - 1))) rfl ?_
  refine sm_T_bin (w := (S0_.1 13 0 34) - 2) rfl (bi_add (by omega) (by omega) (by omega)) ?_
  refine sm_T_iald (n := 1024) rfl rfl (by omega) (by omega) ?_
  have bx9_ : (-2147483648) ≤ S0_.2.2.1 138 0 ((S0_.1 13 0 34) - 2).toNat ∧ S0_.2.2.1 138 0 ((S0_.1 13 0 34) - 2).toNat ≤ 2147483647 := hI_.2 138 0 _
  refine sm_T_go 4 (c1 := (53, [some (.inr (.inr (some (13, 0)))), some (.inl (S0_.2.2.1 137 0 ((S0_.1 13 0 32) - 1).toNat)), some (.inl ((S0_.1 13 0 34) - 3))], [.inl 2, .inl ((S0_.1 13 0 34) - 3), .inr (.inr (some (138, 0))), .inl (S0_.2.2.1 138 0 ((S0_.1 13 0 34) - 2).toNat)], sm_pI (sm_pI S0_ 13 0 32 ((S0_.1 13 0 32) - 1)) 13 0 33 ((S0_.1 13 0 33) - 1))) rfl ?_
  refine sm_T_bin (w := (S0_.1 13 0 34) - 1) rfl (bi_add (by omega) (by omega) (by omega)) ?_
  refine sm_T_iald (n := 1024) rfl rfl (by omega) (by omega) ?_
  have bx10_ : (-2147483648) ≤ S0_.2.2.1 138 0 ((S0_.1 13 0 34) - 1).toNat ∧ S0_.2.2.1 138 0 ((S0_.1 13 0 34) - 1).toNat ≤ 2147483647 := hI_.2 138 0 _
  refine sm_T_go 0 (c1 := (55, [some (.inr (.inr (some (13, 0)))), some (.inl (S0_.2.2.1 137 0 ((S0_.1 13 0 32) - 1).toNat)), some (.inl ((S0_.1 13 0 34) - 3))], [.inl (S0_.2.2.1 138 0 ((S0_.1 13 0 34) - 1).toNat), .inl (S0_.2.2.1 138 0 ((S0_.1 13 0 34) - 2).toNat)], sm_pI (sm_pI S0_ 13 0 32 ((S0_.1 13 0 32) - 1)) 13 0 33 ((S0_.1 13 0 33) - 1))) rfl ?_
  refine sm_T_br (a := 0) (z := 10) rfl (fun cx11_ => ?_) (fun cx11_ => ?_)
  · have cx11_ : (S0_.2.2.1 138 0 ((S0_.1 13 0 34) - 2).toNat) = (S0_.2.2.1 138 0 ((S0_.1 13 0 34) - 1).toNat) := of_decide_eq_true cx11_
    have bx12_ : 0 ≤ S0_.1 13 0 27 ∧ S0_.1 13 0 27 ≤ 2 := hI_.1 13 0 27 rfl
    refine sm_T_go 3 (c1 := (70, [some (.inr (.inr (some (13, 0)))), some (.inl (S0_.2.2.1 137 0 ((S0_.1 13 0 32) - 1).toNat)), some (.inl ((S0_.1 13 0 34) - 3))], [.inl 1, .inl (S0_.1 13 0 27)], sm_pI (sm_pI S0_ 13 0 32 ((S0_.1 13 0 32) - 1)) 13 0 33 ((S0_.1 13 0 33) - 1))) rfl ?_
    refine sm_T_br (a := 1) (z := 8) rfl (fun cx13_ => ?_) (fun cx13_ => ?_)
    · have cx13_ : (S0_.1 13 0 27) ≠ 1 := of_decide_eq_true cx13_
      exfalso; omega
    · have cx13_ : ¬ ((S0_.1 13 0 27) ≠ 1) := of_decide_eq_false cx13_
      refine sm_T_go 2 (c1 := (75, [some (.inr (.inr (some (13, 0)))), some (.inl (S0_.2.2.1 137 0 ((S0_.1 13 0 32) - 1).toNat)), some (.inl ((S0_.1 13 0 34) - 3))], [.inl ((S0_.1 13 0 34) - 3), .inr (.inr (some (13, 0)))], sm_pI (sm_pI S0_ 13 0 32 ((S0_.1 13 0 32) - 1)) 13 0 33 ((S0_.1 13 0 33) - 1))) rfl ?_
      refine sm_T_cal (d1 := 3) (Q1 := vq_332 ((S0_.1 13 0 34) - 3) F_ Gr_ cc_ vx_ vy_ (sm_pI (sm_pI S0_ 13 0 32 ((S0_.1 13 0 32) - 1)) 13 0 33 ((S0_.1 13 0 33) - 1))) rfl rfl (by decide) (vc_332 ((S0_.1 13 0 34) - 3) F_ Gr_ cc_ vx_ vy_ (sm_pI (sm_pI S0_ 13 0 32 ((S0_.1 13 0 32) - 1)) 13 0 33 ((S0_.1 13 0 33) - 1)) hIx6_ (by exact rgl_fr (w_ := ([(13, 32), (13, 33)], [], [])) xr (ai_fr_tr (ai_fr_pI rfl) (ai_fr_pI rfl)) rfl rfl rfl rfl rfl rfl) (by omega) (by (rw [l1_]; exact xv_.2.2.2.1)) (by exact ⟨lxy_, x8_.2⟩) (by (intro z9_; rw [l1_]; exact ⟨xv_.2.2.2.2.2.2.2.2.1 z9_, xv_.2.2.2.2.2.1 z9_, xv_.2.2.1 z9_⟩))) (fun u_ Sx14_ px17_ => ?_)
      obtain ⟨rfl, hIx15_, hFx16_, px17_⟩ := px17_
      have hFx18_ : ai_fr (sx_W vw_314g) S0_ Sx14_ := ai_fr_tr hFx7_ (fr_le hFx16_ rfl)
      have e93_ := px17_
      have m93_ : Sx14_.1 13 0 27 = 1 := (hFx16_.1 13 0 27 rfl).trans hmo1_
      have v93_ : Sx14_.1 13 0 34 = S0_.1 13 0 34 := hFx16_.1 13 0 34 rfl
      have w93_ : Sx14_.1 13 0 32 = S0_.1 13 0 32 - 1 := hFx16_.1 13 0 32 rfl
      have d93_ : Sx14_.2.2.1 138 0 = S0_.2.2.1 138 0 := by have q9_ := fr_arr (t := 138) (i := 0) hFx16_ rfl; exact q9_
      have g93_ : rg b_ n_ T_ (.inr p_) Sx14_ := rg_fr (show rg b_ n_ T_ (.inr p_) (sm_pI (sm_pI S0_ 13 0 32 ((S0_.1 13 0 32) - 1)) 13 0 33 ((S0_.1 13 0 33) - 1)) from hg_) hFx16_ rfl rfl rfl
      have k136_ : Sx14_.2.2.1 136 0 = S0_.2.2.1 136 0 := by have q9_ := fr_arr (t := 136) (i := 0) hFx16_ rfl; exact q9_
      have k137_ : Sx14_.2.2.1 137 0 = S0_.2.2.1 137 0 := by have q9_ := fr_arr (t := 137) (i := 0) hFx16_ rfl; exact q9_
      have b93_ : Sx14_.2.2.1 138 0 (S0_.1 13 0 34 - 2).toNat = (vx_.length : Int) := by rw [d93_]; exact e2_
      have o93_ : Sx14_.1 13 0 33 = (o_mk o_ : Int) := (hFx16_.1 13 0 33 rfl).trans (by show S0_.1 13 0 33 - 1 = _; omega)
      refine sm_T_go 7 (c1 := (89, [some (.inr (.inr (some (13, 0)))), some (.inl (S0_.2.2.1 137 0 ((S0_.1 13 0 32) - 1).toNat)), some (.inl ((S0_.1 13 0 34) - 3))], [.inl 1, .inl ((S0_.1 13 0 34) - 3), .inr (.inr (some (138, 0))), .inl ((S0_.1 13 0 34) - 3), .inr (.inr (some (138, 0)))], Sx14_)) rfl ?_
      refine sm_T_bin (w := (S0_.1 13 0 34) - 2) rfl (bi_add (by omega) (by omega) (by omega)) ?_
      refine sm_T_iald (n := 1024) rfl rfl (by omega) (by omega) ?_
      have bx19_ : (-2147483648) ≤ Sx14_.2.2.1 138 0 ((S0_.1 13 0 34) - 2).toNat ∧ Sx14_.2.2.1 138 0 ((S0_.1 13 0 34) - 2).toNat ≤ 2147483647 := hIx15_.2 138 0 _
      refine sm_T_iast (n := 1024) rfl rfl (by omega) (by omega) ?_
      have hIx20_ : gi (sm_aI Sx14_ 138 0 ((S0_.1 13 0 34) - 3).toNat (Sx14_.2.2.1 138 0 ((S0_.1 13 0 34) - 2).toNat)) := gi_aI hIx15_ (show (-2147483648) ≤ (Sx14_.2.2.1 138 0 ((S0_.1 13 0 34) - 2).toNat) ∧ (Sx14_.2.2.1 138 0 ((S0_.1 13 0 34) - 2).toNat) ≤ 2147483647 from ⟨by omega, by omega⟩)
      have hFx21_ : ai_fr (sx_W vw_314g) S0_ (sm_aI Sx14_ 138 0 ((S0_.1 13 0 34) - 3).toNat (Sx14_.2.2.1 138 0 ((S0_.1 13 0 34) - 2).toNat)) := ai_fr_tr hFx18_ (ai_fr_aI rfl)
      have bx22_ : 0 ≤ Sx14_.1 13 0 34 ∧ Sx14_.1 13 0 34 ≤ 1023 := hIx15_.1 13 0 34 rfl
      refine sm_T_go 4 (c1 := (98, [some (.inr (.inr (some (13, 0)))), some (.inl (S0_.2.2.1 137 0 ((S0_.1 13 0 32) - 1).toNat)), some (.inl ((S0_.1 13 0 34) - 3))], [.inl 2, .inl (Sx14_.1 13 0 34), .inr (.inr (some (13, 0)))], sm_aI Sx14_ 138 0 ((S0_.1 13 0 34) - 3).toNat (Sx14_.2.2.1 138 0 ((S0_.1 13 0 34) - 2).toNat))) rfl ?_
      refine sm_T_bin (w := (Sx14_.1 13 0 34) - 2) rfl (bi_sub (by omega) (by omega) (by omega)) ?_
      have hIx23_ : gi (sm_pI (sm_aI Sx14_ 138 0 ((S0_.1 13 0 34) - 3).toNat (Sx14_.2.2.1 138 0 ((S0_.1 13 0 34) - 2).toNat)) 13 0 34 ((Sx14_.1 13 0 34) - 2)) := gi_pI hIx20_ (show 0 ≤ (Sx14_.1 13 0 34) - 2 ∧ (Sx14_.1 13 0 34) - 2 ≤ 1023 from ⟨by omega, by omega⟩)
      have hFx24_ : ai_fr (sx_W vw_314g) S0_ (sm_pI (sm_aI Sx14_ 138 0 ((S0_.1 13 0 34) - 3).toNat (Sx14_.2.2.1 138 0 ((S0_.1 13 0 34) - 2).toNat)) 13 0 34 ((Sx14_.1 13 0 34) - 2)) := ai_fr_tr hFx21_ (ai_fr_pI rfl)
      refine sm_T_go 1 (c1 := (102, [some (.inr (.inr (some (13, 0)))), some (.inl (S0_.2.2.1 137 0 ((S0_.1 13 0 32) - 1).toNat)), some (.inl ((S0_.1 13 0 34) - 3))], [], sm_pI (sm_aI Sx14_ 138 0 ((S0_.1 13 0 34) - 3).toNat (Sx14_.2.2.1 138 0 ((S0_.1 13 0 34) - 2).toNat)) 13 0 34 ((Sx14_.1 13 0 34) - 2))) rfl ?_
      refine sm_T_rv rfl ⟨_, _, rfl, rfl, hIx23_, hFx24_, ?_⟩
      refine ⟨?_, by (try simp only [rd_eq, rd_ne, rf_eq, rf_nk, rf_nt, rd_fa, rd_af, rd_fl, rd_al, rd_lf, rd_la, rd_leq, rd_lne, rd_fr, rd_ar, ne_eq, Nat.reduceEqDiff, not_false_eq_true]); omega⟩
      have nw_ : y_ = ((g_ch F_ cc_ Gr_ vx_ vy_).1.length : Int) := by rw [oln_]; omega
      refine rz_mk (w_ := u0_) (V_ := (g_ch F_ cc_ Gr_ vx_ vy_).1 :: V_) g93_ ⟨?_, ?_, ?_⟩ hwr1_ o93_ ?_ m93_ ?_ evn_ (by rw [List.map_cons, xm3_, ← nw_]) ?_ ?_ ow_.2
      · (try simp only [rd_eq, rd_ne, rf_eq, rf_nk, rf_nt, rd_fa, rd_af, rd_fl, rd_al, rd_lf, rd_la, rd_leq, rd_lne, rd_fr, rd_ar, ne_eq, Nat.reduceEqDiff, not_false_eq_true]); omega
      · exact stk_cg (fun j_ _ => by (try simp only [rd_eq, rd_ne, rf_eq, rf_nk, rf_nt, rd_fa, rd_af, rd_fl, rd_al, rd_lf, rd_la, rd_leq, rd_lne, rd_fr, rd_ar, ne_eq, Nat.reduceEqDiff, not_false_eq_true]); rw [k136_]) hw_.2.1.2
      · exact stk_cg (fun j_ _ => by (try simp only [rd_eq, rd_ne, rf_eq, rf_nk, rf_nt, rd_fa, rd_af, rd_fl, rd_al, rd_lf, rd_la, rd_leq, rd_lne, rd_fr, rd_ar, ne_eq, Nat.reduceEqDiff, not_false_eq_true]); rw [k137_]) hw_.2.2.2
      · (try simp only [rd_eq, rd_ne, rf_eq, rf_nk, rf_nt, rd_fa, rd_af, rd_fl, rd_al, rd_lf, rd_la, rd_leq, rd_lne, rd_fr, rd_ar, ne_eq, Nat.reduceEqDiff, not_false_eq_true]); simp only [List.length_cons]; push_cast; omega
      · obtain ⟨t1_, t2_, t3_, t4_⟩ := hs_; refine ⟨t1_.2.2, ?_, ?_, ?_⟩; (have t2_ : 1 + o_mk o_ ≤ 60 := t2_; show o_mk o_ ≤ 60; omega); (show (y_ :: g_).length = o_hl o_ + 1; have t3_ : (x_ :: y_ :: z_ :: g_).length = (2 + o_hl o_) + 1 := t3_; simp only [List.length_cons] at t3_ ⊢; omega); (exact h_ok_c.mpr ⟨(h_ok_c.mp (h_ok_c.mp t4_).2).1, (h_ok_c.mp (h_ok_c.mp (h_ok_c.mp t4_).2).2).2⟩)
      · exact rgl_fr (w_ := ([(13, 34)], [138], [])) e93_.1 (ai_fr_tr (ai_fr_aI rfl) (ai_fr_pI rfl)) rfl rfl rfl rfl rfl rfl
      · refine svl_tp xv_.2.2.2.2.2.2.2.2.2 (fun z9_ => Nat.le_trans ogl_ z9_) (fun j_ hj_ => ?_) (fun j_ hj_ => ?_) ?_ (by rw [oln_]; exact x8_) (fun z9_ => ?_)
        · (try simp only [rd_eq, rd_ne, rf_eq, rf_nk, rf_nt, rd_fa, rd_af, rd_fl, rd_al, rd_lf, rd_la, rd_leq, rd_lne, rd_fr, rd_ar, ne_eq, Nat.reduceEqDiff, not_false_eq_true]); exact e93_.2.2 j_ (by omega)
        · (try simp only [rd_eq, rd_ne, rf_eq, rf_nk, rf_nt, rd_fa, rd_af, rd_fl, rd_al, rd_lf, rd_la, rd_leq, rd_lne, rd_fr, rd_ar, ne_eq, Nat.reduceEqDiff, not_false_eq_true]); rw [if_neg (by omega), d93_]
        · rw [oln_]; (try simp only [rd_eq, rd_ne, rf_eq, rf_nk, rf_nt, rd_fa, rd_af, rd_fl, rd_al, rd_lf, rd_la, rd_leq, rd_lne, rd_fr, rd_ar, ne_eq, Nat.reduceEqDiff, not_false_eq_true]); rw [if_pos l1_.symm]; omega
        · have q9_ := e93_.2.1 z9_; rw [l1_] at q9_; exact q9_
  · have cx11_ : ¬ ((S0_.2.2.1 138 0 ((S0_.1 13 0 34) - 2).toNat) = (S0_.2.2.1 138 0 ((S0_.1 13 0 34) - 1).toNat)) := of_decide_eq_false cx11_
    exfalso; omega
