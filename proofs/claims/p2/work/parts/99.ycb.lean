/-! M_.named -/
def vw_324 : sx_Wl := ([(13, 9), (13, 10), (13, 11)], [138, 139], [])
def vq_324 (b_ : Nat → Int) (n_ : Nat) (T_ : Nat) (mo_ : Int) (p_ : Nat) (i_ : Nat) (gl_ : Nat) (A_ : pA) (M_ : Nat) (S0_ : sm_S) (u_ : Option sm_V) (S1_ : sm_S) : Prop := u_ = none ∧ gi S1_ ∧ ai_fr (sx_W vw_324) S0_ S1_ ∧ (rg b_ n_ T_ (pb (p_na b_ n_ A_ M_ p_) fun r_ => .inr r_.1) S1_ ∧ ∀ r_, p_na b_ n_ A_ M_ p_ = .inr r_ → ∀ l_ : List Int, l_.length = gl_ → stk (S0_.2.2.1 138 0) l_ → stk (S1_.2.2.1 138 0) (r_.2.1 :: l_))
set_option maxHeartbeats 2500000 in
set_option maxRecDepth 20000 in
theorem vc_324 {sc_ : Nat × (Nat → Int)} (b_ : Nat → Int) (n_ : Nat) (T_ : Nat) (mo_ : Int) (p_ : Nat) (i_ : Nat) (gl_ : Nat) (A_ : pA) (M_ : Nat) (S0_ : sm_S) (hI_ : gi S0_) (ht_ : rtab b_ n_ T_ S0_) (hf_ : (S0_.1 13 0 10) = 0) (hi_ : (S0_.1 13 0 9) = (i_ : Int) ∧ rp b_ n_ T_ i_ p_) (hv_ : (S0_.1 13 0 34) = (gl_ : Int) ∧ gl_ ≤ 1000) (hmo_ : (S0_.1 13 0 27) = mo_) (hw_ : (S0_.1 13 0 32) ≤ 800) (hA_ : a_ok b_ n_ A_ M_) (hmd_ : (S0_.1 13 0 28) = (M_ : Int)) (hre_ : ∀ m_, m_ ≤ M_ → re1 b_ n_ T_ A_ m_ S0_) (hk_ : lx_kd b_ n_ p_ = 1) (hm0_ : mo_ = 0) : sm_T (mt_P sc_) 5 324 (0, [some (.inr (.inr (some (13, 0)))), none, none, none, none], [], S0_) (fun r_ => ∃ u_ S1_, r_ = (.inl u_, S1_, 0) ∧ vq_324 b_ n_ T_ mo_ p_ i_ gl_ A_ M_ S0_ u_ S1_) := by
  have hF_ : ai_fr (sx_W vw_324) S0_ S0_ := ai_fr_rf
  have hx_ : rg b_ n_ T_ (.inr p_) S0_ := ⟨hf_, i_, hi_.1, hi_.2⟩
  have hi9_ := hi_.2.1
  have hT_ := ht_.2.1
  have rt1_ := rp_rtk ht_ hi_.2 hk_
  have ra_ := rp_at ht_ hi_.2
  have rk_ := r_st_3 (lx_kd_r hi_.2.2.2.1)
  have e4_ : (S0_.1 13 0 9).toNat = i_ := by omega
  have hM1_ := hA_.1
  have aM_ := hA_.2 M_ (Nat.le_refl _)
  have aM1_ := aM_.1
  have hfb_ := p_fd_b (f_ := fun s_ => nm_q b_ n_ (A_.2.1 (40 * M_ + s_)) p_) (A_.1 M_)
  have hf0_ : p_fn b_ n_ A_ M_ p_ = p_fd (fun s_ => nm_q b_ n_ (A_.2.1 (40 * M_ + s_)) p_) (A_.1 M_) := rfl
  have bx1_ : 0 ≤ S0_.1 13 0 9 ∧ S0_.1 13 0 9 ≤ 1280 := hI_.1 13 0 9 rfl
  have bx2_ : 0 ≤ S0_.1 13 0 28 ∧ S0_.1 13 0 28 ≤ 15 := hI_.1 13 0 28 rfl
  refine sm_T_go 7 (c1 := (11, [some (.inr (.inr (some (13, 0)))), some (.inl (S0_.1 13 0 9)), none, none, none], [.inl (S0_.1 13 0 9), .inl (S0_.1 13 0 28), .inr (.inr (some (13, 0)))], S0_)) rfl ?_
  refine sm_T_cal (d1 := 1) (Q1 := vq_302 (S0_.1 13 0 28) (S0_.1 13 0 9) b_ n_ T_ A_ M_ p_ S0_) rfl rfl (by decide) (vc_302 (S0_.1 13 0 28) (S0_.1 13 0 9) b_ n_ T_ A_ M_ p_ S0_ hI_ (by exact ht_) (by exact ⟨hmd_, hM1_⟩) (by exact hre_ M_ (Nat.le_refl _)) (by exact aM1_) (by rw [hi_.1]; exact rt1_.1)) (fun u_ Sx3_ px6_ => ?_)
  obtain ⟨rfl, vx8_, rfl, px6_⟩ := px6_
  have e11_ := px6_
  have kx0_ : ∀ (s_ : Nat) (z_ : Int), vx8_ = (s_ : Int) → z_ = (M_ : Int) → (40 * z_ + vx8_).toNat = 40 * M_ + s_ := by intro s_ z_ q1_ q2_; omega
  refine sm_T_go 3 (c1 := (17, [some (.inr (.inr (some (13, 0)))), some (.inl (S0_.1 13 0 9)), some (.inl vx8_), none, none], [.inl (-1), .inl vx8_], S0_)) rfl ?_
  refine sm_T_br (a := 1) (z := 11) rfl (fun cx9_ => ?_) (fun cx9_ => ?_)
  · have cx9_ : vx8_ ≠ (-1) := of_decide_eq_true cx9_
    obtain ⟨s9_, q1_, q2_, q3_, -⟩ := p_fn_b (b_ := b_) (n_ := n_) (A_ := A_) (m_ := M_) (p_ := p_) (by omega)
    have ro_ := (hre_ M_ (Nat.le_refl _)).2 s9_ q2_
    have ao_ := aM_.2 s9_ q2_
    have sb_ := r_s2_b ao_.2.1
    have kx1_ := fun z_ => kx0_ s9_ z_ (e11_.trans q1_)
    refine sm_T_go 1 (c1 := (29, [some (.inr (.inr (some (13, 0)))), some (.inl (S0_.1 13 0 9)), some (.inl vx8_), none, none], [.inr (.inr (some (13, 0)))], S0_)) rfl ?_
    refine sm_T_cal (d1 := 2) (Q1 := vq_297 b_ n_ T_ (.inr p_) S0_) rfl rfl (by decide) (vc_297 b_ n_ T_ (.inr p_) S0_ hI_ (by exact ht_) (by exact hx_) (by (intro q_ e_; cases e_; omega))) (fun u_ Sx10_ px13_ => ?_)
    obtain ⟨rfl, hIx11_, hFx12_, px13_⟩ := px13_
    have hFx14_ : ai_fr (sx_W vw_324) S0_ Sx10_ := ai_fr_tr hF_ (fr_le hFx12_ rfl)
    have ex15_ : Sx10_.1 13 0 28 = S0_.1 13 0 28 := hFx12_.1 13 0 28 rfl
    have g29_ := px13_.1
    rw [pb_r rfl] at g29_
    have s29_ := fun e_ => px13_.2 p_ e_ rfl
    have t29_ := rtab_fr ht_ hFx12_ rfl rfl rfl rfl rfl
    have w29_ := fr_arr (t := 138) (i := 0) hFx12_ rfl
    have p29_ : Sx10_.2.2.1 120 0 (S0_.1 13 0 9).toNat = (p_ : Int) := by rw [e4_]; exact (rp_at t29_ hi_.2).2.1
    have sx_ := fr_arr (t := 128) (i := 0) hFx14_ rfl
    have wx_ := fr_arr (t := 129) (i := 0) hFx14_ rfl
    have mx_ : Sx10_.1 13 0 28 = (M_ : Int) := (hFx14_.1 13 0 28 rfl).trans hmd_
    have kx_ := kx1_ _ mx_
    have sk_ := (congrFun sx_ _).trans ((congrArg (S0_.2.2.1 128 0) kx_).trans ro_.2.1)
    have wk_ := (congrFun wx_ _).trans ((congrArg (S0_.2.2.1 129 0) kx_).trans ro_.2.2.1)
    have vl9_ : Sx10_.1 13 0 34 = (gl_ : Int) := (hFx14_.1 13 0 34 rfl).trans hv_.1
    have mo9_ : Sx10_.1 13 0 27 = mo_ := (hFx14_.1 13 0 27 rfl).trans hmo_
    have wt9_ : Sx10_.1 13 0 32 ≤ 800 := by rw [hFx14_.1 13 0 32 rfl]; exact hw_
    have re9_ : ∀ m_, m_ ≤ M_ → re1 b_ n_ T_ A_ m_ Sx10_ := fun m_ hm_ => re1_fr (hre_ m_ hm_) hFx14_ rfl rfl rfl rfl rfl rfl
    refine sm_T_go 2 (c1 := (35, [some (.inr (.inr (some (13, 0)))), some (.inl (S0_.1 13 0 9)), some (.inl vx8_), none, none], [.inl 46, .inr (.inr (some (13, 0)))], Sx10_)) rfl ?_
    refine sm_T_cal (d1 := 0) (Q1 := vq_295 46 b_ n_ T_ (p_ad b_ n_ p_) Sx10_) rfl rfl (by decide) (vc_295 46 b_ n_ T_ (p_ad b_ n_ p_) Sx10_ hIx11_ (by exact t29_) (by exact g29_) (by decide)) (fun u_ Sx16_ px19_ => ?_)
    obtain ⟨rfl, vx21_, rfl, px19_⟩ := px19_
    have e35_ := px19_.2
    have r35_ := px19_.1
    refine sm_T_go 2 (c1 := (40, [some (.inr (.inr (some (13, 0)))), some (.inl (S0_.1 13 0 9)), some (.inl vx8_), some (.inl vx21_), none], [.inl vx21_], Sx10_)) rfl ?_
    refine sm_T_b0 (a := 0) (z := 43) rfl (fun cx22_ => ?_) (fun cx22_ => ?_)
    · have cx22_ : vx21_ = 0 := of_decide_eq_true cx22_
      have bx23_ : 0 ≤ Sx10_.1 13 0 28 ∧ Sx10_.1 13 0 28 ≤ 15 := hIx11_.1 13 0 28 rfl
      refine sm_T_go 3 (c1 := (89, [some (.inr (.inr (some (13, 0)))), some (.inl (S0_.1 13 0 9)), some (.inl vx8_), some (.inl vx21_), none], [.inl (Sx10_.1 13 0 28), .inl 40], Sx10_)) rfl ?_
      refine sm_T_bin (w := 40 * (Sx10_.1 13 0 28)) rfl (bi_mul (by omega) (by omega) (by omega)) ?_
      refine sm_T_go 1 (c1 := (91, [some (.inr (.inr (some (13, 0)))), some (.inl (S0_.1 13 0 9)), some (.inl vx8_), some (.inl vx21_), none], [.inl vx8_, .inl (40 * (Sx10_.1 13 0 28))], Sx10_)) rfl ?_
      refine sm_T_bin (w := 40 * (Sx10_.1 13 0 28) + vx8_) rfl (bi_add (by omega) (by omega) (by omega)) ?_
      refine sm_T_go 2 (c1 := (95, [some (.inr (.inr (some (13, 0)))), some (.inl (S0_.1 13 0 9)), some (.inl vx8_), some (.inl vx21_), some (.inl (40 * (Sx10_.1 13 0 28) + vx8_))], [.inl vx21_], Sx10_)) rfl ?_
      refine sm_T_b0 (a := 0) (z := 41) rfl (fun cx24_ => ?_) (fun cx24_ => ?_)
      · have cx24_ : vx21_ = 0 := of_decide_eq_true cx24_
        refine sm_T_go 3 (c1 := (142, [some (.inr (.inr (some (13, 0)))), some (.inl (S0_.1 13 0 9)), some (.inl vx8_), some (.inl vx21_), some (.inl (40 * (Sx10_.1 13 0 28) + vx8_))], [.inl (40 * (Sx10_.1 13 0 28) + vx8_), .inr (.inr (some (128, 0)))], Sx10_)) rfl ?_
        refine sm_T_iald (n := 640) rfl rfl (by omega) (by omega) ?_
        have bx25_ : 0 ≤ Sx10_.2.2.1 128 0 (40 * (Sx10_.1 13 0 28) + vx8_).toNat ∧ Sx10_.2.2.1 128 0 (40 * (Sx10_.1 13 0 28) + vx8_).toNat ≤ 5 := hIx11_.2 128 0 _
        refine sm_T_cal (d1 := 0) (Q1 := vq_323 (Sx10_.2.2.1 128 0 (40 * (Sx10_.1 13 0 28) + vx8_).toNat) Sx10_) rfl rfl (by decide) (vc_323 (Sx10_.2.2.1 128 0 (40 * (Sx10_.1 13 0 28) + vx8_).toNat) Sx10_ hIx11_ ) (fun u_ Sx26_ px29_ => ?_)
        obtain ⟨rfl, vx31_, rfl, px29_⟩ := px29_
        have e143_ := px29_
        refine sm_T_b0 (a := 1) (z := 11) rfl (fun cx32_ => ?_) (fun cx32_ => ?_)
        · have cx32_ : vx31_ ≠ 0 := of_decide_eq_true cx32_
          refine sm_T_go 4 (c1 := (164, [some (.inr (.inr (some (13, 0)))), some (.inl (S0_.1 13 0 9)), some (.inl vx8_), some (.inl vx21_), some (.inl (40 * (Sx10_.1 13 0 28) + vx8_))], [.inl (40 * (Sx10_.1 13 0 28) + vx8_), .inr (.inr (some (129, 0))), .inr (.inr (some (13, 0)))], Sx10_)) rfl ?_
          refine sm_T_iald (n := 640) rfl rfl (by omega) (by omega) ?_
          have bx33_ : 0 ≤ Sx10_.2.2.1 129 0 (40 * (Sx10_.1 13 0 28) + vx8_).toNat ∧ Sx10_.2.2.1 129 0 (40 * (Sx10_.1 13 0 28) + vx8_).toNat ≤ 8 := hIx11_.2 129 0 _
          have bx34_ : 0 ≤ Sx10_.1 13 0 29 ∧ Sx10_.1 13 0 29 ≤ 16 := hIx11_.1 13 0 29 rfl
          refine sm_T_go 5 (c1 := (174, [some (.inr (.inr (some (13, 0)))), some (.inl (S0_.1 13 0 9)), some (.inl vx8_), some (.inl vx21_), some (.inl (40 * (Sx10_.1 13 0 28) + vx8_))], [.inl (Sx10_.1 13 0 29), .inl 40, .inl 8, .inl 0, .inl (Sx10_.2.2.1 129 0 (40 * (Sx10_.1 13 0 28) + vx8_).toNat), .inr (.inr (some (13, 0)))], Sx10_)) rfl ?_
          refine sm_T_bin (w := 40 * (Sx10_.1 13 0 29)) rfl (bi_mul (by omega) (by omega) (by omega)) ?_
          refine sm_T_go 1 (c1 := (176, [some (.inr (.inr (some (13, 0)))), some (.inl (S0_.1 13 0 9)), some (.inl vx8_), some (.inl vx21_), some (.inl (40 * (Sx10_.1 13 0 28) + vx8_))], [.inl vx8_, .inl (40 * (Sx10_.1 13 0 29)), .inl 8, .inl 0, .inl (Sx10_.2.2.1 129 0 (40 * (Sx10_.1 13 0 28) + vx8_).toNat), .inr (.inr (some (13, 0)))], Sx10_)) rfl ?_
          refine sm_T_bin (w := 40 * (Sx10_.1 13 0 29) + vx8_) rfl (bi_add (by omega) (by omega) (by omega)) ?_
          refine sm_T_bin (w := 320 * (Sx10_.1 13 0 29) + 8 * vx8_) rfl (bi_mul (by omega) (by omega) (by omega)) ?_
          refine sm_T_cal (d1 := 0) (Q1 := vq_333 (Sx10_.2.2.1 129 0 (40 * (Sx10_.1 13 0 28) + vx8_).toNat) 0 (320 * (Sx10_.1 13 0 29) + 8 * vx8_) mo_ gl_ Sx10_) rfl rfl (by decide) (vc_333 (Sx10_.2.2.1 129 0 (40 * (Sx10_.1 13 0 28) + vx8_).toNat) 0 (320 * (Sx10_.1 13 0 29) + 8 * vx8_) mo_ gl_ Sx10_ hIx11_ (by exact ⟨vl9_, hv_.2⟩) (by exact mo9_) (by omega) (by (have := ao_.2.2.1; omega))) (fun u_ Sx35_ px38_ => ?_)
          obtain ⟨rfl, hIx36_, hFx37_, px38_⟩ := px38_
          have hFx39_ : ai_fr (sx_W vw_324) S0_ Sx35_ := ai_fr_tr hFx14_ (fr_le hFx37_ rfl)
          have ex40_ : Sx35_.1 13 0 28 = Sx10_.1 13 0 28 := hFx37_.1 13 0 28 rfl
          have ex41_ : Sx35_.1 13 0 29 = Sx10_.1 13 0 29 := hFx37_.1 13 0 29 rfl
          have c178_ := px38_
          rw [wk_] at c178_
          first | (have g178_ := rg_fr g44_ hFx37_ rfl rfl rfl; have t178_ := rtab_fr t44_ hFx37_ rfl rfl rfl rfl rfl) | (have g178_ := rg_fr g29_ hFx37_ rfl rfl rfl; have t178_ := rtab_fr t29_ hFx37_ rfl rfl rfl rfl rfl)
          have vl8_ : Sx35_.1 13 0 34 = (gl_ : Int) := (hFx39_.1 13 0 34 rfl).trans hv_.1
          have wx8_ := fr_arr (t := 129) (i := 0) hFx39_ rfl
          have wk8_ := (congrFun wx8_ _).trans ((congrArg (S0_.2.2.1 129 0) kx_).trans ro_.2.2.1)
          have nso_ : ¬ A_.2.2.1 (40 * M_ + s9_) = 5 := fun z_ => by have z1_ := e143_.2; have z2_ := sb_.2.1.mpr z_; omega
          refine sm_T_go 1 (c1 := (182, [some (.inr (.inr (some (13, 0)))), some (.inl (S0_.1 13 0 9)), some (.inl vx8_), some (.inl vx21_), some (.inl (40 * (Sx10_.1 13 0 28) + vx8_))], [.inl vx21_], Sx35_)) rfl ?_
          refine sm_T_b0 (a := 0) (z := 14) rfl (fun cx42_ => ?_) (fun cx42_ => ?_)
          · have cx42_ : vx21_ = 0 := of_decide_eq_true cx42_
            refine sm_T_rv rfl ⟨_, _, rfl, rfl, hIx36_, hFx39_, ?_⟩
            first | (have hp_ : p_na b_ n_ A_ M_ p_ = p_bi b_ n_ (A_.2.2.2.1 (40 * M_ + s9_)) [cw 9 s9_ 0] r_ := (by rw [na_5 q1_ hq_ k46_ hr44_ k2r]; exact if_neg nso_); rw [hp_]; refine ⟨by rw [bi_pl]; exact e193_.1, fun r9_ hr_ l_ hl_ hs_ => ?_⟩; obtain ⟨b1_, b2_⟩ := bi_1 hr_; rw [b1_]; exact e193_.2 _ b2_ l_ hl_ (c178_ l_ hl_ (by rw [w44_]; exact hs_)).2) | (cases hq_ : p_ad b_ n_ p_ with | inl e_ => (have hp_ := na_1 (A_ := A_) (M_ := M_) q1_ hq_; refine ⟨?_, fun r_ hr_ => by rw [hp_] at hr_; cases hr_⟩; rw [hp_]; rw [hq_] at g178_; exact g178_) | inr q_ => (have hp_ : p_na b_ n_ A_ M_ p_ = .inr (q_, A_.2.2.2.1 (40 * M_ + s9_), [cw 9 s9_ 0]) := (by rw [na_2 q1_ hq_ (fun z_ => by have := (e35_ q_ hq_).mpr z_; omega)]; exact if_neg nso_); rw [hp_]; refine ⟨by rw [hq_] at g178_; exact g178_, fun r9_ hr_ l_ hl_ hs_ => ?_⟩; cases hr_; exact c178_ l_ hl_ (by rw [w29_]; exact hs_)))
          · have cx42_ : ¬ (vx21_ = 0) := of_decide_eq_false cx42_
            exfalso; omega
        · have cx32_ : ¬ (vx31_ ≠ 0) := of_decide_eq_false cx32_
          refine sm_T_go 3 (c1 := (153, [some (.inr (.inr (some (13, 0)))), some (.inl (S0_.1 13 0 9)), some (.inl vx8_), some (.inl vx21_), some (.inl (40 * (Sx10_.1 13 0 28) + vx8_))], [.inl (S0_.1 13 0 9), .inl 11, .inr (.inr (some (13, 0)))], Sx10_)) rfl ?_
          refine sm_T_cal (d1 := 0) (Q1 := vq_294 11 (S0_.1 13 0 9) Sx10_) rfl rfl (by decide) (vc_294 11 (S0_.1 13 0 9) Sx10_ hIx11_ (by decide) (by omega)) (fun u_ Sx43_ px46_ => ?_)
          obtain ⟨rfl, hIx44_, hFx45_, px46_⟩ := px46_
          have hFx47_ : ai_fr (sx_W vw_324) S0_ Sx43_ := ai_fr_tr hFx14_ (fr_le hFx45_ rfl)
          have ex48_ : Sx43_.1 13 0 28 = Sx10_.1 13 0 28 := hFx45_.1 13 0 28 rfl
          have e153_ := px46_
          refine sm_T_rv rfl ⟨_, _, rfl, rfl, hIx44_, hFx47_, ?_⟩
          have so5_ : A_.2.2.1 (40 * M_ + s9_) = 5 := sb_.2.1.mp (by have z1_ := e143_.2; have z2_ := sb_.2.2.2.2; omega)
          first | (have hp_ : p_na b_ n_ A_ M_ p_ = .inl (11, p_) := (by rw [na_5 q1_ hq_ k46_ hr44_ k2r]; exact if_pos so5_); refine ⟨?_, fun r_ hr_ => by rw [hp_] at hr_; cases hr_⟩; rw [hp_]; rcases e153_ with z_ | z_; (exact absurd g44_.1 z_.1); (exact ⟨z_.2.1, z_.2.2.trans p44_, by show (11 : Int) ≠ 0; decide⟩)) | (cases hq_ : p_ad b_ n_ p_ with | inl e_ => (have hp_ := na_1 (A_ := A_) (M_ := M_) q1_ hq_; refine ⟨?_, fun r_ hr_ => by rw [hp_] at hr_; cases hr_⟩; rw [hp_]; rw [hq_] at g29_; rcases e153_ with z_ | z_; (exact rg_e2 g29_ z_.2.1 z_.2.2); (exact absurd (g29_.1.symm.trans z_.1) g29_.2.2)) | inr q_ => (have hp_ : p_na b_ n_ A_ M_ p_ = .inl (11, p_) := (by rw [na_2 q1_ hq_ (fun z_ => by have := (e35_ q_ hq_).mpr z_; omega)]; exact if_pos so5_); refine ⟨?_, fun r_ hr_ => by rw [hp_] at hr_; cases hr_⟩; rw [hp_]; rw [hq_] at g29_; rcases e153_ with z_ | z_; (exact absurd g29_.1 z_.1); (exact ⟨z_.2.1, z_.2.2.trans p29_, by show (11 : Int) ≠ 0; decide⟩)))
      · have cx24_ : ¬ (vx21_ = 0) := of_decide_eq_false cx24_
        exfalso; omega
    · have cx22_ : ¬ (vx21_ = 0) := of_decide_eq_false cx22_
      obtain ⟨q_, hq_⟩ : ∃ q_, p_ad b_ n_ p_ = .inr q_ := by cases hq_ : p_ad b_ n_ p_ with | inl e_ => (exfalso; have z1_ := s29_ e_ hq_; have z2_ := r35_.2 (by omega); omega) | inr q_ => exact ⟨q_, rfl⟩
      have k46_ := (e35_ q_ hq_).mp (by omega)
      rw [hq_] at g29_
      refine sm_T_go 1 (c1 := (44, [some (.inr (.inr (some (13, 0)))), some (.inl (S0_.1 13 0 9)), some (.inl vx8_), some (.inl vx21_), none], [.inr (.inr (some (13, 0)))], Sx10_)) rfl ?_
      refine sm_T_cal (d1 := 2) (Q1 := vq_297 b_ n_ T_ (.inr q_) Sx10_) rfl rfl (by decide) (vc_297 b_ n_ T_ (.inr q_) Sx10_ hIx11_ (by exact t29_) (by exact g29_) (by (intro z_ e_; cases e_; omega))) (fun u_ Sx49_ px52_ => ?_)
      obtain ⟨rfl, hIx50_, hFx51_, px52_⟩ := px52_
      have hFx53_ : ai_fr (sx_W vw_324) S0_ Sx49_ := ai_fr_tr hFx14_ (fr_le hFx51_ rfl)
      have g44_ := px52_.1
      rw [pb_r rfl] at g44_
      have s44_ := fun e_ => px52_.2 q_ e_ rfl
      have t44_ := rtab_fr t29_ hFx51_ rfl rfl rfl rfl rfl
      have w44_ := (fr_arr (t := 138) (i := 0) hFx51_ rfl).trans w29_
      have p44_ : Sx49_.2.2.1 120 0 (S0_.1 13 0 9).toNat = (p_ : Int) := by rw [e4_]; exact (rp_at t44_ hi_.2).2.1
      have r44_ : ∀ r_, p_ad b_ n_ q_ = .inr r_ → ∃ j_ : Nat, Sx49_.1 13 0 9 = (j_ : Int) ∧ rp b_ n_ T_ j_ r_ ∧ Sx49_.2.2.1 119 0 (Sx49_.1 13 0 9).toNat = r_st (lx_kd b_ n_ r_) ∧ Sx49_.2.2.1 120 0 (Sx49_.1 13 0 9).toNat = (r_ : Int) := fun r_ hr_ => by rw [hr_] at g44_; obtain ⟨j_, j1_, j2_⟩ := g44_.2; have j3_ := rp_at t44_ j2_; rw [show (Sx49_.1 13 0 9).toNat = j_ by omega]; exact ⟨j_, j1_, j2_, j3_.1, j3_.2.1⟩
      have sx_ := fr_arr (t := 128) (i := 0) hFx53_ rfl
      have wx_ := fr_arr (t := 129) (i := 0) hFx53_ rfl
      have mx_ : Sx49_.1 13 0 28 = (M_ : Int) := (hFx53_.1 13 0 28 rfl).trans hmd_
      have kx_ := kx1_ _ mx_
      have sk_ := (congrFun sx_ _).trans ((congrArg (S0_.2.2.1 128 0) kx_).trans ro_.2.1)
      have wk_ := (congrFun wx_ _).trans ((congrArg (S0_.2.2.1 129 0) kx_).trans ro_.2.2.1)
      have vl9_ : Sx49_.1 13 0 34 = (gl_ : Int) := (hFx53_.1 13 0 34 rfl).trans hv_.1
      have mo9_ : Sx49_.1 13 0 27 = mo_ := (hFx53_.1 13 0 27 rfl).trans hmo_
      have wt9_ : Sx49_.1 13 0 32 ≤ 800 := by rw [hFx53_.1 13 0 32 rfl]; exact hw_
      have re9_ : ∀ m_, m_ ≤ M_ → re1 b_ n_ T_ A_ m_ Sx49_ := fun m_ hm_ => re1_fr (hre_ m_ hm_) hFx53_ rfl rfl rfl rfl rfl rfl
      have bx54_ : 0 ≤ Sx49_.1 13 0 9 ∧ Sx49_.1 13 0 9 ≤ 1280 := hIx50_.1 13 0 9 rfl
      refine sm_T_go 4 (c1 := (55, [some (.inr (.inr (some (13, 0)))), some (.inl (S0_.1 13 0 9)), some (.inl vx8_), some (.inl vx21_), none], [.inl (Sx49_.1 13 0 9), .inr (.inr (some (119, 0)))], Sx49_)) rfl ?_
      refine sm_T_bald (n := 65537) rfl rfl (by omega) (by omega) ?_
      have bx55_ : (-128) ≤ Sx49_.2.2.1 119 0 (Sx49_.1 13 0 9).toNat ∧ Sx49_.2.2.1 119 0 (Sx49_.1 13 0 9).toNat ≤ 127 := hIx50_.2 119 0 _
      refine sm_T_go 1 (c1 := (57, [some (.inr (.inr (some (13, 0)))), some (.inl (S0_.1 13 0 9)), some (.inl vx8_), some (.inl vx21_), none], [.inl 2, .inl (Sx49_.2.2.1 119 0 (Sx49_.1 13 0 9).toNat)], Sx49_)) rfl ?_
      refine sm_T_br (a := 0) (z := 26) rfl (fun cx56_ => ?_) (fun cx56_ => ?_)
      · have cx56_ : (Sx49_.2.2.1 119 0 (Sx49_.1 13 0 9).toNat) = 2 := of_decide_eq_true cx56_
        have bx57_ : 0 ≤ Sx49_.1 13 0 28 ∧ Sx49_.1 13 0 28 ≤ 15 := hIx50_.1 13 0 28 rfl
        refine sm_T_go 3 (c1 := (89, [some (.inr (.inr (some (13, 0)))), some (.inl (S0_.1 13 0 9)), some (.inl vx8_), some (.inl vx21_), none], [.inl (Sx49_.1 13 0 28), .inl 40], Sx49_)) rfl ?_
        refine sm_T_bin (w := 40 * (Sx49_.1 13 0 28)) rfl (bi_mul (by omega) (by omega) (by omega)) ?_
        refine sm_T_go 1 (c1 := (91, [some (.inr (.inr (some (13, 0)))), some (.inl (S0_.1 13 0 9)), some (.inl vx8_), some (.inl vx21_), none], [.inl vx8_, .inl (40 * (Sx49_.1 13 0 28))], Sx49_)) rfl ?_
        refine sm_T_bin (w := 40 * (Sx49_.1 13 0 28) + vx8_) rfl (bi_add (by omega) (by omega) (by omega)) ?_
        refine sm_T_go 2 (c1 := (95, [some (.inr (.inr (some (13, 0)))), some (.inl (S0_.1 13 0 9)), some (.inl vx8_), some (.inl vx21_), some (.inl (40 * (Sx49_.1 13 0 28) + vx8_))], [.inl vx21_], Sx49_)) rfl ?_
        refine sm_T_b0 (a := 0) (z := 41) rfl (fun cx58_ => ?_) (fun cx58_ => ?_)
        · have cx58_ : vx21_ = 0 := of_decide_eq_true cx58_
          exfalso; omega
        · have cx58_ : ¬ (vx21_ = 0) := of_decide_eq_false cx58_
          refine sm_T_go 4 (c1 := (106, [some (.inr (.inr (some (13, 0)))), some (.inl (S0_.1 13 0 9)), some (.inl vx8_), some (.inl vx21_), some (.inl (40 * (Sx49_.1 13 0 28) + vx8_))], [.inl (Sx49_.1 13 0 9), .inr (.inr (some (119, 0)))], Sx49_)) rfl ?_
          refine sm_T_bald (n := 65537) rfl rfl (by omega) (by omega) ?_
          refine sm_T_go 1 (c1 := (108, [some (.inr (.inr (some (13, 0)))), some (.inl (S0_.1 13 0 9)), some (.inl vx8_), some (.inl vx21_), some (.inl (40 * (Sx49_.1 13 0 28) + vx8_))], [.inl 1, .inl (Sx49_.2.2.1 119 0 (Sx49_.1 13 0 9).toNat)], Sx49_)) rfl ?_
          refine sm_T_br (a := 1) (z := 28) rfl (fun cx59_ => ?_) (fun cx59_ => ?_)
          · have cx59_ : (Sx49_.2.2.1 119 0 (Sx49_.1 13 0 9).toNat) ≠ 1 := of_decide_eq_true cx59_
            obtain ⟨r_, hr44_⟩ : ∃ r_, p_ad b_ n_ q_ = .inr r_ := by cases hr_ : p_ad b_ n_ q_ with | inl e_ => (exfalso; have z1_ := s44_ e_ hr_; omega) | inr r_ => exact ⟨r_, rfl⟩
            obtain ⟨j_, j1_, j2_, j3_, j4_⟩ := r44_ r_ hr44_
            have j5_ := r_st_3 (lx_kd_r j2_.2.2.1)
            have k2r : lx_kd b_ n_ r_ = 2 := j5_.2.2.1.mp (by omega)
            rw [hr44_] at g44_
            refine sm_T_go 3 (c1 := (142, [some (.inr (.inr (some (13, 0)))), some (.inl (S0_.1 13 0 9)), some (.inl vx8_), some (.inl vx21_), some (.inl (40 * (Sx49_.1 13 0 28) + vx8_))], [.inl (40 * (Sx49_.1 13 0 28) + vx8_), .inr (.inr (some (128, 0)))], Sx49_)) rfl ?_
            refine sm_T_iald (n := 640) rfl rfl (by omega) (by omega) ?_
            have bx60_ : 0 ≤ Sx49_.2.2.1 128 0 (40 * (Sx49_.1 13 0 28) + vx8_).toNat ∧ Sx49_.2.2.1 128 0 (40 * (Sx49_.1 13 0 28) + vx8_).toNat ≤ 5 := hIx50_.2 128 0 _
            refine sm_T_cal (d1 := 0) (Q1 := vq_323 (Sx49_.2.2.1 128 0 (40 * (Sx49_.1 13 0 28) + vx8_).toNat) Sx49_) rfl rfl (by decide) (vc_323 (Sx49_.2.2.1 128 0 (40 * (Sx49_.1 13 0 28) + vx8_).toNat) Sx49_ hIx50_ ) (fun u_ Sx61_ px64_ => ?_)
            obtain ⟨rfl, vx66_, rfl, px64_⟩ := px64_
            have e143_ := px64_
            refine sm_T_b0 (a := 1) (z := 11) rfl (fun cx67_ => ?_) (fun cx67_ => ?_)
            · have cx67_ : vx66_ ≠ 0 := of_decide_eq_true cx67_
              refine sm_T_go 4 (c1 := (164, [some (.inr (.inr (some (13, 0)))), some (.inl (S0_.1 13 0 9)), some (.inl vx8_), some (.inl vx21_), some (.inl (40 * (Sx49_.1 13 0 28) + vx8_))], [.inl (40 * (Sx49_.1 13 0 28) + vx8_), .inr (.inr (some (129, 0))), .inr (.inr (some (13, 0)))], Sx49_)) rfl ?_
              refine sm_T_iald (n := 640) rfl rfl (by omega) (by omega) ?_
              have bx68_ : 0 ≤ Sx49_.2.2.1 129 0 (40 * (Sx49_.1 13 0 28) + vx8_).toNat ∧ Sx49_.2.2.1 129 0 (40 * (Sx49_.1 13 0 28) + vx8_).toNat ≤ 8 := hIx50_.2 129 0 _
              have bx69_ : 0 ≤ Sx49_.1 13 0 29 ∧ Sx49_.1 13 0 29 ≤ 16 := hIx50_.1 13 0 29 rfl
              refine sm_T_go 5 (c1 := (174, [some (.inr (.inr (some (13, 0)))), some (.inl (S0_.1 13 0 9)), some (.inl vx8_), some (.inl vx21_), some (.inl (40 * (Sx49_.1 13 0 28) + vx8_))], [.inl (Sx49_.1 13 0 29), .inl 40, .inl 8, .inl 0, .inl (Sx49_.2.2.1 129 0 (40 * (Sx49_.1 13 0 28) + vx8_).toNat), .inr (.inr (some (13, 0)))], Sx49_)) rfl ?_
              refine sm_T_bin (w := 40 * (Sx49_.1 13 0 29)) rfl (bi_mul (by omega) (by omega) (by omega)) ?_
              refine sm_T_go 1 (c1 := (176, [some (.inr (.inr (some (13, 0)))), some (.inl (S0_.1 13 0 9)), some (.inl vx8_), some (.inl vx21_), some (.inl (40 * (Sx49_.1 13 0 28) + vx8_))], [.inl vx8_, .inl (40 * (Sx49_.1 13 0 29)), .inl 8, .inl 0, .inl (Sx49_.2.2.1 129 0 (40 * (Sx49_.1 13 0 28) + vx8_).toNat), .inr (.inr (some (13, 0)))], Sx49_)) rfl ?_
              refine sm_T_bin (w := 40 * (Sx49_.1 13 0 29) + vx8_) rfl (bi_add (by omega) (by omega) (by omega)) ?_
              refine sm_T_bin (w := 320 * (Sx49_.1 13 0 29) + 8 * vx8_) rfl (bi_mul (by omega) (by omega) (by omega)) ?_
              refine sm_T_cal (d1 := 0) (Q1 := vq_333 (Sx49_.2.2.1 129 0 (40 * (Sx49_.1 13 0 28) + vx8_).toNat) 0 (320 * (Sx49_.1 13 0 29) + 8 * vx8_) mo_ gl_ Sx49_) rfl rfl (by decide) (vc_333 (Sx49_.2.2.1 129 0 (40 * (Sx49_.1 13 0 28) + vx8_).toNat) 0 (320 * (Sx49_.1 13 0 29) + 8 * vx8_) mo_ gl_ Sx49_ hIx50_ (by exact ⟨vl9_, hv_.2⟩) (by exact mo9_) (by omega) (by (have := ao_.2.2.1; omega))) (fun u_ Sx70_ px73_ => ?_)
              obtain ⟨rfl, hIx71_, hFx72_, px73_⟩ := px73_
              have hFx74_ : ai_fr (sx_W vw_324) S0_ Sx70_ := ai_fr_tr hFx53_ (fr_le hFx72_ rfl)
              have ex75_ : Sx70_.1 13 0 28 = Sx49_.1 13 0 28 := hFx72_.1 13 0 28 rfl
              have ex76_ : Sx70_.1 13 0 9 = Sx49_.1 13 0 9 := hFx72_.1 13 0 9 rfl
              have ex77_ : Sx70_.1 13 0 29 = Sx49_.1 13 0 29 := hFx72_.1 13 0 29 rfl
              have c178_ := px73_
              rw [wk_] at c178_
              first | (have g178_ := rg_fr g44_ hFx72_ rfl rfl rfl; have t178_ := rtab_fr t44_ hFx72_ rfl rfl rfl rfl rfl) | (have g178_ := rg_fr g29_ hFx72_ rfl rfl rfl; have t178_ := rtab_fr t29_ hFx72_ rfl rfl rfl rfl rfl)
              have vl8_ : Sx70_.1 13 0 34 = (gl_ : Int) := (hFx74_.1 13 0 34 rfl).trans hv_.1
              have wx8_ := fr_arr (t := 129) (i := 0) hFx74_ rfl
              have wk8_ := (congrFun wx8_ _).trans ((congrArg (S0_.2.2.1 129 0) kx_).trans ro_.2.2.1)
              have nso_ : ¬ A_.2.2.1 (40 * M_ + s9_) = 5 := fun z_ => by have z1_ := e143_.2; have z2_ := sb_.2.1.mpr z_; omega
              refine sm_T_go 1 (c1 := (182, [some (.inr (.inr (some (13, 0)))), some (.inl (S0_.1 13 0 9)), some (.inl vx8_), some (.inl vx21_), some (.inl (40 * (Sx49_.1 13 0 28) + vx8_))], [.inl vx21_], Sx70_)) rfl ?_
              refine sm_T_b0 (a := 0) (z := 14) rfl (fun cx78_ => ?_) (fun cx78_ => ?_)
              · have cx78_ : vx21_ = 0 := of_decide_eq_true cx78_
                exfalso; omega
              · have cx78_ : ¬ (vx21_ = 0) := of_decide_eq_false cx78_
                refine sm_T_go 4 (c1 := (192, [some (.inr (.inr (some (13, 0)))), some (.inl (S0_.1 13 0 9)), some (.inl vx8_), some (.inl vx21_), some (.inl (40 * (Sx49_.1 13 0 28) + vx8_))], [.inl (40 * (Sx49_.1 13 0 28) + vx8_), .inr (.inr (some (129, 0))), .inr (.inr (some (13, 0)))], Sx70_)) rfl ?_
                refine sm_T_iald (n := 640) rfl rfl (by omega) (by omega) ?_
                have bx79_ : 0 ≤ Sx70_.2.2.1 129 0 (40 * (Sx49_.1 13 0 28) + vx8_).toNat ∧ Sx70_.2.2.1 129 0 (40 * (Sx49_.1 13 0 28) + vx8_).toNat ≤ 8 := hIx71_.2 129 0 _
                refine sm_T_cal (d1 := 3) (Q1 := vq_325 (Sx70_.2.2.1 129 0 (40 * (Sx49_.1 13 0 28) + vx8_).toNat) b_ n_ T_ (.inr r_) mo_ gl_ Sx70_) rfl rfl (by decide) (vc_325 (Sx70_.2.2.1 129 0 (40 * (Sx49_.1 13 0 28) + vx8_).toNat) b_ n_ T_ (.inr r_) mo_ gl_ Sx70_ hIx71_ (by exact t178_) (by exact g178_) (by exact ⟨vl8_, hv_.2⟩) (by (have := ao_.2.2.1; omega))) (fun u_ Sx80_ px83_ => ?_)
                obtain ⟨rfl, hIx81_, hFx82_, px83_⟩ := px83_
                have hFx84_ : ai_fr (sx_W vw_324) S0_ Sx80_ := ai_fr_tr hFx74_ (fr_le hFx82_ rfl)
                have e193_ := px83_
                rw [wk8_, pb_r rfl] at e193_
                refine sm_T_rv rfl ⟨_, _, rfl, rfl, hIx81_, hFx84_, ?_⟩
                first | (have hp_ : p_na b_ n_ A_ M_ p_ = p_bi b_ n_ (A_.2.2.2.1 (40 * M_ + s9_)) [cw 9 s9_ 0] r_ := (by rw [na_5 q1_ hq_ k46_ hr44_ k2r]; exact if_neg nso_); rw [hp_]; refine ⟨by rw [bi_pl]; exact e193_.1, fun r9_ hr_ l_ hl_ hs_ => ?_⟩; obtain ⟨b1_, b2_⟩ := bi_1 hr_; rw [b1_]; exact e193_.2 _ b2_ l_ hl_ (c178_ l_ hl_ (by rw [w44_]; exact hs_)).2) | (cases hq_ : p_ad b_ n_ p_ with | inl e_ => (have hp_ := na_1 (A_ := A_) (M_ := M_) q1_ hq_; refine ⟨?_, fun r_ hr_ => by rw [hp_] at hr_; cases hr_⟩; rw [hp_]; rw [hq_] at g178_; exact g178_) | inr q_ => (have hp_ : p_na b_ n_ A_ M_ p_ = .inr (q_, A_.2.2.2.1 (40 * M_ + s9_), [cw 9 s9_ 0]) := (by rw [na_2 q1_ hq_ (fun z_ => by have := (e35_ q_ hq_).mpr z_; omega)]; exact if_neg nso_); rw [hp_]; refine ⟨by rw [hq_] at g178_; exact g178_, fun r9_ hr_ l_ hl_ hs_ => ?_⟩; cases hr_; exact c178_ l_ hl_ (by rw [w29_]; exact hs_)))
            · have cx67_ : ¬ (vx66_ ≠ 0) := of_decide_eq_false cx67_
              refine sm_T_go 3 (c1 := (153, [some (.inr (.inr (some (13, 0)))), some (.inl (S0_.1 13 0 9)), some (.inl vx8_), some (.inl vx21_), some (.inl (40 * (Sx49_.1 13 0 28) + vx8_))], [.inl (S0_.1 13 0 9), .inl 11, .inr (.inr (some (13, 0)))], Sx49_)) rfl ?_
              refine sm_T_cal (d1 := 0) (Q1 := vq_294 11 (S0_.1 13 0 9) Sx49_) rfl rfl (by decide) (vc_294 11 (S0_.1 13 0 9) Sx49_ hIx50_ (by decide) (by omega)) (fun u_ Sx85_ px88_ => ?_)
              obtain ⟨rfl, hIx86_, hFx87_, px88_⟩ := px88_
              have hFx89_ : ai_fr (sx_W vw_324) S0_ Sx85_ := ai_fr_tr hFx53_ (fr_le hFx87_ rfl)
              have ex90_ : Sx85_.1 13 0 9 = Sx49_.1 13 0 9 := hFx87_.1 13 0 9 rfl
              have ex91_ : Sx85_.1 13 0 28 = Sx49_.1 13 0 28 := hFx87_.1 13 0 28 rfl
              have e153_ := px88_
              refine sm_T_rv rfl ⟨_, _, rfl, rfl, hIx86_, hFx89_, ?_⟩
              have so5_ : A_.2.2.1 (40 * M_ + s9_) = 5 := sb_.2.1.mp (by have z1_ := e143_.2; have z2_ := sb_.2.2.2.2; omega)
              first | (have hp_ : p_na b_ n_ A_ M_ p_ = .inl (11, p_) := (by rw [na_5 q1_ hq_ k46_ hr44_ k2r]; exact if_pos so5_); refine ⟨?_, fun r_ hr_ => by rw [hp_] at hr_; cases hr_⟩; rw [hp_]; rcases e153_ with z_ | z_; (exact absurd g44_.1 z_.1); (exact ⟨z_.2.1, z_.2.2.trans p44_, by show (11 : Int) ≠ 0; decide⟩)) | (cases hq_ : p_ad b_ n_ p_ with | inl e_ => (have hp_ := na_1 (A_ := A_) (M_ := M_) q1_ hq_; refine ⟨?_, fun r_ hr_ => by rw [hp_] at hr_; cases hr_⟩; rw [hp_]; rw [hq_] at g29_; rcases e153_ with z_ | z_; (exact rg_e2 g29_ z_.2.1 z_.2.2); (exact absurd (g29_.1.symm.trans z_.1) g29_.2.2)) | inr q_ => (have hp_ : p_na b_ n_ A_ M_ p_ = .inl (11, p_) := (by rw [na_2 q1_ hq_ (fun z_ => by have := (e35_ q_ hq_).mpr z_; omega)]; exact if_pos so5_); refine ⟨?_, fun r_ hr_ => by rw [hp_] at hr_; cases hr_⟩; rw [hp_]; rw [hq_] at g29_; rcases e153_ with z_ | z_; (exact absurd g29_.1 z_.1); (exact ⟨z_.2.1, z_.2.2.trans p29_, by show (11 : Int) ≠ 0; decide⟩)))
          · have cx59_ : ¬ ((Sx49_.2.2.1 119 0 (Sx49_.1 13 0 9).toNat) ≠ 1) := of_decide_eq_false cx59_
            exfalso; omega
      · have cx56_ : ¬ ((Sx49_.2.2.1 119 0 (Sx49_.1 13 0 9).toNat) = 2) := of_decide_eq_false cx56_
        refine sm_T_go 4 (c1 := (68, [some (.inr (.inr (some (13, 0)))), some (.inl (S0_.1 13 0 9)), some (.inl vx8_), some (.inl vx21_), none], [.inl (Sx49_.1 13 0 9), .inr (.inr (some (119, 0)))], Sx49_)) rfl ?_
        refine sm_T_bald (n := 65537) rfl rfl (by omega) (by omega) ?_
        refine sm_T_go 1 (c1 := (70, [some (.inr (.inr (some (13, 0)))), some (.inl (S0_.1 13 0 9)), some (.inl vx8_), some (.inl vx21_), none], [.inl 1, .inl (Sx49_.2.2.1 119 0 (Sx49_.1 13 0 9).toNat)], Sx49_)) rfl ?_
        refine sm_T_br (a := 0) (z := 13) rfl (fun cx92_ => ?_) (fun cx92_ => ?_)
        · have cx92_ : (Sx49_.2.2.1 119 0 (Sx49_.1 13 0 9).toNat) = 1 := of_decide_eq_true cx92_
          have bx93_ : 0 ≤ Sx49_.1 13 0 28 ∧ Sx49_.1 13 0 28 ≤ 15 := hIx50_.1 13 0 28 rfl
          refine sm_T_go 3 (c1 := (89, [some (.inr (.inr (some (13, 0)))), some (.inl (S0_.1 13 0 9)), some (.inl vx8_), some (.inl vx21_), none], [.inl (Sx49_.1 13 0 28), .inl 40], Sx49_)) rfl ?_
          refine sm_T_bin (w := 40 * (Sx49_.1 13 0 28)) rfl (bi_mul (by omega) (by omega) (by omega)) ?_
          refine sm_T_go 1 (c1 := (91, [some (.inr (.inr (some (13, 0)))), some (.inl (S0_.1 13 0 9)), some (.inl vx8_), some (.inl vx21_), none], [.inl vx8_, .inl (40 * (Sx49_.1 13 0 28))], Sx49_)) rfl ?_
          refine sm_T_bin (w := 40 * (Sx49_.1 13 0 28) + vx8_) rfl (bi_add (by omega) (by omega) (by omega)) ?_
          refine sm_T_go 2 (c1 := (95, [some (.inr (.inr (some (13, 0)))), some (.inl (S0_.1 13 0 9)), some (.inl vx8_), some (.inl vx21_), some (.inl (40 * (Sx49_.1 13 0 28) + vx8_))], [.inl vx21_], Sx49_)) rfl ?_
          refine sm_T_b0 (a := 0) (z := 41) rfl (fun cx94_ => ?_) (fun cx94_ => ?_)
          · have cx94_ : vx21_ = 0 := of_decide_eq_true cx94_
            exfalso; omega
          · have cx94_ : ¬ (vx21_ = 0) := of_decide_eq_false cx94_
            refine sm_T_go 4 (c1 := (106, [some (.inr (.inr (some (13, 0)))), some (.inl (S0_.1 13 0 9)), some (.inl vx8_), some (.inl vx21_), some (.inl (40 * (Sx49_.1 13 0 28) + vx8_))], [.inl (Sx49_.1 13 0 9), .inr (.inr (some (119, 0)))], Sx49_)) rfl ?_
            refine sm_T_bald (n := 65537) rfl rfl (by omega) (by omega) ?_
            refine sm_T_go 1 (c1 := (108, [some (.inr (.inr (some (13, 0)))), some (.inl (S0_.1 13 0 9)), some (.inl vx8_), some (.inl vx21_), some (.inl (40 * (Sx49_.1 13 0 28) + vx8_))], [.inl 1, .inl (Sx49_.2.2.1 119 0 (Sx49_.1 13 0 9).toNat)], Sx49_)) rfl ?_
            refine sm_T_br (a := 1) (z := 28) rfl (fun cx95_ => ?_) (fun cx95_ => ?_)
            · have cx95_ : (Sx49_.2.2.1 119 0 (Sx49_.1 13 0 9).toNat) ≠ 1 := of_decide_eq_true cx95_
              exfalso; omega
            · have cx95_ : ¬ ((Sx49_.2.2.1 119 0 (Sx49_.1 13 0 9).toNat) ≠ 1) := of_decide_eq_false cx95_
              obtain ⟨r_, hr44_⟩ : ∃ r_, p_ad b_ n_ q_ = .inr r_ := by cases hr_ : p_ad b_ n_ q_ with | inl e_ => (exfalso; have z1_ := s44_ e_ hr_; omega) | inr r_ => exact ⟨r_, rfl⟩
              obtain ⟨j_, j1_, j2_, j3_, j4_⟩ := r44_ r_ hr44_
              have j5_ := r_st_3 (lx_kd_r j2_.2.2.1)
              have k1r : lx_kd b_ n_ r_ = 1 := j5_.2.1.mp (by omega)
              rw [hr44_] at g44_
              refine sm_T_go 3 (c1 := (117, [some (.inr (.inr (some (13, 0)))), some (.inl (S0_.1 13 0 9)), some (.inl vx8_), some (.inl vx21_), some (.inl (40 * (Sx49_.1 13 0 28) + vx8_))], [.inl (40 * (Sx49_.1 13 0 28) + vx8_), .inr (.inr (some (128, 0)))], Sx49_)) rfl ?_
              refine sm_T_iald (n := 640) rfl rfl (by omega) (by omega) ?_
              have bx96_ : 0 ≤ Sx49_.2.2.1 128 0 (40 * (Sx49_.1 13 0 28) + vx8_).toNat ∧ Sx49_.2.2.1 128 0 (40 * (Sx49_.1 13 0 28) + vx8_).toNat ≤ 5 := hIx50_.2 128 0 _
              refine sm_T_go 1 (c1 := (119, [some (.inr (.inr (some (13, 0)))), some (.inl (S0_.1 13 0 9)), some (.inl vx8_), some (.inl vx21_), some (.inl (40 * (Sx49_.1 13 0 28) + vx8_))], [.inl 5, .inl (Sx49_.2.2.1 128 0 (40 * (Sx49_.1 13 0 28) + vx8_).toNat)], Sx49_)) rfl ?_
              refine sm_T_br (a := 0) (z := 11) rfl (fun cx97_ => ?_) (fun cx97_ => ?_)
              · have cx97_ : (Sx49_.2.2.1 128 0 (40 * (Sx49_.1 13 0 28) + vx8_).toNat) = 5 := of_decide_eq_true cx97_
                refine sm_T_go 2 (c1 := (132, [some (.inr (.inr (some (13, 0)))), some (.inl (S0_.1 13 0 9)), some (.inl vx8_), some (.inl vx21_), some (.inl (40 * (Sx49_.1 13 0 28) + vx8_))], [.inl vx8_, .inr (.inr (some (13, 0)))], Sx49_)) rfl ?_
                refine sm_T_cal (d1 := 4) (Q1 := vq_326 vx8_ b_ n_ T_ mo_ r_ j_ gl_ A_ M_ s9_ Sx49_) rfl rfl (by decide) (vc_326 vx8_ b_ n_ T_ mo_ r_ j_ gl_ A_ M_ s9_ Sx49_ hIx50_ (by exact t44_) (by exact g44_.1) (by exact ⟨j1_, j2_⟩) (by exact ⟨vl9_, hv_.2⟩) (by exact mo9_) (by exact wt9_) (by exact hA_) (by exact mx_) (by exact re9_) (by exact k1r) (by omega) (by exact ⟨e11_.trans q1_, q2_⟩) (by exact sb_.2.1.mp (by omega))) (fun u_ Sx98_ px101_ => ?_)
                obtain ⟨rfl, hIx99_, hFx100_, px101_⟩ := px101_
                have hFx102_ : ai_fr (sx_W vw_324) S0_ Sx98_ := ai_fr_tr hFx53_ (fr_le hFx100_ rfl)
                have ex103_ : Sx98_.1 13 0 28 = Sx49_.1 13 0 28 := hFx100_.1 13 0 28 rfl
                have e132_ := px101_
                have h5s : A_.2.2.1 (40 * M_ + s9_) = 5 := sb_.2.1.mp (by omega)
                refine sm_T_rv rfl ⟨_, _, rfl, rfl, hIx99_, hFx102_, ?_⟩
                rw [e11_, q1_] at e132_
                have hp_ : p_na b_ n_ A_ M_ p_ = p_pa b_ n_ A_ s9_ (A_.2.2.2.2 (40 * M_ + s9_)).toNat r_ := by rw [na_4 q1_ hq_ k46_ hr44_ k1r]; exact if_pos h5s
                rw [hp_]
                refine ⟨e132_.1, fun r9_ hr_ l_ hl_ hs_ => e132_.2 r9_ hr_ l_ hl_ ?_⟩
                rw [w44_]; exact hs_
              · have cx97_ : ¬ ((Sx49_.2.2.1 128 0 (40 * (Sx49_.1 13 0 28) + vx8_).toNat) = 5) := of_decide_eq_false cx97_
                refine sm_T_go 3 (c1 := (126, [some (.inr (.inr (some (13, 0)))), some (.inl (S0_.1 13 0 9)), some (.inl vx8_), some (.inl vx21_), some (.inl (40 * (Sx49_.1 13 0 28) + vx8_))], [.inl (S0_.1 13 0 9), .inl 11, .inr (.inr (some (13, 0)))], Sx49_)) rfl ?_
                refine sm_T_cal (d1 := 0) (Q1 := vq_294 11 (S0_.1 13 0 9) Sx49_) rfl rfl (by decide) (vc_294 11 (S0_.1 13 0 9) Sx49_ hIx50_ (by decide) (by omega)) (fun u_ Sx104_ px107_ => ?_)
                obtain ⟨rfl, hIx105_, hFx106_, px107_⟩ := px107_
                have hFx108_ : ai_fr (sx_W vw_324) S0_ Sx104_ := ai_fr_tr hFx53_ (fr_le hFx106_ rfl)
                have ex109_ : Sx104_.1 13 0 9 = Sx49_.1 13 0 9 := hFx106_.1 13 0 9 rfl
                have ex110_ : Sx104_.1 13 0 28 = Sx49_.1 13 0 28 := hFx106_.1 13 0 28 rfl
                have e126_ := px107_
                refine sm_T_rv rfl ⟨_, _, rfl, rfl, hIx105_, hFx108_, ?_⟩
                have hp_ : p_na b_ n_ A_ M_ p_ = .inl (11, p_) := by rw [na_4 q1_ hq_ k46_ hr44_ k1r]; exact if_neg (fun z_ => by have := sb_.2.1.mpr z_; omega)
                refine ⟨?_, fun r_ hr_ => by rw [hp_] at hr_; cases hr_⟩
                rw [hp_]
                rcases e126_ with z_ | z_
                · exact absurd g44_.1 z_.1
                · exact ⟨z_.2.1, z_.2.2.trans p44_, by show (11 : Int) ≠ 0; decide⟩
        · have cx92_ : ¬ ((Sx49_.2.2.1 119 0 (Sx49_.1 13 0 9).toNat) = 1) := of_decide_eq_false cx92_
          refine sm_T_go 4 (c1 := (79, [some (.inr (.inr (some (13, 0)))), some (.inl (S0_.1 13 0 9)), some (.inl vx8_), some (.inl vx21_), none], [.inl (Sx49_.1 13 0 9), .inl 2, .inr (.inr (some (13, 0)))], Sx49_)) rfl ?_
          refine sm_T_cal (d1 := 0) (Q1 := vq_293 2 (Sx49_.1 13 0 9) Sx49_) rfl rfl (by decide) (vc_293 2 (Sx49_.1 13 0 9) Sx49_ hIx50_ (by decide) (by omega)) (fun u_ Sx111_ px114_ => ?_)
          obtain ⟨rfl, hIx112_, hFx113_, px114_⟩ := px114_
          have hFx115_ : ai_fr (sx_W vw_324) S0_ Sx111_ := ai_fr_tr hFx53_ (fr_le hFx113_ rfl)
          have ex116_ : Sx111_.1 13 0 9 = Sx49_.1 13 0 9 := hFx113_.1 13 0 9 rfl
          have e79_ := px114_
          refine sm_T_rv rfl ⟨_, _, rfl, rfl, hIx112_, hFx115_, ?_⟩
          cases hr44_ : p_ad b_ n_ q_ with
          | inl e_ =>
            have hp_ : p_na b_ n_ A_ M_ p_ = .inl e_ := na_3 q1_ hq_ k46_ hr44_
            refine ⟨?_, fun r_ hr_ => by rw [hp_] at hr_; cases hr_⟩
            rw [hp_]
            rw [hr44_] at g44_
            rcases e79_ with z_ | z_
            · exact rg_e2 g44_ z_.2.1 z_.2.2
            · exact absurd (g44_.1.symm.trans z_.1) g44_.2.2
          | inr r_ =>
            obtain ⟨j_, j1_, j2_, j3_, j4_⟩ := r44_ r_ hr44_
            have j5_ := r_st_3 (lx_kd_r j2_.2.2.1)
            have hp_ : p_na b_ n_ A_ M_ p_ = .inl (2, r_) := na_6 q1_ hq_ k46_ hr44_ (fun z_ => by have := j5_.2.1.mpr z_; omega) (fun z_ => by have := j5_.2.2.1.mpr z_; omega)
            refine ⟨?_, fun r_ hr_ => by rw [hp_] at hr_; cases hr_⟩
            rw [hp_]
            rw [hr44_] at g44_
            rcases e79_ with z_ | z_
            · exact absurd g44_.1 z_.1
            · exact ⟨z_.2.1.trans (if_neg (by rw [j3_]; exact j5_.2.2.2.2.2)), z_.2.2.trans j4_, by show (2 : Int) ≠ 0; decide⟩
  · have cx9_ : ¬ (vx8_ ≠ (-1)) := of_decide_eq_false cx9_
    refine sm_T_go 3 (c1 := (24, [some (.inr (.inr (some (13, 0)))), some (.inl (S0_.1 13 0 9)), some (.inl vx8_), none, none], [.inl (S0_.1 13 0 9), .inl 11, .inr (.inr (some (13, 0)))], S0_)) rfl ?_
    refine sm_T_cal (d1 := 0) (Q1 := vq_293 11 (S0_.1 13 0 9) S0_) rfl rfl (by decide) (vc_293 11 (S0_.1 13 0 9) S0_ hI_ (by decide) (by omega)) (fun u_ Sx117_ px120_ => ?_)
    obtain ⟨rfl, hIx118_, hFx119_, px120_⟩ := px120_
    have hFx121_ : ai_fr (sx_W vw_324) S0_ Sx117_ := ai_fr_tr hF_ (fr_le hFx119_ rfl)
    have ex122_ : Sx117_.1 13 0 28 = S0_.1 13 0 28 := hFx119_.1 13 0 28 rfl
    have ex123_ : Sx117_.1 13 0 9 = S0_.1 13 0 9 := hFx119_.1 13 0 9 rfl
    have e24_ := px120_
    refine sm_T_rv rfl ⟨_, _, rfl, rfl, hIx118_, hFx121_, ?_⟩
    have hp_ : p_na b_ n_ A_ M_ p_ = .inl (11, p_) := na_0 (by omega)
    refine ⟨?_, fun r_ hr_ => by rw [hp_] at hr_; cases hr_⟩
    rw [hp_]
    rcases e24_ with z_ | z_
    · exact absurd hf_ z_.1
    · refine ⟨z_.2.1.trans (if_neg ?_), ?_, by show (11 : Int) ≠ 0; decide⟩
      · rw [e4_, ra_.1]; exact rk_.2.2.2.2.2
      · rw [z_.2.2, e4_]; exact ra_.2.1
