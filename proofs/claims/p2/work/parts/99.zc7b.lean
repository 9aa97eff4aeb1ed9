/-! M_.named -/
def vw_324g : sx_Wl := ([(13, 9), (13, 10), (13, 11)], [138, 139], [])
def vq_324g (b_ : Nat → Int) (n_ : Nat) (T_ : Nat) (p_ : Nat) (gl_ : Nat) (F_ : Nat) (I_ : Nat) (A_ : pA) (X_ : Nat → gQ → gE → Option (gQ × gE)) (M_ : Nat) (K_ : Nat) (fr_ : Nat) (E_ : gE) (O_ : gO) (ok_ : Prop) (r_ : Nat × Int × List Int) (S0_ : sm_S) (u_ : Option sm_V) (S1_ : sm_S) : Prop := u_ = none ∧ gi S1_ ∧ ai_fr (sx_W vw_324g) S0_ S1_ ∧ (∃ v9_, ev1 F_ I_ A_ X_ M_ E_ O_ r_.2.2 v9_ ∧ (v9_.length : Int) = r_.2.1 ∧ (1 ≤ v9_.length ∧ v9_.length ≤ 8) ∧ rg b_ n_ T_ (.inr r_.1) S1_ ∧ rowv gl_ v9_ ok_ S0_ S1_)
set_option maxHeartbeats 2000000 in
set_option maxRecDepth 20000 in
theorem vc_324g {sc_ : Nat × (Nat → Int)} (b_ : Nat → Int) (n_ : Nat) (T_ : Nat) (p_ : Nat) (gl_ : Nat) (F_ : Nat) (I_ : Nat) (A_ : pA) (X_ : Nat → gQ → gE → Option (gQ × gE)) (M_ : Nat) (K_ : Nat) (fr_ : Nat) (E_ : gE) (O_ : gO) (ok_ : Prop) (r_ : Nat × Int × List Int) (S0_ : sm_S) (hI_ : gi S0_) (ht_ : rtab b_ n_ T_ S0_) (hx_ : rg b_ n_ T_ (.inr p_) S0_) (hv_ : (S0_.1 13 0 34) = (gl_ : Int) ∧ gl_ ≤ 1000) (hmo_ : (S0_.1 13 0 27) = 1) (hk_ : lx_kd b_ n_ p_ = 1) (hA_ : a_ok b_ n_ A_ M_) (hmd_ : (S0_.1 13 0 28) = (M_ : Int)) (hfr_ : (S0_.1 13 0 29) = (fr_ : Int) ∧ fr_ ≤ 15) (hre_ : ∀ m_, m_ ≤ M_ → re1 b_ n_ T_ A_ m_ S0_) (hte_ : ten A_ M_ K_ E_ O_) (hev_ : rev fr_ K_ E_ O_ ok_ S0_) (hK_ : p_fn b_ n_ A_ M_ p_ < (K_ : Int)) (hna_ : p_na b_ n_ A_ M_ p_ = .inr r_) : sm_T (mt_P sc_) 5 324 (0, [some (.inr (.inr (some (13, 0)))), none, none, none, none], [], S0_) (fun ro9_ => ∃ u_ S1_, ro9_ = (.inl u_, S1_, 0) ∧ vq_324g b_ n_ T_ p_ gl_ F_ I_ A_ X_ M_ K_ fr_ E_ O_ ok_ r_ S0_ u_ S1_) := by
  have hF_ : ai_fr (sx_W vw_324g) S0_ S0_ := ai_fr_rf
  obtain ⟨i_, hi_⟩ := id hx_.2
  have hi9_ := hi_.2.1
  have hT_ := ht_.2.1
  have hf_ := hx_.1
  have rt1_ := rp_rtk ht_ hi_.2 hk_
  have hM1_ := hA_.1
  have aM_ := hA_.2 M_ (Nat.le_refl _)
  have aM1_ := aM_.1
  obtain ⟨s9_, q_, nq1_, nq2_, nq3_, nq4_⟩ := na_r hna_
  have sK_ : s9_ < K_ := by omega
  have ro_ := (hre_ M_ (Nat.le_refl _)).2 s9_ nq2_
  have ao_ := aM_.2 s9_ nq2_
  have sb_ := r_s2_b ao_.2.1
  have bx1_ : 0 ≤ S0_.1 13 0 9 ∧ S0_.1 13 0 9 ≤ 1280 := hI_.1 13 0 9 rfl
  have bx2_ : 0 ≤ S0_.1 13 0 28 ∧ S0_.1 13 0 28 ≤ 15 := hI_.1 13 0 28 rfl
  refine sm_T_go 7 (c1 := (11, [some (.inr (.inr (some (13, 0)))), some (.inl (S0_.1 13 0 9)), none, none, none], [.inl (S0_.1 13 0 9), .inl (S0_.1 13 0 28), .inr (.inr (some (13, 0)))], S0_)) rfl ?_
  refine sm_T_cal (d1 := 1) (Q1 := vq_302 (S0_.1 13 0 28) (S0_.1 13 0 9) b_ n_ T_ A_ M_ p_ S0_) rfl rfl (by decide) (vc_302 (S0_.1 13 0 28) (S0_.1 13 0 9) b_ n_ T_ A_ M_ p_ S0_ hI_ (by exact ht_) (by exact ⟨hmd_, hM1_⟩) (by exact hre_ M_ (Nat.le_refl _)) (by exact aM1_) (by rw [hi_.1]; exact rt1_.1)) (fun u_ Sx3_ px6_ => ?_)
  obtain ⟨rfl, vx8_, rfl, px6_⟩ := px6_
  have e11 := px6_.trans nq1_
  have kx0_ : ∀ z_ : Int, z_ = (M_ : Int) → (40 * z_ + vx8_).toNat = 40 * M_ + s9_ := by intro z_ q_; omega
  refine sm_T_go 3 (c1 := (17, [some (.inr (.inr (some (13, 0)))), some (.inl (S0_.1 13 0 9)), some (.inl vx8_), none, none], [.inl (-1), .inl vx8_], S0_)) rfl ?_
  refine sm_T_br (a := 1) (z := 11) rfl (fun cx9_ => ?_) (fun cx9_ => ?_)
  · have cx9_ : vx8_ ≠ (-1) := of_decide_eq_true cx9_
    refine sm_T_go 1 (c1 := (29, [some (.inr (.inr (some (13, 0)))), some (.inl (S0_.1 13 0 9)), some (.inl vx8_), none, none], [.inr (.inr (some (13, 0)))], S0_)) rfl ?_
    refine sm_T_cal (d1 := 2) (Q1 := vq_297 b_ n_ T_ (.inr p_) S0_) rfl rfl (by decide) (vc_297 b_ n_ T_ (.inr p_) S0_ hI_ (by exact ht_) (by exact hx_) (by (intro q9_ e_; cases e_; omega))) (fun u_ Sx10_ px13_ => ?_)
    obtain ⟨rfl, hIx11_, hFx12_, px13_⟩ := px13_
    have hFx14_ : ai_fr (sx_W vw_324g) S0_ Sx10_ := ai_fr_tr hF_ (fr_le hFx12_ rfl)
    have ex15_ : Sx10_.1 13 0 28 = S0_.1 13 0 28 := hFx12_.1 13 0 28 rfl
    have g29_ := px13_.1
    rw [pb_r rfl, nq3_] at g29_
    have t29_ := rtab_fr ht_ hFx12_ rfl rfl rfl rfl rfl
    have sx_ := fr_arr (t := 128) (i := 0) hFx14_ rfl
    have wx_ := fr_arr (t := 129) (i := 0) hFx14_ rfl
    have mx_ : Sx10_.1 13 0 28 = (M_ : Int) := (hFx14_.1 13 0 28 rfl).trans hmd_
    have kx_ := kx0_ _ mx_
    have sk_ := (congrFun sx_ _).trans ((congrArg (S0_.2.2.1 128 0) kx_).trans ro_.2.1)
    have wk_ := (congrFun wx_ _).trans ((congrArg (S0_.2.2.1 129 0) kx_).trans ro_.2.2.1)
    have vl9_ : Sx10_.1 13 0 34 = (gl_ : Int) := (hFx14_.1 13 0 34 rfl).trans hv_.1
    have mo9_ : Sx10_.1 13 0 27 = 1 := (hFx14_.1 13 0 27 rfl).trans hmo_
    have fr9_ : Sx10_.1 13 0 29 = (fr_ : Int) := (hFx14_.1 13 0 29 rfl).trans hfr_.1
    have re9_ : ∀ m_, m_ ≤ M_ → re1 b_ n_ T_ A_ m_ Sx10_ := fun m_ hm_ => re1_fr (hre_ m_ hm_) hFx14_ rfl rfl rfl rfl rfl rfl
    have lw9_ := fr_arr (t := 138) (i := 0) hFx12_ rfl
    have ll9_ := fr_arr (t := 139) (i := 0) hFx12_ rfl
    have i9_ := fr_arr (t := 144) (i := 0) hFx14_ rfl
    have ev9_ := rev_fr hev_ hFx14_ rfl rfl
    refine sm_T_go 2 (c1 := (35, [some (.inr (.inr (some (13, 0)))), some (.inl (S0_.1 13 0 9)), some (.inl vx8_), none, none], [.inl 46, .inr (.inr (some (13, 0)))], Sx10_)) rfl ?_
    refine sm_T_cal (d1 := 0) (Q1 := vq_295 46 b_ n_ T_ (.inr q_) Sx10_) rfl rfl (by decide) (vc_295 46 b_ n_ T_ (.inr q_) Sx10_ hIx11_ (by exact t29_) (by exact g29_) (by decide)) (fun u_ Sx16_ px19_ => ?_)
    obtain ⟨rfl, vx21_, rfl, px19_⟩ := px19_
    have e35_ := px19_.2 q_ rfl
    have r35_ := px19_.1
    refine sm_T_go 2 (c1 := (40, [some (.inr (.inr (some (13, 0)))), some (.inl (S0_.1 13 0 9)), some (.inl vx8_), some (.inl vx21_), none], [.inl vx21_], Sx10_)) rfl ?_
    refine sm_T_b0 (a := 0) (z := 43) rfl (fun cx22_ => ?_) (fun cx22_ => ?_)
    · have cx22_ : vx21_ = 0 := of_decide_eq_true cx22_
      have bx23_ : 0 ≤ Sx10_.1 13 0 28 ∧ Sx10_.1 13 0 28 ≤ 15 := hIx11_.1 13 0 28 rfl
      refine sm_T_go 3 (c1 := (89, [some (.inr (.inr (some (13, 0)))), some (.inl (S0_.1 13 0 9)), some (.inl vx8_), some (.inl vx21_), none], [.inl (Sx10_.1 13 0 28), .inl 40], Sx10_)) rfl ?_
      refine sm_T_bin (w := 40 * (Sx10_.1 13 0 28)) rfl (bi_mul (by omega) (by omega) (by omega)) ?_
      refine sm_T_go 1 (c1 := (91, [some (.inr (.inr (some (13, 0)))), some (.inl (S0_.1 13 0 9)), some (.inl vx8_), some (.inl vx21_), none], [.inl vx8_, .inl (40 * (Sx10_.1 13 0 28))], Sx10_)) rfl ?_
      refine sm_T_bin (w := 40 * (Sx10_.1 13 0 28) + vx8_) rfl (bi_add (by omega) (by omega) (by omega)) ?_
      refine sm_T_go 2 (c1 := (95, [some (.inr (.inr (some (13, 0)))), some (.inl (S0_.1 13 0 9)), some (.inl vx8_), some (.inl vx21_), some (.inl (40 * (Sx10_.1 13 0 28) + vx8_))], [.inl vx21_], Sx10_)) rfl ?_
      refine sm_T_b0 (a := 0) (z := 41) rfl (fun cx24_ => ?_) (fun cx24_ => ?_)
      · have cx24_ : vx21_ = 0 := of_decide_eq_true cx24_
        refine sm_T_go 3 (c1 := (142, [some (.inr (.inr (some (13, 0)))), some (.inl (S0_.1 13 0 9)), some (.inl vx8_), some (.inl vx21_), some (.inl (40 * (Sx10_.1 13 0 28) + vx8_))], [.inl (40 * (Sx10_.1 13 0 28) + vx8_), .inr (.inr (some (128, 0)))], Sx10_)) rfl ?_
        refine sm_T_iald (n := 640) rfl rfl (by omega) (by omega) ?_
        have bx25_ : 0 ≤ Sx10_.2.2.1 128 0 (40 * (Sx10_.1 13 0 28) + vx8_).toNat ∧ Sx10_.2.2.1 128 0 (40 * (Sx10_.1 13 0 28) + vx8_).toNat ≤ 5 := hIx11_.2 128 0 _
        refine sm_T_cal (d1 := 0) (Q1 := vq_323 (Sx10_.2.2.1 128 0 (40 * (Sx10_.1 13 0 28) + vx8_).toNat) Sx10_) rfl rfl (by decide) (vc_323 (Sx10_.2.2.1 128 0 (40 * (Sx10_.1 13 0 28) + vx8_).toNat) Sx10_ hIx11_ ) (fun u_ Sx26_ px29_ => ?_)
        obtain ⟨rfl, vx31_, rfl, px29_⟩ := px29_
        have e143_ := px29_
        refine sm_T_b0 (a := 1) (z := 11) rfl (fun cx32_ => ?_) (fun cx32_ => ?_)
        · have cx32_ : vx31_ ≠ 0 := of_decide_eq_true cx32_
          refine sm_T_go 4 (c1 := (164, [some (.inr (.inr (some (13, 0)))), some (.inl (S0_.1 13 0 9)), some (.inl vx8_), some (.inl vx21_), some (.inl (40 * (Sx10_.1 13 0 28) + vx8_))], [.inl (40 * (Sx10_.1 13 0 28) + vx8_), .inr (.inr (some (129, 0))), .inr (.inr (some (13, 0)))], Sx10_)) rfl ?_
          refine sm_T_iald (n := 640) rfl rfl (by omega) (by omega) ?_
          have bx33_ : 0 ≤ Sx10_.2.2.1 129 0 (40 * (Sx10_.1 13 0 28) + vx8_).toNat ∧ Sx10_.2.2.1 129 0 (40 * (Sx10_.1 13 0 28) + vx8_).toNat ≤ 8 := hIx11_.2 129 0 _
          have bx34_ : 0 ≤ Sx10_.1 13 0 29 ∧ Sx10_.1 13 0 29 ≤ 16 := hIx11_.1 13 0 29 rfl
          refine sm_T_go 5 (c1 := (174, [some (.inr (.inr (some (13, 0)))), some (.inl (S0_.1 13 0 9)), some (.inl vx8_), some (.inl vx21_), some (.inl (40 * (Sx10_.1 13 0 28) + vx8_))], [.inl (Sx10_.1 13 0 29), .inl 40, .inl 8, .inl 0, .inl (Sx10_.2.2.1 129 0 (40 * (Sx10_.1 13 0 28) + vx8_).toNat), .inr (.inr (some (13, 0)))], Sx10_)) rfl ?_
          refine sm_T_bin (w := 40 * (Sx10_.1 13 0 29)) rfl (bi_mul (by omega) (by omega) (by omega)) ?_
          refine sm_T_go 1 (c1 := (176, [some (.inr (.inr (some (13, 0)))), some (.inl (S0_.1 13 0 9)), some (.inl vx8_), some (.inl vx21_), some (.inl (40 * (Sx10_.1 13 0 28) + vx8_))], [.inl vx8_, .inl (40 * (Sx10_.1 13 0 29)), .inl 8, .inl 0, .inl (Sx10_.2.2.1 129 0 (40 * (Sx10_.1 13 0 28) + vx8_).toNat), .inr (.inr (some (13, 0)))], Sx10_)) rfl ?_
          refine sm_T_bin (w := 40 * (Sx10_.1 13 0 29) + vx8_) rfl (bi_add (by omega) (by omega) (by omega)) ?_
          refine sm_T_bin (w := 320 * (Sx10_.1 13 0 29) + 8 * vx8_) rfl (bi_mul (by omega) (by omega) (by omega)) ?_
          refine sm_T_cal (d1 := 0) (Q1 := vq_333g (Sx10_.2.2.1 129 0 (40 * (Sx10_.1 13 0 28) + vx8_).toNat) 0 (320 * (Sx10_.1 13 0 29) + 8 * vx8_) gl_ Sx10_) rfl rfl (by decide) (vc_333g (Sx10_.2.2.1 129 0 (40 * (Sx10_.1 13 0 28) + vx8_).toNat) 0 (320 * (Sx10_.1 13 0 29) + 8 * vx8_) gl_ Sx10_ hIx11_ (by exact ⟨vl9_, hv_.2⟩) (by exact mo9_) (by (have := ao_.2.2.1; omega)) (by (left; refine ⟨rfl, ?_, ?_⟩ <;> omega))) (fun u_ Sx35_ px38_ => ?_)
          obtain ⟨rfl, hIx36_, hFx37_, px38_⟩ := px38_
          have hFx39_ : ai_fr (sx_W vw_324g) S0_ Sx35_ := ai_fr_tr hFx14_ (fr_le hFx37_ rfl)
          have ex40_ : Sx35_.1 13 0 29 = Sx10_.1 13 0 29 := hFx37_.1 13 0 29 rfl
          have ex41_ : Sx35_.1 13 0 28 = Sx10_.1 13 0 28 := hFx37_.1 13 0 28 rfl
          have c178_ := px38_
          rw [wk_] at c178_
          first | (have g178_ := rg_fr g44_ hFx37_ rfl rfl rfl; have t178_ := rtab_fr t44_ hFx37_ rfl rfl rfl rfl rfl) | (have g178_ := rg_fr g29_ hFx37_ rfl rfl rfl; have t178_ := rtab_fr t29_ hFx37_ rfl rfl rfl rfl rfl)
          have vl8_ : Sx35_.1 13 0 34 = (gl_ : Int) := (hFx39_.1 13 0 34 rfl).trans hv_.1
          have mo8_ : Sx35_.1 13 0 27 = 1 := (hFx39_.1 13 0 27 rfl).trans hmo_
          have wx8_ := fr_arr (t := 129) (i := 0) hFx39_ rfl
          have wk8_ := (congrFun wx8_ _).trans ((congrArg (S0_.2.2.1 129 0) kx_).trans ro_.2.2.1)
          have nso_ : A_.2.2.1 (40 * M_ + s9_) ≠ 5 := fun z_ => by have z1_ := e143_.2; have z2_ := sb_.2.1.mpr z_; omega
          have lE := (hte_.2 s9_ sK_).1 nso_
          have wA_ := ao_.2.2.1
          have wA1_ := ao_.2.2.2.1 nso_
          have e1o : ev1 F_ I_ A_ X_ M_ E_ O_ [cw 9 (s9_ : Int) 0] (E_ s9_) := by have q9_ := ev1_ld (F_ := F_) (I_ := I_) (X_ := X_) (E_ := E_) (O_ := O_) (a_ := (s9_ : Int)) (m_ := M_) (A_ := A_) (by omega) aM1_ (by rw [Int.toNat_natCast]; omega) (by rw [Int.toNat_natCast]; exact lE); rw [Int.toNat_natCast] at q9_; exact q9_
          have r178_ : rowv gl_ (E_ s9_) ok_ S0_ Sx35_ := ⟨fun j_ => by rw [c178_.1, lw9_, lE], fun z_ k9_ z9_ e9_ => by have hk9_ : k9_ < (E_ s9_).length := (by by_cases w9_ : k9_ < (E_ s9_).length; exact w9_; (rw [List.getElem?_eq_none (by omega)] at e9_; cases e9_)); refine (c178_.2.1 k9_ (by omega)).trans ?_; show (if (0 : Int) = 1 then _ else _) = z9_; rw [if_neg (by decide), i9_]; exact (congrArg (S0_.2.2.1 144 0) (show _ = 8 * (40 * fr_ + s9_) + k9_ by omega)).trans (((hev_ z_).1 s9_ (by omega)) k9_ z9_ e9_), fun j_ hj_ => by rw [c178_.2.2 j_ hj_, ll9_]⟩
          refine sm_T_go 1 (c1 := (182, [some (.inr (.inr (some (13, 0)))), some (.inl (S0_.1 13 0 9)), some (.inl vx8_), some (.inl vx21_), some (.inl (40 * (Sx10_.1 13 0 28) + vx8_))], [.inl vx21_], Sx35_)) rfl ?_
          refine sm_T_b0 (a := 0) (z := 14) rfl (fun cx42_ => ?_) (fun cx42_ => ?_)
          · have cx42_ : vx21_ = 0 := of_decide_eq_true cx42_
            refine sm_T_rv rfl ⟨_, _, rfl, rfl, hIx36_, hFx39_, ?_⟩
            first | (have r9_ := bp_rr nu1_; rw [nu2_]; exact ⟨_, ev1_bi e1o (by omega) (by omega), rfl, ⟨by simp, by simp⟩, e193_.1, rowv_bi r178_ (by omega) (by omega) e193_.2.1 e193_.2.2⟩) | (have q5_ : r_ = (q_, A_.2.2.2.1 (40 * M_ + s9_), [cw 9 (s9_ : Int) 0]) := (by rcases nq4_ with z_ | z_; (exact z_.2.2); (have := e35_.mpr z_.1; omega)); rw [q5_]; exact ⟨E_ s9_, e1o, lE, by omega, g178_, r178_⟩)
          · have cx42_ : ¬ (vx21_ = 0) := of_decide_eq_false cx42_
            exfalso; omega
        · have cx32_ : ¬ (vx31_ ≠ 0) := of_decide_eq_false cx32_
          exfalso; (have z9_ := e143_.2; have z8_ := sb_.2.2.2.2; have z7_ : A_.2.2.1 (40 * M_ + s9_) = 5 := sb_.2.1.mp (by omega); first | (rcases nq5_ with z_ | z_; (have z3_ := j5_.2.1.mpr z_.1; omega); (exact z_.2.1 z7_)) | (rcases nq4_ with z_ | z_; (exact z_.2.1 z7_); (have z3_ := e35_.mpr z_.1; omega)))
      · have cx24_ : ¬ (vx21_ = 0) := of_decide_eq_false cx24_
        exfalso; omega
    · have cx22_ : ¬ (vx21_ = 0) := of_decide_eq_false cx22_
      have k46_ := e35_.mp (by omega)
      obtain ⟨q2_, nq6_, nq5_⟩ : ∃ q2_, p_ad b_ n_ q_ = .inr q2_ ∧ ((lx_kd b_ n_ q2_ = 1 ∧ A_.2.2.1 (40 * M_ + s9_) = 5 ∧ p_pa b_ n_ A_ (s9_ : Int) (A_.2.2.2.2 (40 * M_ + s9_)).toNat q2_ = .inr r_) ∨ (lx_kd b_ n_ q2_ = 2 ∧ A_.2.2.1 (40 * M_ + s9_) ≠ 5 ∧ ∃ u_, p_bp b_ n_ (A_.2.2.2.1 (40 * M_ + s9_)) q2_ = .inr u_ ∧ r_ = (u_, 1, [cw 11 (lx_vl b_ n_ q2_) 0, cw 9 (s9_ : Int) 0]))) := by rcases nq4_ with z_ | z_; (exact absurd k46_ z_.1); (exact z_.2)
      refine sm_T_go 1 (c1 := (44, [some (.inr (.inr (some (13, 0)))), some (.inl (S0_.1 13 0 9)), some (.inl vx8_), some (.inl vx21_), none], [.inr (.inr (some (13, 0)))], Sx10_)) rfl ?_
      refine sm_T_cal (d1 := 2) (Q1 := vq_297 b_ n_ T_ (.inr q_) Sx10_) rfl rfl (by decide) (vc_297 b_ n_ T_ (.inr q_) Sx10_ hIx11_ (by exact t29_) (by exact g29_) (by (intro z_ e_; cases e_; omega))) (fun u_ Sx43_ px46_ => ?_)
      obtain ⟨rfl, hIx44_, hFx45_, px46_⟩ := px46_
      have hFx47_ : ai_fr (sx_W vw_324g) S0_ Sx43_ := ai_fr_tr hFx14_ (fr_le hFx45_ rfl)
      have g44_ := px46_.1
      rw [pb_r rfl, nq6_] at g44_
      have t44_ := rtab_fr t29_ hFx45_ rfl rfl rfl rfl rfl
      obtain ⟨j_, j1_, j2_⟩ := id g44_.2
      have j3_ := rp_at t44_ j2_
      have j5_ := r_st_3 (lx_kd_r j2_.2.2.1)
      have j6_ : Sx43_.2.2.1 119 0 (Sx43_.1 13 0 9).toNat = r_st (lx_kd b_ n_ q2_) := by rw [show (Sx43_.1 13 0 9).toNat = j_ by omega]; exact j3_.1
      have sx_ := fr_arr (t := 128) (i := 0) hFx47_ rfl
      have wx_ := fr_arr (t := 129) (i := 0) hFx47_ rfl
      have mx_ : Sx43_.1 13 0 28 = (M_ : Int) := (hFx47_.1 13 0 28 rfl).trans hmd_
      have kx_ := kx0_ _ mx_
      have sk_ := (congrFun sx_ _).trans ((congrArg (S0_.2.2.1 128 0) kx_).trans ro_.2.1)
      have wk_ := (congrFun wx_ _).trans ((congrArg (S0_.2.2.1 129 0) kx_).trans ro_.2.2.1)
      have vl9_ : Sx43_.1 13 0 34 = (gl_ : Int) := (hFx47_.1 13 0 34 rfl).trans hv_.1
      have mo9_ : Sx43_.1 13 0 27 = 1 := (hFx47_.1 13 0 27 rfl).trans hmo_
      have fr9_ : Sx43_.1 13 0 29 = (fr_ : Int) := (hFx47_.1 13 0 29 rfl).trans hfr_.1
      have re9_ : ∀ m_, m_ ≤ M_ → re1 b_ n_ T_ A_ m_ Sx43_ := fun m_ hm_ => re1_fr (hre_ m_ hm_) hFx47_ rfl rfl rfl rfl rfl rfl
      have lw9_ := (fr_arr (t := 138) (i := 0) hFx45_ rfl).trans lw9_
      have ll9_ := (fr_arr (t := 139) (i := 0) hFx45_ rfl).trans ll9_
      have i9_ := fr_arr (t := 144) (i := 0) hFx47_ rfl
      have ev9_ := rev_fr hev_ hFx47_ rfl rfl
      have bx48_ : 0 ≤ Sx43_.1 13 0 9 ∧ Sx43_.1 13 0 9 ≤ 1280 := hIx44_.1 13 0 9 rfl
      refine sm_T_go 4 (c1 := (55, [some (.inr (.inr (some (13, 0)))), some (.inl (S0_.1 13 0 9)), some (.inl vx8_), some (.inl vx21_), none], [.inl (Sx43_.1 13 0 9), .inr (.inr (some (119, 0)))], Sx43_)) rfl ?_
      refine sm_T_bald (n := 65537) rfl rfl (by omega) (by omega) ?_
      have bx49_ : (-128) ≤ Sx43_.2.2.1 119 0 (Sx43_.1 13 0 9).toNat ∧ Sx43_.2.2.1 119 0 (Sx43_.1 13 0 9).toNat ≤ 127 := hIx44_.2 119 0 _
      refine sm_T_go 1 (c1 := (57, [some (.inr (.inr (some (13, 0)))), some (.inl (S0_.1 13 0 9)), some (.inl vx8_), some (.inl vx21_), none], [.inl 2, .inl (Sx43_.2.2.1 119 0 (Sx43_.1 13 0 9).toNat)], Sx43_)) rfl ?_
      refine sm_T_br (a := 0) (z := 26) rfl (fun cx50_ => ?_) (fun cx50_ => ?_)
      · have cx50_ : (Sx43_.2.2.1 119 0 (Sx43_.1 13 0 9).toNat) = 2 := of_decide_eq_true cx50_
        have bx51_ : 0 ≤ Sx43_.1 13 0 28 ∧ Sx43_.1 13 0 28 ≤ 15 := hIx44_.1 13 0 28 rfl
        refine sm_T_go 3 (c1 := (89, [some (.inr (.inr (some (13, 0)))), some (.inl (S0_.1 13 0 9)), some (.inl vx8_), some (.inl vx21_), none], [.inl (Sx43_.1 13 0 28), .inl 40], Sx43_)) rfl ?_
        refine sm_T_bin (w := 40 * (Sx43_.1 13 0 28)) rfl (bi_mul (by omega) (by omega) (by omega)) ?_
        refine sm_T_go 1 (c1 := (91, [some (.inr (.inr (some (13, 0)))), some (.inl (S0_.1 13 0 9)), some (.inl vx8_), some (.inl vx21_), none], [.inl vx8_, .inl (40 * (Sx43_.1 13 0 28))], Sx43_)) rfl ?_
        refine sm_T_bin (w := 40 * (Sx43_.1 13 0 28) + vx8_) rfl (bi_add (by omega) (by omega) (by omega)) ?_
        refine sm_T_go 2 (c1 := (95, [some (.inr (.inr (some (13, 0)))), some (.inl (S0_.1 13 0 9)), some (.inl vx8_), some (.inl vx21_), some (.inl (40 * (Sx43_.1 13 0 28) + vx8_))], [.inl vx21_], Sx43_)) rfl ?_
        refine sm_T_b0 (a := 0) (z := 41) rfl (fun cx52_ => ?_) (fun cx52_ => ?_)
        · have cx52_ : vx21_ = 0 := of_decide_eq_true cx52_
          exfalso; omega
        · have cx52_ : ¬ (vx21_ = 0) := of_decide_eq_false cx52_
          refine sm_T_go 4 (c1 := (106, [some (.inr (.inr (some (13, 0)))), some (.inl (S0_.1 13 0 9)), some (.inl vx8_), some (.inl vx21_), some (.inl (40 * (Sx43_.1 13 0 28) + vx8_))], [.inl (Sx43_.1 13 0 9), .inr (.inr (some (119, 0)))], Sx43_)) rfl ?_
          refine sm_T_bald (n := 65537) rfl rfl (by omega) (by omega) ?_
          refine sm_T_go 1 (c1 := (108, [some (.inr (.inr (some (13, 0)))), some (.inl (S0_.1 13 0 9)), some (.inl vx8_), some (.inl vx21_), some (.inl (40 * (Sx43_.1 13 0 28) + vx8_))], [.inl 1, .inl (Sx43_.2.2.1 119 0 (Sx43_.1 13 0 9).toNat)], Sx43_)) rfl ?_
          refine sm_T_br (a := 1) (z := 28) rfl (fun cx53_ => ?_) (fun cx53_ => ?_)
          · have cx53_ : (Sx43_.2.2.1 119 0 (Sx43_.1 13 0 9).toNat) ≠ 1 := of_decide_eq_true cx53_
            refine sm_T_go 3 (c1 := (142, [some (.inr (.inr (some (13, 0)))), some (.inl (S0_.1 13 0 9)), some (.inl vx8_), some (.inl vx21_), some (.inl (40 * (Sx43_.1 13 0 28) + vx8_))], [.inl (40 * (Sx43_.1 13 0 28) + vx8_), .inr (.inr (some (128, 0)))], Sx43_)) rfl ?_
            refine sm_T_iald (n := 640) rfl rfl (by omega) (by omega) ?_
            have bx54_ : 0 ≤ Sx43_.2.2.1 128 0 (40 * (Sx43_.1 13 0 28) + vx8_).toNat ∧ Sx43_.2.2.1 128 0 (40 * (Sx43_.1 13 0 28) + vx8_).toNat ≤ 5 := hIx44_.2 128 0 _
            refine sm_T_cal (d1 := 0) (Q1 := vq_323 (Sx43_.2.2.1 128 0 (40 * (Sx43_.1 13 0 28) + vx8_).toNat) Sx43_) rfl rfl (by decide) (vc_323 (Sx43_.2.2.1 128 0 (40 * (Sx43_.1 13 0 28) + vx8_).toNat) Sx43_ hIx44_ ) (fun u_ Sx55_ px58_ => ?_)
            obtain ⟨rfl, vx60_, rfl, px58_⟩ := px58_
            have e143_ := px58_
            refine sm_T_b0 (a := 1) (z := 11) rfl (fun cx61_ => ?_) (fun cx61_ => ?_)
            · have cx61_ : vx60_ ≠ 0 := of_decide_eq_true cx61_
              refine sm_T_go 4 (c1 := (164, [some (.inr (.inr (some (13, 0)))), some (.inl (S0_.1 13 0 9)), some (.inl vx8_), some (.inl vx21_), some (.inl (40 * (Sx43_.1 13 0 28) + vx8_))], [.inl (40 * (Sx43_.1 13 0 28) + vx8_), .inr (.inr (some (129, 0))), .inr (.inr (some (13, 0)))], Sx43_)) rfl ?_
              refine sm_T_iald (n := 640) rfl rfl (by omega) (by omega) ?_
              have bx62_ : 0 ≤ Sx43_.2.2.1 129 0 (40 * (Sx43_.1 13 0 28) + vx8_).toNat ∧ Sx43_.2.2.1 129 0 (40 * (Sx43_.1 13 0 28) + vx8_).toNat ≤ 8 := hIx44_.2 129 0 _
              have bx63_ : 0 ≤ Sx43_.1 13 0 29 ∧ Sx43_.1 13 0 29 ≤ 16 := hIx44_.1 13 0 29 rfl
              refine sm_T_go 5 (c1 := (174, [some (.inr (.inr (some (13, 0)))), some (.inl (S0_.1 13 0 9)), some (.inl vx8_), some (.inl vx21_), some (.inl (40 * (Sx43_.1 13 0 28) + vx8_))], [.inl (Sx43_.1 13 0 29), .inl 40, .inl 8, .inl 0, .inl (Sx43_.2.2.1 129 0 (40 * (Sx43_.1 13 0 28) + vx8_).toNat), .inr (.inr (some (13, 0)))], Sx43_)) rfl ?_
              refine sm_T_bin (w := 40 * (Sx43_.1 13 0 29)) rfl (bi_mul (by omega) (by omega) (by omega)) ?_
              refine sm_T_go 1 (c1 := (176, [some (.inr (.inr (some (13, 0)))), some (.inl (S0_.1 13 0 9)), some (.inl vx8_), some (.inl vx21_), some (.inl (40 * (Sx43_.1 13 0 28) + vx8_))], [.inl vx8_, .inl (40 * (Sx43_.1 13 0 29)), .inl 8, .inl 0, .inl (Sx43_.2.2.1 129 0 (40 * (Sx43_.1 13 0 28) + vx8_).toNat), .inr (.inr (some (13, 0)))], Sx43_)) rfl ?_
              refine sm_T_bin (w := 40 * (Sx43_.1 13 0 29) + vx8_) rfl (bi_add (by omega) (by omega) (by omega)) ?_
              refine sm_T_bin (w := 320 * (Sx43_.1 13 0 29) + 8 * vx8_) rfl (bi_mul (by omega) (by omega) (by omega)) ?_
              refine sm_T_cal (d1 := 0) (Q1 := vq_333g (Sx43_.2.2.1 129 0 (40 * (Sx43_.1 13 0 28) + vx8_).toNat) 0 (320 * (Sx43_.1 13 0 29) + 8 * vx8_) gl_ Sx43_) rfl rfl (by decide) (vc_333g (Sx43_.2.2.1 129 0 (40 * (Sx43_.1 13 0 28) + vx8_).toNat) 0 (320 * (Sx43_.1 13 0 29) + 8 * vx8_) gl_ Sx43_ hIx44_ (by exact ⟨vl9_, hv_.2⟩) (by exact mo9_) (by (have := ao_.2.2.1; omega)) (by (left; refine ⟨rfl, ?_, ?_⟩ <;> omega))) (fun u_ Sx64_ px67_ => ?_)
              obtain ⟨rfl, hIx65_, hFx66_, px67_⟩ := px67_
              have hFx68_ : ai_fr (sx_W vw_324g) S0_ Sx64_ := ai_fr_tr hFx47_ (fr_le hFx66_ rfl)
              have ex69_ : Sx64_.1 13 0 9 = Sx43_.1 13 0 9 := hFx66_.1 13 0 9 rfl
              have ex70_ : Sx64_.1 13 0 29 = Sx43_.1 13 0 29 := hFx66_.1 13 0 29 rfl
              have ex71_ : Sx64_.1 13 0 28 = Sx43_.1 13 0 28 := hFx66_.1 13 0 28 rfl
              have c178_ := px67_
              rw [wk_] at c178_
              first | (have g178_ := rg_fr g44_ hFx66_ rfl rfl rfl; have t178_ := rtab_fr t44_ hFx66_ rfl rfl rfl rfl rfl) | (have g178_ := rg_fr g29_ hFx66_ rfl rfl rfl; have t178_ := rtab_fr t29_ hFx66_ rfl rfl rfl rfl rfl)
              have vl8_ : Sx64_.1 13 0 34 = (gl_ : Int) := (hFx68_.1 13 0 34 rfl).trans hv_.1
              have mo8_ : Sx64_.1 13 0 27 = 1 := (hFx68_.1 13 0 27 rfl).trans hmo_
              have wx8_ := fr_arr (t := 129) (i := 0) hFx68_ rfl
              have wk8_ := (congrFun wx8_ _).trans ((congrArg (S0_.2.2.1 129 0) kx_).trans ro_.2.2.1)
              have nso_ : A_.2.2.1 (40 * M_ + s9_) ≠ 5 := fun z_ => by have z1_ := e143_.2; have z2_ := sb_.2.1.mpr z_; omega
              have lE := (hte_.2 s9_ sK_).1 nso_
              have wA_ := ao_.2.2.1
              have wA1_ := ao_.2.2.2.1 nso_
              have e1o : ev1 F_ I_ A_ X_ M_ E_ O_ [cw 9 (s9_ : Int) 0] (E_ s9_) := by have q9_ := ev1_ld (F_ := F_) (I_ := I_) (X_ := X_) (E_ := E_) (O_ := O_) (a_ := (s9_ : Int)) (m_ := M_) (A_ := A_) (by omega) aM1_ (by rw [Int.toNat_natCast]; omega) (by rw [Int.toNat_natCast]; exact lE); rw [Int.toNat_natCast] at q9_; exact q9_
              have r178_ : rowv gl_ (E_ s9_) ok_ S0_ Sx64_ := ⟨fun j_ => by rw [c178_.1, lw9_, lE], fun z_ k9_ z9_ e9_ => by have hk9_ : k9_ < (E_ s9_).length := (by by_cases w9_ : k9_ < (E_ s9_).length; exact w9_; (rw [List.getElem?_eq_none (by omega)] at e9_; cases e9_)); refine (c178_.2.1 k9_ (by omega)).trans ?_; show (if (0 : Int) = 1 then _ else _) = z9_; rw [if_neg (by decide), i9_]; exact (congrArg (S0_.2.2.1 144 0) (show _ = 8 * (40 * fr_ + s9_) + k9_ by omega)).trans (((hev_ z_).1 s9_ (by omega)) k9_ z9_ e9_), fun j_ hj_ => by rw [c178_.2.2 j_ hj_, ll9_]⟩
              refine sm_T_go 1 (c1 := (182, [some (.inr (.inr (some (13, 0)))), some (.inl (S0_.1 13 0 9)), some (.inl vx8_), some (.inl vx21_), some (.inl (40 * (Sx43_.1 13 0 28) + vx8_))], [.inl vx21_], Sx64_)) rfl ?_
              refine sm_T_b0 (a := 0) (z := 14) rfl (fun cx72_ => ?_) (fun cx72_ => ?_)
              · have cx72_ : vx21_ = 0 := of_decide_eq_true cx72_
                exfalso; omega
              · have cx72_ : ¬ (vx21_ = 0) := of_decide_eq_false cx72_
                obtain ⟨u_, nu1_, nu2_⟩ : ∃ u_, p_bp b_ n_ (A_.2.2.2.1 (40 * M_ + s9_)) q2_ = .inr u_ ∧ r_ = (u_, 1, [cw 11 (lx_vl b_ n_ q2_) 0, cw 9 (s9_ : Int) 0]) := by rcases nq5_ with z_ | z_; (exact absurd z_.2.1 nso_); (exact z_.2.2)
                refine sm_T_go 4 (c1 := (192, [some (.inr (.inr (some (13, 0)))), some (.inl (S0_.1 13 0 9)), some (.inl vx8_), some (.inl vx21_), some (.inl (40 * (Sx43_.1 13 0 28) + vx8_))], [.inl (40 * (Sx43_.1 13 0 28) + vx8_), .inr (.inr (some (129, 0))), .inr (.inr (some (13, 0)))], Sx64_)) rfl ?_
                refine sm_T_iald (n := 640) rfl rfl (by omega) (by omega) ?_
                have bx73_ : 0 ≤ Sx64_.2.2.1 129 0 (40 * (Sx43_.1 13 0 28) + vx8_).toNat ∧ Sx64_.2.2.1 129 0 (40 * (Sx43_.1 13 0 28) + vx8_).toNat ≤ 8 := hIx65_.2 129 0 _
                refine sm_T_cal (d1 := 3) (Q1 := vq_325g (Sx64_.2.2.1 129 0 (40 * (Sx43_.1 13 0 28) + vx8_).toNat) b_ n_ T_ q2_ gl_ u_ Sx64_) rfl rfl (by decide) (vc_325g (Sx64_.2.2.1 129 0 (40 * (Sx43_.1 13 0 28) + vx8_).toNat) b_ n_ T_ q2_ gl_ u_ Sx64_ hIx65_ (by exact t178_) (by exact g178_) (by exact ⟨vl8_, hv_.2⟩) (by exact mo8_) (by omega) (by (rw [wk8_]; exact nu1_))) (fun u_ Sx74_ px77_ => ?_)
                obtain ⟨rfl, hIx75_, hFx76_, px77_⟩ := px77_
                have hFx78_ : ai_fr (sx_W vw_324g) S0_ Sx74_ := ai_fr_tr hFx68_ (fr_le hFx76_ rfl)
                have e193_ := px77_
                refine sm_T_rv rfl ⟨_, _, rfl, rfl, hIx75_, hFx78_, ?_⟩
                first | (have r9_ := bp_rr nu1_; rw [nu2_]; exact ⟨_, ev1_bi e1o (by omega) (by omega), rfl, ⟨by simp, by simp⟩, e193_.1, rowv_bi r178_ (by omega) (by omega) e193_.2.1 e193_.2.2⟩) | (have q5_ : r_ = (q_, A_.2.2.2.1 (40 * M_ + s9_), [cw 9 (s9_ : Int) 0]) := (by rcases nq4_ with z_ | z_; (exact z_.2.2); (have := e35_.mpr z_.1; omega)); rw [q5_]; exact ⟨E_ s9_, e1o, lE, by omega, g178_, r178_⟩)
            · have cx61_ : ¬ (vx60_ ≠ 0) := of_decide_eq_false cx61_
              exfalso; (have z9_ := e143_.2; have z8_ := sb_.2.2.2.2; have z7_ : A_.2.2.1 (40 * M_ + s9_) = 5 := sb_.2.1.mp (by omega); first | (rcases nq5_ with z_ | z_; (have z3_ := j5_.2.1.mpr z_.1; omega); (exact z_.2.1 z7_)) | (rcases nq4_ with z_ | z_; (exact z_.2.1 z7_); (have z3_ := e35_.mpr z_.1; omega)))
          · have cx53_ : ¬ ((Sx43_.2.2.1 119 0 (Sx43_.1 13 0 9).toNat) ≠ 1) := of_decide_eq_false cx53_
            exfalso; omega
      · have cx50_ : ¬ ((Sx43_.2.2.1 119 0 (Sx43_.1 13 0 9).toNat) = 2) := of_decide_eq_false cx50_
        refine sm_T_go 4 (c1 := (68, [some (.inr (.inr (some (13, 0)))), some (.inl (S0_.1 13 0 9)), some (.inl vx8_), some (.inl vx21_), none], [.inl (Sx43_.1 13 0 9), .inr (.inr (some (119, 0)))], Sx43_)) rfl ?_
        refine sm_T_bald (n := 65537) rfl rfl (by omega) (by omega) ?_
        refine sm_T_go 1 (c1 := (70, [some (.inr (.inr (some (13, 0)))), some (.inl (S0_.1 13 0 9)), some (.inl vx8_), some (.inl vx21_), none], [.inl 1, .inl (Sx43_.2.2.1 119 0 (Sx43_.1 13 0 9).toNat)], Sx43_)) rfl ?_
        refine sm_T_br (a := 0) (z := 13) rfl (fun cx79_ => ?_) (fun cx79_ => ?_)
        · have cx79_ : (Sx43_.2.2.1 119 0 (Sx43_.1 13 0 9).toNat) = 1 := of_decide_eq_true cx79_
          have bx80_ : 0 ≤ Sx43_.1 13 0 28 ∧ Sx43_.1 13 0 28 ≤ 15 := hIx44_.1 13 0 28 rfl
          refine sm_T_go 3 (c1 := (89, [some (.inr (.inr (some (13, 0)))), some (.inl (S0_.1 13 0 9)), some (.inl vx8_), some (.inl vx21_), none], [.inl (Sx43_.1 13 0 28), .inl 40], Sx43_)) rfl ?_
          refine sm_T_bin (w := 40 * (Sx43_.1 13 0 28)) rfl (bi_mul (by omega) (by omega) (by omega)) ?_
          refine sm_T_go 1 (c1 := (91, [some (.inr (.inr (some (13, 0)))), some (.inl (S0_.1 13 0 9)), some (.inl vx8_), some (.inl vx21_), none], [.inl vx8_, .inl (40 * (Sx43_.1 13 0 28))], Sx43_)) rfl ?_
          refine sm_T_bin (w := 40 * (Sx43_.1 13 0 28) + vx8_) rfl (bi_add (by omega) (by omega) (by omega)) ?_
          refine sm_T_go 2 (c1 := (95, [some (.inr (.inr (some (13, 0)))), some (.inl (S0_.1 13 0 9)), some (.inl vx8_), some (.inl vx21_), some (.inl (40 * (Sx43_.1 13 0 28) + vx8_))], [.inl vx21_], Sx43_)) rfl ?_
          refine sm_T_b0 (a := 0) (z := 41) rfl (fun cx81_ => ?_) (fun cx81_ => ?_)
          · have cx81_ : vx21_ = 0 := of_decide_eq_true cx81_
            exfalso; omega
          · have cx81_ : ¬ (vx21_ = 0) := of_decide_eq_false cx81_
            refine sm_T_go 4 (c1 := (106, [some (.inr (.inr (some (13, 0)))), some (.inl (S0_.1 13 0 9)), some (.inl vx8_), some (.inl vx21_), some (.inl (40 * (Sx43_.1 13 0 28) + vx8_))], [.inl (Sx43_.1 13 0 9), .inr (.inr (some (119, 0)))], Sx43_)) rfl ?_
            refine sm_T_bald (n := 65537) rfl rfl (by omega) (by omega) ?_
            refine sm_T_go 1 (c1 := (108, [some (.inr (.inr (some (13, 0)))), some (.inl (S0_.1 13 0 9)), some (.inl vx8_), some (.inl vx21_), some (.inl (40 * (Sx43_.1 13 0 28) + vx8_))], [.inl 1, .inl (Sx43_.2.2.1 119 0 (Sx43_.1 13 0 9).toNat)], Sx43_)) rfl ?_
            refine sm_T_br (a := 1) (z := 28) rfl (fun cx82_ => ?_) (fun cx82_ => ?_)
            · have cx82_ : (Sx43_.2.2.1 119 0 (Sx43_.1 13 0 9).toNat) ≠ 1 := of_decide_eq_true cx82_
              exfalso; omega
            · have cx82_ : ¬ ((Sx43_.2.2.1 119 0 (Sx43_.1 13 0 9).toNat) ≠ 1) := of_decide_eq_false cx82_
              refine sm_T_go 3 (c1 := (117, [some (.inr (.inr (some (13, 0)))), some (.inl (S0_.1 13 0 9)), some (.inl vx8_), some (.inl vx21_), some (.inl (40 * (Sx43_.1 13 0 28) + vx8_))], [.inl (40 * (Sx43_.1 13 0 28) + vx8_), .inr (.inr (some (128, 0)))], Sx43_)) rfl ?_
              refine sm_T_iald (n := 640) rfl rfl (by omega) (by omega) ?_
              have bx83_ : 0 ≤ Sx43_.2.2.1 128 0 (40 * (Sx43_.1 13 0 28) + vx8_).toNat ∧ Sx43_.2.2.1 128 0 (40 * (Sx43_.1 13 0 28) + vx8_).toNat ≤ 5 := hIx44_.2 128 0 _
              refine sm_T_go 1 (c1 := (119, [some (.inr (.inr (some (13, 0)))), some (.inl (S0_.1 13 0 9)), some (.inl vx8_), some (.inl vx21_), some (.inl (40 * (Sx43_.1 13 0 28) + vx8_))], [.inl 5, .inl (Sx43_.2.2.1 128 0 (40 * (Sx43_.1 13 0 28) + vx8_).toNat)], Sx43_)) rfl ?_
              refine sm_T_br (a := 0) (z := 11) rfl (fun cx84_ => ?_) (fun cx84_ => ?_)
              · have cx84_ : (Sx43_.2.2.1 128 0 (40 * (Sx43_.1 13 0 28) + vx8_).toNat) = 5 := of_decide_eq_true cx84_
                refine sm_T_go 2 (c1 := (132, [some (.inr (.inr (some (13, 0)))), some (.inl (S0_.1 13 0 9)), some (.inl vx8_), some (.inl vx21_), some (.inl (40 * (Sx43_.1 13 0 28) + vx8_))], [.inl vx8_, .inr (.inr (some (13, 0)))], Sx43_)) rfl ?_
                refine sm_T_cal (d1 := 4) (Q1 := vq_326g vx8_ b_ n_ T_ q2_ gl_ F_ I_ A_ X_ M_ K_ fr_ E_ O_ ok_ r_ s9_ Sx43_) rfl rfl (by decide) (vc_326g vx8_ b_ n_ T_ q2_ gl_ F_ I_ A_ X_ M_ K_ fr_ E_ O_ ok_ r_ s9_ Sx43_ hIx44_ (by exact t44_) (by exact g44_) (by exact ⟨vl9_, hv_.2⟩) (by exact mo9_) (by exact j5_.2.1.mp (by omega)) (by exact hA_) (by exact mx_) (by exact ⟨fr9_, hfr_.2⟩) (by exact re9_) (by exact hte_) (by exact ev9_) (by omega) (by exact sb_.2.1.mp (by omega)) (by (rw [e11]; rcases nq5_ with z_ | z_; (exact z_.2.2); (exact absurd z_.1 (by have := j5_.2.1.mp (by omega); omega))))) (fun u_ Sx85_ px88_ => ?_)
                obtain ⟨rfl, hIx86_, hFx87_, px88_⟩ := px88_
                have hFx89_ : ai_fr (sx_W vw_324g) S0_ Sx85_ := ai_fr_tr hFx47_ (fr_le hFx87_ rfl)
                have ex90_ : Sx85_.1 13 0 28 = Sx43_.1 13 0 28 := hFx87_.1 13 0 28 rfl
                have e132_ := px88_
                refine sm_T_rv rfl ⟨_, _, rfl, rfl, hIx86_, hFx89_, ?_⟩
                obtain ⟨v9_, a1_, a2_, a3_, a4_, a5_⟩ := e132_
                exact ⟨v9_, a1_, a2_, a3_, a4_, fun j_ => by rw [a5_.1, lw9_], a5_.2.1, fun j_ hj_ => by rw [a5_.2.2 j_ hj_, ll9_]⟩
              · have cx84_ : ¬ ((Sx43_.2.2.1 128 0 (40 * (Sx43_.1 13 0 28) + vx8_).toNat) = 5) := of_decide_eq_false cx84_
                exfalso; (have z1_ := (j5_.2.1.mp (by omega)); rcases nq5_ with z_ | z_; (have z3_ := sb_.2.1.mpr z_.2.1; omega); (have z3_ := z_.1; omega))
        · have cx79_ : ¬ ((Sx43_.2.2.1 119 0 (Sx43_.1 13 0 9).toNat) = 1) := of_decide_eq_false cx79_
          exfalso; (have z1_ := j5_.2.1; have z2_ := j5_.2.2.1; rcases nq5_ with z_ | z_; (have z3_ := z1_.mpr z_.1; omega); (have z3_ := z2_.mpr z_.1; omega))
  · have cx9_ : ¬ (vx8_ ≠ (-1)) := of_decide_eq_false cx9_
    exfalso; omega
