/-! M_.bit -/
def vw_325 : sx_Wl := ([(13, 9), (13, 10), (13, 11)], [138, 139], [])
def vq_325 (wd_ : Int) (b_ : Nat → Int) (n_ : Nat) (T_ : Nat) (x_ : pE Nat) (mo_ : Int) (gl_ : Nat) (S0_ : sm_S) (u_ : Option sm_V) (S1_ : sm_S) : Prop := u_ = none ∧ gi S1_ ∧ ai_fr (sx_W vw_325) S0_ S1_ ∧ (rg b_ n_ T_ (pb x_ (p_bp b_ n_ wd_)) S1_ ∧ ∀ r_, pb x_ (p_bp b_ n_ wd_) = .inr r_ → ∀ l_ : List Int, l_.length = gl_ → stk (S0_.2.2.1 138 0) l_ → stk (S1_.2.2.1 138 0) (1 :: l_))
set_option maxHeartbeats 1500000 in
theorem vc_325 {sc_ : Nat × (Nat → Int)} (wd_ : Int) (b_ : Nat → Int) (n_ : Nat) (T_ : Nat) (x_ : pE Nat) (mo_ : Int) (gl_ : Nat) (S0_ : sm_S) (hI_ : gi S0_) (ht_ : rtab b_ n_ T_ S0_) (hx_ : rg b_ n_ T_ x_ S0_) (hv_ : (S0_.1 13 0 34) = (gl_ : Int) ∧ gl_ ≤ 1000) (hwd_ : 0 ≤ wd_ ∧ wd_ ≤ 8) : sm_T (mt_P sc_) 3 325 (0, [some (.inr (.inr (some (13, 0)))), some (.inl wd_), none], [], S0_) (fun r_ => ∃ u_ S1_, r_ = (.inl u_, S1_, 0) ∧ vq_325 wd_ b_ n_ T_ x_ mo_ gl_ S0_ u_ S1_) := by
  have hF_ : ai_fr (sx_W vw_325) S0_ S0_ := ai_fr_rf
  refine sm_T_go 2 (c1 := (2, [some (.inr (.inr (some (13, 0)))), some (.inl wd_), none], [.inl 2, .inr (.inr (some (13, 0)))], S0_)) rfl ?_
  refine sm_T_cal (d1 := 1) (Q1 := vq_299 2 b_ n_ T_ x_ S0_) rfl rfl (by decide) (vc_299 2 b_ n_ T_ x_ S0_ hI_ (by exact ht_) (by exact hx_) (by decide)) (fun u_ Sx1_ px4_ => ?_)
  obtain ⟨vx6_, rfl, hIx2_, hFx3_, px4_⟩ := px4_
  have hFx5_ : ai_fr (sx_W vw_325) S0_ Sx1_ := ai_fr_tr hF_ (fr_le hFx3_ rfl)
  have a17_ := px4_.1
  have g17_ := px4_.2
  have t17_ := rtab_fr ht_ hFx3_ rfl rfl rfl rfl rfl
  have at17_ := hFx3_.1 13 0 9 rfl
  have v17b : 0 ≤ vx6_ ∧ vx6_ ≤ 1280 := by rw [a17_, ← at17_]; exact hIx2_.1 13 0 9 rfl
  have w17_ := fr_arr (t := 138) (i := 0) hFx3_ rfl
  have nv17_ : ∀ r_ i3_ : Nat, Sx1_.1 13 0 9 = (i3_ : Int) → rp b_ n_ T_ i3_ r_ → lx_kd b_ n_ r_ = 2 → Sx1_.2.2.1 121 0 vx6_.toNat = lx_vl b_ n_ r_ ∧ Sx1_.2.2.1 120 0 vx6_.toNat = (r_ : Int) ∧ Sx1_.2.2.1 119 0 vx6_.toNat ≠ 4 := by intro r_ i3_ q1_ q2_ q3_; have q4_ := rp_at t17_ q2_; rw [show vx6_.toNat = i3_ by omega, q4_.1, q4_.2.1, q4_.2.2.1, q3_]; exact ⟨rfl, rfl, by decide⟩
  refine sm_T_go 2 (c1 := (7, [some (.inr (.inr (some (13, 0)))), some (.inl wd_), some (.inl vx6_)], [.inr (.inr (some (13, 0)))], Sx1_)) rfl ?_
  refine sm_T_cal (d1 := 0) (Q1 := vq_292  Sx1_) rfl rfl (by decide) (vc_292  Sx1_ hIx2_ ) (fun u_ Sx7_ px10_ => ?_)
  obtain ⟨rfl, vx12_, rfl, px10_⟩ := px10_
  have e22_ := px10_
  refine sm_T_b0 (a := 0) (z := 20) rfl (fun cx13_ => ?_) (fun cx13_ => ?_)
  · have cx13_ : vx12_ = 0 := of_decide_eq_true cx13_
    obtain ⟨e3_, he3_⟩ := rg_w g17_ (wr_if e22_ (by omega))
    have cw3_ := bp_w (wd_ := wd_) he3_
    rw [he3_] at g17_
    obtain ⟨x4_, hx4_, hx4b⟩ : ∃ x4_ : pE Nat, rg b_ n_ T_ x4_ _ ∧ x4_ = .inl e3_ := ⟨_, g17_, rfl⟩
    have t50_ := t17_
    have w50_ := w17_
    refine sm_T_go 1 (c1 := (31, [some (.inr (.inr (some (13, 0)))), some (.inl wd_), some (.inl vx6_)], [.inr (.inr (some (13, 0)))], Sx1_)) rfl ?_
    refine sm_T_cal (d1 := 2) (Q1 := vq_297 b_ n_ T_ x4_ Sx1_) rfl rfl (by decide) (vc_297 b_ n_ T_ x4_ Sx1_ hIx2_ (by exact t50_) (by exact hx4_) (by (intro q_ e_; rw [hx4b] at e_; first | (cases e_; done) | (cases e_; rw [cr.1]; decide)))) (fun u_ Sx14_ px17_ => ?_)
    obtain ⟨rfl, hIx15_, hFx16_, px17_⟩ := px17_
    have hFx18_ : ai_fr (sx_W vw_325) S0_ Sx14_ := ai_fr_tr hFx5_ (fr_le hFx16_ rfl)
    have g51_ := px17_.1
    have nn51_ := fr_arr (t := 121) (i := 0) hFx16_ rfl
    have vl51_ : Sx14_.1 13 0 34 = (gl_ : Int) := (hFx18_.1 13 0 34 rfl).trans hv_.1
    have w51_ := (fr_arr (t := 138) (i := 0) hFx16_ rfl).trans w50_
    refine sm_T_go 1 (c1 := (35, [some (.inr (.inr (some (13, 0)))), some (.inl wd_), some (.inl vx6_)], [.inr (.inr (some (13, 0)))], Sx14_)) rfl ?_
    refine sm_T_cal (d1 := 0) (Q1 := vq_292  Sx14_) rfl rfl (by decide) (vc_292  Sx14_ hIx15_ ) (fun u_ Sx19_ px22_ => ?_)
    obtain ⟨rfl, vx24_, rfl, px22_⟩ := px22_
    have e55_ := px22_
    first | (have v55_ : vx24_ = 0 := (by rw [hx4b] at g51_; rw [e55_, if_neg (fun z_ => g51_.2.2 (g51_.1.symm.trans z_))])) | skip
    refine sm_T_b0 (a := 0) (z := 44) rfl (fun cx25_ => ?_) (fun cx25_ => ?_)
    · have cx25_ : vx24_ = 0 := of_decide_eq_true cx25_
      have hz5_ := wr_if e55_ (by omega)
      refine sm_T_rv rfl ⟨_, _, rfl, rfl, hIx15_, hFx18_, ?_⟩
      first | (exfalso; omega) | (have gq_ : rg b_ n_ T_ (pb x_ (p_bp b_ n_ wd_)) _ := (by first | (rw [cw3_]; rw [hx4b] at g51_; exact g51_) | (rw [crv_]; rw [hx4b] at g51_; exact g51_)); refine ⟨gq_, fun r9_ hr_ l_ hl_ hs_ => ?_⟩; first | (exfalso; rw [hr_] at gq_; exact hz5_ gq_.1) | (exact stk_pu (by omega) rfl (stk_ot (by rw [w51_]; exact hs_) (by decide))))
    · have cx25_ : ¬ (vx24_ = 0) := of_decide_eq_false cx25_
      first | (have hz5_ := rt_if e55_ (by omega); have nv51_ := (congrFun nn51_ _).trans nv_.1; have n51_ : 0 ≤ lx_vl b_ n_ r_ ∧ lx_vl b_ n_ r_ < 8 := (by omega)) | skip
      have bx26_ : 0 ≤ Sx14_.1 13 0 34 ∧ Sx14_.1 13 0 34 ≤ 1023 := hIx15_.1 13 0 34 rfl
      refine sm_T_go 5 (c1 := (51, [some (.inr (.inr (some (13, 0)))), some (.inl wd_), some (.inl vx6_)], [.inl (Sx14_.1 13 0 34), .inl 8, .inr (.inr (some (139, 0)))], Sx14_)) rfl ?_
      refine sm_T_bin (w := 8 * (Sx14_.1 13 0 34)) rfl (bi_mul (by omega) (by omega) (by omega)) ?_
      refine sm_T_go 5 (c1 := (62, [some (.inr (.inr (some (13, 0)))), some (.inl wd_), some (.inl vx6_)], [.inl (Sx14_.1 13 0 34), .inl 8, .inr (.inr (some (139, 0))), .inl (8 * (Sx14_.1 13 0 34)), .inr (.inr (some (139, 0)))], Sx14_)) rfl ?_
      refine sm_T_bin (w := 8 * (Sx14_.1 13 0 34)) rfl (bi_mul (by omega) (by omega) (by omega)) ?_
      refine sm_T_go 3 (c1 := (68, [some (.inr (.inr (some (13, 0)))), some (.inl wd_), some (.inl vx6_)], [.inl vx6_, .inr (.inr (some (121, 0))), .inl (8 * (Sx14_.1 13 0 34)), .inr (.inr (some (139, 0))), .inl (8 * (Sx14_.1 13 0 34)), .inr (.inr (some (139, 0)))], Sx14_)) rfl ?_
      refine sm_T_iald (n := 65537) rfl rfl (by omega) (by omega) ?_
      have bx27_ : (-2147483648) ≤ Sx14_.2.2.1 121 0 vx6_.toNat ∧ Sx14_.2.2.1 121 0 vx6_.toNat ≤ 2147483647 := hIx15_.2 121 0 _
      refine sm_T_bin (w := 8 * (Sx14_.1 13 0 34) + (Sx14_.2.2.1 121 0 vx6_.toNat)) rfl (bi_add (by omega) (by omega) (by omega)) ?_
      refine sm_T_iald (n := 8192) rfl rfl (by omega) (by omega) ?_
      have bx28_ : 0 ≤ Sx14_.2.2.1 139 0 (8 * (Sx14_.1 13 0 34) + (Sx14_.2.2.1 121 0 vx6_.toNat)).toNat ∧ Sx14_.2.2.1 139 0 (8 * (Sx14_.1 13 0 34) + (Sx14_.2.2.1 121 0 vx6_.toNat)).toNat ≤ 2047 := hIx15_.2 139 0 _
      refine sm_T_iast (n := 8192) rfl rfl (by omega) (by omega) ?_
      have hIx29_ : gi (sm_aI Sx14_ 139 0 (8 * (Sx14_.1 13 0 34)).toNat (Sx14_.2.2.1 139 0 (8 * (Sx14_.1 13 0 34) + (Sx14_.2.2.1 121 0 vx6_.toNat)).toNat)) := gi_aI hIx15_ (show 0 ≤ (Sx14_.2.2.1 139 0 (8 * (Sx14_.1 13 0 34) + (Sx14_.2.2.1 121 0 vx6_.toNat)).toNat) ∧ (Sx14_.2.2.1 139 0 (8 * (Sx14_.1 13 0 34) + (Sx14_.2.2.1 121 0 vx6_.toNat)).toNat) ≤ 2047 from ⟨by omega, by omega⟩)
      have hFx30_ : ai_fr (sx_W vw_325) S0_ (sm_aI Sx14_ 139 0 (8 * (Sx14_.1 13 0 34)).toNat (Sx14_.2.2.1 139 0 (8 * (Sx14_.1 13 0 34) + (Sx14_.2.2.1 121 0 vx6_.toNat)).toNat)) := ai_fr_tr hFx18_ (ai_fr_aI rfl)
      refine sm_T_go 5 (c1 := (81, [some (.inr (.inr (some (13, 0)))), some (.inl wd_), some (.inl vx6_)], [.inl 1, .inl (Sx14_.1 13 0 34), .inr (.inr (some (138, 0)))], sm_aI Sx14_ 139 0 (8 * (Sx14_.1 13 0 34)).toNat (Sx14_.2.2.1 139 0 (8 * (Sx14_.1 13 0 34) + (Sx14_.2.2.1 121 0 vx6_.toNat)).toNat))) rfl ?_
      refine sm_T_iast (n := 1024) rfl rfl (by omega) (by omega) ?_
      have hIx31_ : gi (sm_aI (sm_aI Sx14_ 139 0 (8 * (Sx14_.1 13 0 34)).toNat (Sx14_.2.2.1 139 0 (8 * (Sx14_.1 13 0 34) + (Sx14_.2.2.1 121 0 vx6_.toNat)).toNat)) 138 0 (Sx14_.1 13 0 34).toNat 1) := gi_aI hIx29_ (show (-2147483648) ≤ 1 ∧ 1 ≤ 2147483647 from ⟨by omega, by omega⟩)
      have hFx32_ : ai_fr (sx_W vw_325) S0_ (sm_aI (sm_aI Sx14_ 139 0 (8 * (Sx14_.1 13 0 34)).toNat (Sx14_.2.2.1 139 0 (8 * (Sx14_.1 13 0 34) + (Sx14_.2.2.1 121 0 vx6_.toNat)).toNat)) 138 0 (Sx14_.1 13 0 34).toNat 1) := ai_fr_tr hFx30_ (ai_fr_aI rfl)
      refine sm_T_rv rfl ⟨_, _, rfl, rfl, hIx31_, hFx32_, ?_⟩
      first | (exfalso; omega) | (have gq_ : rg b_ n_ T_ (pb x_ (p_bp b_ n_ wd_)) _ := (by first | (rw [cw3_]; rw [hx4b] at g51_; exact g51_) | (rw [crv_]; rw [hx4b] at g51_; exact g51_)); refine ⟨gq_, fun r9_ hr_ l_ hl_ hs_ => ?_⟩; first | (exfalso; rw [hr_] at gq_; exact hz5_ gq_.1) | (exact stk_pu (by omega) rfl (stk_ot (by rw [w51_]; exact hs_) (by decide))))
  · have cx13_ : ¬ (vx12_ = 0) := of_decide_eq_false cx13_
    have hz_ := rt_if e22_ (by omega)
    obtain ⟨r_, i3_, hr3_, e31_, e32_⟩ := rg_r g17_ hz_
    have cr := bp_r (wd_ := wd_) hr3_
    have nv_ := nv17_ r_ i3_ e31_ e32_ cr.1
    have vr0_ := lx_vl_0 cr.1
    refine sm_T_go 3 (c1 := (18, [some (.inr (.inr (some (13, 0)))), some (.inl wd_), some (.inl vx6_)], [.inl vx6_, .inr (.inr (some (121, 0)))], Sx1_)) rfl ?_
    refine sm_T_iald (n := 65537) rfl rfl (by omega) (by omega) ?_
    have bx33_ : (-2147483648) ≤ Sx1_.2.2.1 121 0 vx6_.toNat ∧ Sx1_.2.2.1 121 0 vx6_.toNat ≤ 2147483647 := hIx2_.2 121 0 _
    refine sm_T_go 1 (c1 := (20, [some (.inr (.inr (some (13, 0)))), some (.inl wd_), some (.inl vx6_)], [.inl wd_, .inl (Sx1_.2.2.1 121 0 vx6_.toNat)], Sx1_)) rfl ?_
    refine sm_T_br (a := 2) (z := 10) rfl (fun cx34_ => ?_) (fun cx34_ => ?_)
    · have cx34_ : (Sx1_.2.2.1 121 0 vx6_.toNat) < wd_ := of_decide_eq_true cx34_
      rw [hr3_] at g17_
      obtain ⟨x4_, hx4_, hx4b⟩ : ∃ x4_ : pE Nat, rg b_ n_ T_ x4_ _ ∧ x4_ = .inr r_ := ⟨_, g17_, rfl⟩
      have t50_ := t17_
      have w50_ := w17_
      have crv_ := cr.2
      rw [if_neg (by omega)] at crv_
      refine sm_T_go 1 (c1 := (31, [some (.inr (.inr (some (13, 0)))), some (.inl wd_), some (.inl vx6_)], [.inr (.inr (some (13, 0)))], Sx1_)) rfl ?_
      refine sm_T_cal (d1 := 2) (Q1 := vq_297 b_ n_ T_ x4_ Sx1_) rfl rfl (by decide) (vc_297 b_ n_ T_ x4_ Sx1_ hIx2_ (by exact t50_) (by exact hx4_) (by (intro q_ e_; rw [hx4b] at e_; first | (cases e_; done) | (cases e_; rw [cr.1]; decide)))) (fun u_ Sx35_ px38_ => ?_)
      obtain ⟨rfl, hIx36_, hFx37_, px38_⟩ := px38_
      have hFx39_ : ai_fr (sx_W vw_325) S0_ Sx35_ := ai_fr_tr hFx5_ (fr_le hFx37_ rfl)
      have g51_ := px38_.1
      have nn51_ := fr_arr (t := 121) (i := 0) hFx37_ rfl
      have vl51_ : Sx35_.1 13 0 34 = (gl_ : Int) := (hFx39_.1 13 0 34 rfl).trans hv_.1
      have w51_ := (fr_arr (t := 138) (i := 0) hFx37_ rfl).trans w50_
      refine sm_T_go 1 (c1 := (35, [some (.inr (.inr (some (13, 0)))), some (.inl wd_), some (.inl vx6_)], [.inr (.inr (some (13, 0)))], Sx35_)) rfl ?_
      refine sm_T_cal (d1 := 0) (Q1 := vq_292  Sx35_) rfl rfl (by decide) (vc_292  Sx35_ hIx36_ ) (fun u_ Sx40_ px43_ => ?_)
      obtain ⟨rfl, vx45_, rfl, px43_⟩ := px43_
      have e55_ := px43_
      first | (have v55_ : vx45_ = 0 := (by rw [hx4b] at g51_; rw [e55_, if_neg (fun z_ => g51_.2.2 (g51_.1.symm.trans z_))])) | skip
      refine sm_T_b0 (a := 0) (z := 44) rfl (fun cx46_ => ?_) (fun cx46_ => ?_)
      · have cx46_ : vx45_ = 0 := of_decide_eq_true cx46_
        have hz5_ := wr_if e55_ (by omega)
        refine sm_T_rv rfl ⟨_, _, rfl, rfl, hIx36_, hFx39_, ?_⟩
        first | (exfalso; omega) | (have gq_ : rg b_ n_ T_ (pb x_ (p_bp b_ n_ wd_)) _ := (by first | (rw [cw3_]; rw [hx4b] at g51_; exact g51_) | (rw [crv_]; rw [hx4b] at g51_; exact g51_)); refine ⟨gq_, fun r9_ hr_ l_ hl_ hs_ => ?_⟩; first | (exfalso; rw [hr_] at gq_; exact hz5_ gq_.1) | (exact stk_pu (by omega) rfl (stk_ot (by rw [w51_]; exact hs_) (by decide))))
      · have cx46_ : ¬ (vx45_ = 0) := of_decide_eq_false cx46_
        first | (have hz5_ := rt_if e55_ (by omega); have nv51_ := (congrFun nn51_ _).trans nv_.1; have n51_ : 0 ≤ lx_vl b_ n_ r_ ∧ lx_vl b_ n_ r_ < 8 := (by omega)) | skip
        have bx47_ : 0 ≤ Sx35_.1 13 0 34 ∧ Sx35_.1 13 0 34 ≤ 1023 := hIx36_.1 13 0 34 rfl
        refine sm_T_go 5 (c1 := (51, [some (.inr (.inr (some (13, 0)))), some (.inl wd_), some (.inl vx6_)], [.inl (Sx35_.1 13 0 34), .inl 8, .inr (.inr (some (139, 0)))], Sx35_)) rfl ?_
        refine sm_T_bin (w := 8 * (Sx35_.1 13 0 34)) rfl (bi_mul (by omega) (by omega) (by omega)) ?_
        refine sm_T_go 5 (c1 := (62, [some (.inr (.inr (some (13, 0)))), some (.inl wd_), some (.inl vx6_)], [.inl (Sx35_.1 13 0 34), .inl 8, .inr (.inr (some (139, 0))), .inl (8 * (Sx35_.1 13 0 34)), .inr (.inr (some (139, 0)))], Sx35_)) rfl ?_
        refine sm_T_bin (w := 8 * (Sx35_.1 13 0 34)) rfl (bi_mul (by omega) (by omega) (by omega)) ?_
        refine sm_T_go 3 (c1 := (68, [some (.inr (.inr (some (13, 0)))), some (.inl wd_), some (.inl vx6_)], [.inl vx6_, .inr (.inr (some (121, 0))), .inl (8 * (Sx35_.1 13 0 34)), .inr (.inr (some (139, 0))), .inl (8 * (Sx35_.1 13 0 34)), .inr (.inr (some (139, 0)))], Sx35_)) rfl ?_
        refine sm_T_iald (n := 65537) rfl rfl (by omega) (by omega) ?_
        have bx48_ : (-2147483648) ≤ Sx35_.2.2.1 121 0 vx6_.toNat ∧ Sx35_.2.2.1 121 0 vx6_.toNat ≤ 2147483647 := hIx36_.2 121 0 _
        refine sm_T_bin (w := 8 * (Sx35_.1 13 0 34) + (Sx35_.2.2.1 121 0 vx6_.toNat)) rfl (bi_add (by omega) (by omega) (by omega)) ?_
        refine sm_T_iald (n := 8192) rfl rfl (by omega) (by omega) ?_
        have bx49_ : 0 ≤ Sx35_.2.2.1 139 0 (8 * (Sx35_.1 13 0 34) + (Sx35_.2.2.1 121 0 vx6_.toNat)).toNat ∧ Sx35_.2.2.1 139 0 (8 * (Sx35_.1 13 0 34) + (Sx35_.2.2.1 121 0 vx6_.toNat)).toNat ≤ 2047 := hIx36_.2 139 0 _
        refine sm_T_iast (n := 8192) rfl rfl (by omega) (by omega) ?_
        have hIx50_ : gi (sm_aI Sx35_ 139 0 (8 * (Sx35_.1 13 0 34)).toNat (Sx35_.2.2.1 139 0 (8 * (Sx35_.1 13 0 34) + (Sx35_.2.2.1 121 0 vx6_.toNat)).toNat)) := gi_aI hIx36_ (show 0 ≤ (Sx35_.2.2.1 139 0 (8 * (Sx35_.1 13 0 34) + (Sx35_.2.2.1 121 0 vx6_.toNat)).toNat) ∧ (Sx35_.2.2.1 139 0 (8 * (Sx35_.1 13 0 34) + (Sx35_.2.2.1 121 0 vx6_.toNat)).toNat) ≤ 2047 from ⟨by omega, by omega⟩)
        have hFx51_ : ai_fr (sx_W vw_325) S0_ (sm_aI Sx35_ 139 0 (8 * (Sx35_.1 13 0 34)).toNat (Sx35_.2.2.1 139 0 (8 * (Sx35_.1 13 0 34) + (Sx35_.2.2.1 121 0 vx6_.toNat)).toNat)) := ai_fr_tr hFx39_ (ai_fr_aI rfl)
        refine sm_T_go 5 (c1 := (81, [some (.inr (.inr (some (13, 0)))), some (.inl wd_), some (.inl vx6_)], [.inl 1, .inl (Sx35_.1 13 0 34), .inr (.inr (some (138, 0)))], sm_aI Sx35_ 139 0 (8 * (Sx35_.1 13 0 34)).toNat (Sx35_.2.2.1 139 0 (8 * (Sx35_.1 13 0 34) + (Sx35_.2.2.1 121 0 vx6_.toNat)).toNat))) rfl ?_
        refine sm_T_iast (n := 1024) rfl rfl (by omega) (by omega) ?_
        have hIx52_ : gi (sm_aI (sm_aI Sx35_ 139 0 (8 * (Sx35_.1 13 0 34)).toNat (Sx35_.2.2.1 139 0 (8 * (Sx35_.1 13 0 34) + (Sx35_.2.2.1 121 0 vx6_.toNat)).toNat)) 138 0 (Sx35_.1 13 0 34).toNat 1) := gi_aI hIx50_ (show (-2147483648) ≤ 1 ∧ 1 ≤ 2147483647 from ⟨by omega, by omega⟩)
        have hFx53_ : ai_fr (sx_W vw_325) S0_ (sm_aI (sm_aI Sx35_ 139 0 (8 * (Sx35_.1 13 0 34)).toNat (Sx35_.2.2.1 139 0 (8 * (Sx35_.1 13 0 34) + (Sx35_.2.2.1 121 0 vx6_.toNat)).toNat)) 138 0 (Sx35_.1 13 0 34).toNat 1) := ai_fr_tr hFx51_ (ai_fr_aI rfl)
        refine sm_T_rv rfl ⟨_, _, rfl, rfl, hIx52_, hFx53_, ?_⟩
        first | (exfalso; omega) | (have gq_ : rg b_ n_ T_ (pb x_ (p_bp b_ n_ wd_)) _ := (by first | (rw [cw3_]; rw [hx4b] at g51_; exact g51_) | (rw [crv_]; rw [hx4b] at g51_; exact g51_)); refine ⟨gq_, fun r9_ hr_ l_ hl_ hs_ => ?_⟩; first | (exfalso; rw [hr_] at gq_; exact hz5_ gq_.1) | (exact stk_pu (by omega) rfl (stk_ot (by rw [w51_]; exact hs_) (by decide))))
    · have cx34_ : ¬ ((Sx1_.2.2.1 121 0 vx6_.toNat) < wd_) := of_decide_eq_false cx34_
      have crv_ := cr.2
      rw [if_pos (by omega)] at crv_
      refine sm_T_go 3 (c1 := (27, [some (.inr (.inr (some (13, 0)))), some (.inl wd_), some (.inl vx6_)], [.inl vx6_, .inl 12, .inr (.inr (some (13, 0)))], Sx1_)) rfl ?_
      refine sm_T_cal (d1 := 0) (Q1 := vq_293 12 vx6_ Sx1_) rfl rfl (by decide) (vc_293 12 vx6_ Sx1_ hIx2_ (by decide) (by omega)) (fun u_ Sx54_ px57_ => ?_)
      obtain ⟨rfl, hIx55_, hFx56_, px57_⟩ := px57_
      have hFx58_ : ai_fr (sx_W vw_325) S0_ Sx54_ := ai_fr_tr hFx5_ (fr_le hFx56_ rfl)
      have g47_ : rg b_ n_ T_ (.inl (12, r_)) Sx54_ := by rcases px57_ with z_ | z_; (exact absurd hz_ z_.1); (exact ⟨z_.2.1.trans (if_neg nv_.2.2), z_.2.2.trans nv_.2.1, by show (12 : Int) ≠ 0; decide⟩)
      obtain ⟨x4_, hx4_, hx4b⟩ : ∃ x4_ : pE Nat, rg b_ n_ T_ x4_ Sx54_ ∧ x4_ = .inl (12, r_) := ⟨_, g47_, rfl⟩
      have t50_ := rtab_fr t17_ hFx56_ rfl rfl rfl rfl rfl
      have w50_ := (fr_arr (t := 138) (i := 0) hFx56_ rfl).trans w17_
      refine sm_T_go 1 (c1 := (31, [some (.inr (.inr (some (13, 0)))), some (.inl wd_), some (.inl vx6_)], [.inr (.inr (some (13, 0)))], Sx54_)) rfl ?_
      refine sm_T_cal (d1 := 2) (Q1 := vq_297 b_ n_ T_ x4_ Sx54_) rfl rfl (by decide) (vc_297 b_ n_ T_ x4_ Sx54_ hIx55_ (by exact t50_) (by exact hx4_) (by (intro q_ e_; rw [hx4b] at e_; first | (cases e_; done) | (cases e_; rw [cr.1]; decide)))) (fun u_ Sx59_ px62_ => ?_)
      obtain ⟨rfl, hIx60_, hFx61_, px62_⟩ := px62_
      have hFx63_ : ai_fr (sx_W vw_325) S0_ Sx59_ := ai_fr_tr hFx58_ (fr_le hFx61_ rfl)
      have g51_ := px62_.1
      have nn51_ := fr_arr (t := 121) (i := 0) hFx61_ rfl
      have vl51_ : Sx59_.1 13 0 34 = (gl_ : Int) := (hFx63_.1 13 0 34 rfl).trans hv_.1
      have w51_ := (fr_arr (t := 138) (i := 0) hFx61_ rfl).trans w50_
      refine sm_T_go 1 (c1 := (35, [some (.inr (.inr (some (13, 0)))), some (.inl wd_), some (.inl vx6_)], [.inr (.inr (some (13, 0)))], Sx59_)) rfl ?_
      refine sm_T_cal (d1 := 0) (Q1 := vq_292  Sx59_) rfl rfl (by decide) (vc_292  Sx59_ hIx60_ ) (fun u_ Sx64_ px67_ => ?_)
      obtain ⟨rfl, vx69_, rfl, px67_⟩ := px67_
      have e55_ := px67_
      first | (have v55_ : vx69_ = 0 := (by rw [hx4b] at g51_; rw [e55_, if_neg (fun z_ => g51_.2.2 (g51_.1.symm.trans z_))])) | skip
      refine sm_T_b0 (a := 0) (z := 44) rfl (fun cx70_ => ?_) (fun cx70_ => ?_)
      · have cx70_ : vx69_ = 0 := of_decide_eq_true cx70_
        have hz5_ := wr_if e55_ (by omega)
        refine sm_T_rv rfl ⟨_, _, rfl, rfl, hIx60_, hFx63_, ?_⟩
        first | (exfalso; omega) | (have gq_ : rg b_ n_ T_ (pb x_ (p_bp b_ n_ wd_)) _ := (by first | (rw [cw3_]; rw [hx4b] at g51_; exact g51_) | (rw [crv_]; rw [hx4b] at g51_; exact g51_)); refine ⟨gq_, fun r9_ hr_ l_ hl_ hs_ => ?_⟩; first | (exfalso; rw [hr_] at gq_; exact hz5_ gq_.1) | (exact stk_pu (by omega) rfl (stk_ot (by rw [w51_]; exact hs_) (by decide))))
      · have cx70_ : ¬ (vx69_ = 0) := of_decide_eq_false cx70_
        first | (have hz5_ := rt_if e55_ (by omega); have nv51_ := (congrFun nn51_ _).trans nv_.1; have n51_ : 0 ≤ lx_vl b_ n_ r_ ∧ lx_vl b_ n_ r_ < 8 := (by omega)) | skip
        have bx71_ : 0 ≤ Sx59_.1 13 0 34 ∧ Sx59_.1 13 0 34 ≤ 1023 := hIx60_.1 13 0 34 rfl
        refine sm_T_go 5 (c1 := (51, [some (.inr (.inr (some (13, 0)))), some (.inl wd_), some (.inl vx6_)], [.inl (Sx59_.1 13 0 34), .inl 8, .inr (.inr (some (139, 0)))], Sx59_)) rfl ?_
        refine sm_T_bin (w := 8 * (Sx59_.1 13 0 34)) rfl (bi_mul (by omega) (by omega) (by omega)) ?_
        refine sm_T_go 5 (c1 := (62, [some (.inr (.inr (some (13, 0)))), some (.inl wd_), some (.inl vx6_)], [.inl (Sx59_.1 13 0 34), .inl 8, .inr (.inr (some (139, 0))), .inl (8 * (Sx59_.1 13 0 34)), .inr (.inr (some (139, 0)))], Sx59_)) rfl ?_
        refine sm_T_bin (w := 8 * (Sx59_.1 13 0 34)) rfl (bi_mul (by omega) (by omega) (by omega)) ?_
        refine sm_T_go 3 (c1 := (68, [some (.inr (.inr (some (13, 0)))), some (.inl wd_), some (.inl vx6_)], [.inl vx6_, .inr (.inr (some (121, 0))), .inl (8 * (Sx59_.1 13 0 34)), .inr (.inr (some (139, 0))), .inl (8 * (Sx59_.1 13 0 34)), .inr (.inr (some (139, 0)))], Sx59_)) rfl ?_
        refine sm_T_iald (n := 65537) rfl rfl (by omega) (by omega) ?_
        have bx72_ : (-2147483648) ≤ Sx59_.2.2.1 121 0 vx6_.toNat ∧ Sx59_.2.2.1 121 0 vx6_.toNat ≤ 2147483647 := hIx60_.2 121 0 _
        refine sm_T_bin (w := 8 * (Sx59_.1 13 0 34) + (Sx59_.2.2.1 121 0 vx6_.toNat)) rfl (bi_add (by omega) (by omega) (by omega)) ?_
        refine sm_T_iald (n := 8192) rfl rfl (by omega) (by omega) ?_
        have bx73_ : 0 ≤ Sx59_.2.2.1 139 0 (8 * (Sx59_.1 13 0 34) + (Sx59_.2.2.1 121 0 vx6_.toNat)).toNat ∧ Sx59_.2.2.1 139 0 (8 * (Sx59_.1 13 0 34) + (Sx59_.2.2.1 121 0 vx6_.toNat)).toNat ≤ 2047 := hIx60_.2 139 0 _
        refine sm_T_iast (n := 8192) rfl rfl (by omega) (by omega) ?_
        have hIx74_ : gi (sm_aI Sx59_ 139 0 (8 * (Sx59_.1 13 0 34)).toNat (Sx59_.2.2.1 139 0 (8 * (Sx59_.1 13 0 34) + (Sx59_.2.2.1 121 0 vx6_.toNat)).toNat)) := gi_aI hIx60_ (show 0 ≤ (Sx59_.2.2.1 139 0 (8 * (Sx59_.1 13 0 34) + (Sx59_.2.2.1 121 0 vx6_.toNat)).toNat) ∧ (Sx59_.2.2.1 139 0 (8 * (Sx59_.1 13 0 34) + (Sx59_.2.2.1 121 0 vx6_.toNat)).toNat) ≤ 2047 from ⟨by omega, by omega⟩)
        have hFx75_ : ai_fr (sx_W vw_325) S0_ (sm_aI Sx59_ 139 0 (8 * (Sx59_.1 13 0 34)).toNat (Sx59_.2.2.1 139 0 (8 * (Sx59_.1 13 0 34) + (Sx59_.2.2.1 121 0 vx6_.toNat)).toNat)) := ai_fr_tr hFx63_ (ai_fr_aI rfl)
        refine sm_T_go 5 (c1 := (81, [some (.inr (.inr (some (13, 0)))), some (.inl wd_), some (.inl vx6_)], [.inl 1, .inl (Sx59_.1 13 0 34), .inr (.inr (some (138, 0)))], sm_aI Sx59_ 139 0 (8 * (Sx59_.1 13 0 34)).toNat (Sx59_.2.2.1 139 0 (8 * (Sx59_.1 13 0 34) + (Sx59_.2.2.1 121 0 vx6_.toNat)).toNat))) rfl ?_
        refine sm_T_iast (n := 1024) rfl rfl (by omega) (by omega) ?_
        have hIx76_ : gi (sm_aI (sm_aI Sx59_ 139 0 (8 * (Sx59_.1 13 0 34)).toNat (Sx59_.2.2.1 139 0 (8 * (Sx59_.1 13 0 34) + (Sx59_.2.2.1 121 0 vx6_.toNat)).toNat)) 138 0 (Sx59_.1 13 0 34).toNat 1) := gi_aI hIx74_ (show (-2147483648) ≤ 1 ∧ 1 ≤ 2147483647 from ⟨by omega, by omega⟩)
        have hFx77_ : ai_fr (sx_W vw_325) S0_ (sm_aI (sm_aI Sx59_ 139 0 (8 * (Sx59_.1 13 0 34)).toNat (Sx59_.2.2.1 139 0 (8 * (Sx59_.1 13 0 34) + (Sx59_.2.2.1 121 0 vx6_.toNat)).toNat)) 138 0 (Sx59_.1 13 0 34).toNat 1) := ai_fr_tr hFx75_ (ai_fr_aI rfl)
        refine sm_T_rv rfl ⟨_, _, rfl, rfl, hIx76_, hFx77_, ?_⟩
        first | (exfalso; omega) | (have gq_ : rg b_ n_ T_ (pb x_ (p_bp b_ n_ wd_)) _ := (by first | (rw [cw3_]; rw [hx4b] at g51_; exact g51_) | (rw [crv_]; rw [hx4b] at g51_; exact g51_)); refine ⟨gq_, fun r9_ hr_ l_ hl_ hs_ => ?_⟩; first | (exfalso; rw [hr_] at gq_; exact hz5_ gq_.1) | (exact stk_pu (by omega) rfl (stk_ot (by rw [w51_]; exact hs_) (by decide))))
