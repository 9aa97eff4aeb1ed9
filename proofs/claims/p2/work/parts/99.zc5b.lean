/-! M_.bit -/
def vw_325g : sx_Wl := ([(13, 9), (13, 10), (13, 11)], [138, 139], [])
def vq_325g (wd_ : Int) (b_ : Nat → Int) (n_ : Nat) (T_ : Nat) (p_ : Nat) (gl_ : Nat) (r_ : Nat) (S0_ : sm_S) (u_ : Option sm_V) (S1_ : sm_S) : Prop := u_ = none ∧ gi S1_ ∧ ai_fr (sx_W vw_325g) S0_ S1_ ∧ (rg b_ n_ T_ (.inr r_) S1_ ∧ (∀ j_, S1_.2.2.1 138 0 j_ = if j_ = gl_ then 1 else S0_.2.2.1 138 0 j_) ∧ ∀ j_, S1_.2.2.1 139 0 j_ = if j_ = 8 * gl_ then S0_.2.2.1 139 0 (8 * gl_ + (lx_vl b_ n_ p_).toNat) else S0_.2.2.1 139 0 j_)
set_option maxHeartbeats 1000000 in
theorem vc_325g {sc_ : Nat × (Nat → Int)} (wd_ : Int) (b_ : Nat → Int) (n_ : Nat) (T_ : Nat) (p_ : Nat) (gl_ : Nat) (r_ : Nat) (S0_ : sm_S) (hI_ : gi S0_) (ht_ : rtab b_ n_ T_ S0_) (hx_ : rg b_ n_ T_ (.inr p_) S0_) (hv_ : (S0_.1 13 0 34) = (gl_ : Int) ∧ gl_ ≤ 1000) (hmo_ : (S0_.1 13 0 27) = 1) (hwd_ : 0 ≤ wd_ ∧ wd_ ≤ 8) (hb_ : p_bp b_ n_ wd_ p_ = .inr r_) : sm_T (mt_P sc_) 3 325 (0, [some (.inr (.inr (some (13, 0)))), some (.inl wd_), none], [], S0_) (fun ro9_ => ∃ u_ S1_, ro9_ = (.inl u_, S1_, 0) ∧ vq_325g wd_ b_ n_ T_ p_ gl_ r_ S0_ u_ S1_) := by
  have hF_ : ai_fr (sx_W vw_325g) S0_ S0_ := ai_fr_rf
  obtain ⟨i_, hi_⟩ := id hx_.2
  have hi9_ := hi_.2.1
  have hT_ := ht_.2.1
  have hf_ := hx_.1
  obtain ⟨bk_, bv_, ba_⟩ := bp_rr hb_
  refine sm_T_go 2 (c1 := (2, [some (.inr (.inr (some (13, 0)))), some (.inl wd_), none], [.inl 2, .inr (.inr (some (13, 0)))], S0_)) rfl ?_
  refine sm_T_cal (d1 := 1) (Q1 := vq_299 2 b_ n_ T_ (.inr p_) S0_) rfl rfl (by decide) (vc_299 2 b_ n_ T_ (.inr p_) S0_ hI_ (by exact ht_) (by exact hx_) (by decide)) (fun u_ Sx1_ px4_ => ?_)
  obtain ⟨vx6_, rfl, hIx2_, hFx3_, px4_⟩ := px4_
  have hFx5_ : ai_fr (sx_W vw_325g) S0_ Sx1_ := ai_fr_tr hF_ (fr_le hFx3_ rfl)
  have a2_ := px4_.1
  have g2_ := px4_.2
  rw [pb_r rfl, show p_du b_ n_ 2 p_ = .inr p_ from if_pos bk_] at g2_
  have t2_ := rtab_fr ht_ hFx3_ rfl rfl rfl rfl rfl
  have nv2_ : Sx1_.2.2.1 121 0 vx6_.toNat = lx_vl b_ n_ p_ := by have q4_ := rp_at t2_ hi_.2; rw [show vx6_.toNat = i_ by omega, q4_.2.2.1, bk_]; rfl
  have v2b : 0 ≤ vx6_ ∧ vx6_ ≤ 1280 := by omega
  have key2_ : ∀ S9_ : sm_S, S9_.2.2.1 121 0 = Sx1_.2.2.1 121 0 → S9_.2.2.1 121 0 vx6_.toNat = lx_vl b_ n_ p_ := fun S9_ q_ => by rw [q_]; exact nv2_
  have w2_ := fr_arr (t := 138) (i := 0) hFx3_ rfl
  have x2_ := fr_arr (t := 139) (i := 0) hFx3_ rfl
  refine sm_T_go 2 (c1 := (7, [some (.inr (.inr (some (13, 0)))), some (.inl wd_), some (.inl vx6_)], [.inr (.inr (some (13, 0)))], Sx1_)) rfl ?_
  refine sm_T_cal (d1 := 0) (Q1 := vq_292  Sx1_) rfl rfl (by decide) (vc_292  Sx1_ hIx2_ ) (fun u_ Sx7_ px10_ => ?_)
  obtain ⟨rfl, vx12_, rfl, px10_⟩ := px10_
  have e7_ := px10_
  have f7_ := g2_.1
  refine sm_T_b0 (a := 0) (z := 20) rfl (fun cx13_ => ?_) (fun cx13_ => ?_)
  · have cx13_ : vx12_ = 0 := of_decide_eq_true cx13_
    exfalso; (rw [if_pos f7_] at e7_; omega)
  · have cx13_ : ¬ (vx12_ = 0) := of_decide_eq_false cx13_
    refine sm_T_go 3 (c1 := (18, [some (.inr (.inr (some (13, 0)))), some (.inl wd_), some (.inl vx6_)], [.inl vx6_, .inr (.inr (some (121, 0)))], Sx1_)) rfl ?_
    refine sm_T_iald (n := 65537) rfl rfl (by omega) (by omega) ?_
    have bx14_ : (-2147483648) ≤ Sx1_.2.2.1 121 0 vx6_.toNat ∧ Sx1_.2.2.1 121 0 vx6_.toNat ≤ 2147483647 := hIx2_.2 121 0 _
    refine sm_T_go 1 (c1 := (20, [some (.inr (.inr (some (13, 0)))), some (.inl wd_), some (.inl vx6_)], [.inl wd_, .inl (Sx1_.2.2.1 121 0 vx6_.toNat)], Sx1_)) rfl ?_
    refine sm_T_br (a := 2) (z := 10) rfl (fun cx15_ => ?_) (fun cx15_ => ?_)
    · have cx15_ : (Sx1_.2.2.1 121 0 vx6_.toNat) < wd_ := of_decide_eq_true cx15_
      refine sm_T_go 1 (c1 := (31, [some (.inr (.inr (some (13, 0)))), some (.inl wd_), some (.inl vx6_)], [.inr (.inr (some (13, 0)))], Sx1_)) rfl ?_
      refine sm_T_cal (d1 := 2) (Q1 := vq_297 b_ n_ T_ (.inr p_) Sx1_) rfl rfl (by decide) (vc_297 b_ n_ T_ (.inr p_) Sx1_ hIx2_ (by exact t2_) (by exact g2_) (by (intro q_ e_; cases e_; omega))) (fun u_ Sx16_ px19_ => ?_)
      obtain ⟨rfl, hIx17_, hFx18_, px19_⟩ := px19_
      have hFx20_ : ai_fr (sx_W vw_325g) S0_ Sx16_ := ai_fr_tr hFx5_ (fr_le hFx18_ rfl)
      have g31_ := px19_.1
      rw [pb_r rfl, ba_] at g31_
      have f35_ := g31_.1
      have nv31_ := key2_ _ (fr_arr (t := 121) (i := 0) hFx18_ rfl)
      have v31_ : Sx16_.1 13 0 34 = (gl_ : Int) := (hFx20_.1 13 0 34 rfl).trans hv_.1
      have w31_ := (fr_arr (t := 138) (i := 0) hFx18_ rfl).trans w2_
      have l31_ := (fr_arr (t := 139) (i := 0) hFx18_ rfl).trans x2_
      refine sm_T_go 1 (c1 := (35, [some (.inr (.inr (some (13, 0)))), some (.inl wd_), some (.inl vx6_)], [.inr (.inr (some (13, 0)))], Sx16_)) rfl ?_
      refine sm_T_cal (d1 := 0) (Q1 := vq_292  Sx16_) rfl rfl (by decide) (vc_292  Sx16_ hIx17_ ) (fun u_ Sx21_ px24_ => ?_)
      obtain ⟨rfl, vx26_, rfl, px24_⟩ := px24_
      have e35_ := px24_
      refine sm_T_b0 (a := 0) (z := 44) rfl (fun cx27_ => ?_) (fun cx27_ => ?_)
      · have cx27_ : vx26_ = 0 := of_decide_eq_true cx27_
        exfalso; (rw [if_pos f35_] at e35_; omega)
      · have cx27_ : ¬ (vx26_ = 0) := of_decide_eq_false cx27_
        have bx28_ : 0 ≤ Sx16_.1 13 0 34 ∧ Sx16_.1 13 0 34 ≤ 1023 := hIx17_.1 13 0 34 rfl
        refine sm_T_go 5 (c1 := (51, [some (.inr (.inr (some (13, 0)))), some (.inl wd_), some (.inl vx6_)], [.inl (Sx16_.1 13 0 34), .inl 8, .inr (.inr (some (139, 0)))], Sx16_)) rfl ?_
        refine sm_T_bin (w := 8 * (Sx16_.1 13 0 34)) rfl (bi_mul (by omega) (by omega) (by omega)) ?_
        refine sm_T_go 5 (c1 := (62, [some (.inr (.inr (some (13, 0)))), some (.inl wd_), some (.inl vx6_)], [.inl (Sx16_.1 13 0 34), .inl 8, .inr (.inr (some (139, 0))), .inl (8 * (Sx16_.1 13 0 34)), .inr (.inr (some (139, 0)))], Sx16_)) rfl ?_
        refine sm_T_bin (w := 8 * (Sx16_.1 13 0 34)) rfl (bi_mul (by omega) (by omega) (by omega)) ?_
        refine sm_T_go 3 (c1 := (68, [some (.inr (.inr (some (13, 0)))), some (.inl wd_), some (.inl vx6_)], [.inl vx6_, .inr (.inr (some (121, 0))), .inl (8 * (Sx16_.1 13 0 34)), .inr (.inr (some (139, 0))), .inl (8 * (Sx16_.1 13 0 34)), .inr (.inr (some (139, 0)))], Sx16_)) rfl ?_
        refine sm_T_iald (n := 65537) rfl rfl (by omega) (by omega) ?_
        have bx29_ : (-2147483648) ≤ Sx16_.2.2.1 121 0 vx6_.toNat ∧ Sx16_.2.2.1 121 0 vx6_.toNat ≤ 2147483647 := hIx17_.2 121 0 _
        refine sm_T_bin (w := 8 * (Sx16_.1 13 0 34) + (Sx16_.2.2.1 121 0 vx6_.toNat)) rfl (bi_add (by omega) (by omega) (by omega)) ?_
        refine sm_T_iald (n := 8192) rfl rfl (by omega) (by omega) ?_
        have bx30_ : 0 ≤ Sx16_.2.2.1 139 0 (8 * (Sx16_.1 13 0 34) + (Sx16_.2.2.1 121 0 vx6_.toNat)).toNat ∧ Sx16_.2.2.1 139 0 (8 * (Sx16_.1 13 0 34) + (Sx16_.2.2.1 121 0 vx6_.toNat)).toNat ≤ 2047 := hIx17_.2 139 0 _
        refine sm_T_iast (n := 8192) rfl rfl (by omega) (by omega) ?_
        have hIx31_ : gi (sm_aI Sx16_ 139 0 (8 * (Sx16_.1 13 0 34)).toNat (Sx16_.2.2.1 139 0 (8 * (Sx16_.1 13 0 34) + (Sx16_.2.2.1 121 0 vx6_.toNat)).toNat)) := gi_aI hIx17_ (show 0 ≤ (Sx16_.2.2.1 139 0 (8 * (Sx16_.1 13 0 34) + (Sx16_.2.2.1 121 0 vx6_.toNat)).toNat) ∧ (Sx16_.2.2.1 139 0 (8 * (Sx16_.1 13 0 34) + (Sx16_.2.2.1 121 0 vx6_.toNat)).toNat) ≤ 2047 from ⟨by omega, by omega⟩)
        have hFx32_ : ai_fr (sx_W vw_325g) S0_ (sm_aI Sx16_ 139 0 (8 * (Sx16_.1 13 0 34)).toNat (Sx16_.2.2.1 139 0 (8 * (Sx16_.1 13 0 34) + (Sx16_.2.2.1 121 0 vx6_.toNat)).toNat)) := ai_fr_tr hFx20_ (ai_fr_aI rfl)
        refine sm_T_go 5 (c1 := (81, [some (.inr (.inr (some (13, 0)))), some (.inl wd_), some (.inl vx6_)], [.inl 1, .inl (Sx16_.1 13 0 34), .inr (.inr (some (138, 0)))], sm_aI Sx16_ 139 0 (8 * (Sx16_.1 13 0 34)).toNat (Sx16_.2.2.1 139 0 (8 * (Sx16_.1 13 0 34) + (Sx16_.2.2.1 121 0 vx6_.toNat)).toNat))) rfl ?_
        refine sm_T_iast (n := 1024) rfl rfl (by omega) (by omega) ?_
        have hIx33_ : gi (sm_aI (sm_aI Sx16_ 139 0 (8 * (Sx16_.1 13 0 34)).toNat (Sx16_.2.2.1 139 0 (8 * (Sx16_.1 13 0 34) + (Sx16_.2.2.1 121 0 vx6_.toNat)).toNat)) 138 0 (Sx16_.1 13 0 34).toNat 1) := gi_aI hIx31_ (show (-2147483648) ≤ 1 ∧ 1 ≤ 2147483647 from ⟨by omega, by omega⟩)
        have hFx34_ : ai_fr (sx_W vw_325g) S0_ (sm_aI (sm_aI Sx16_ 139 0 (8 * (Sx16_.1 13 0 34)).toNat (Sx16_.2.2.1 139 0 (8 * (Sx16_.1 13 0 34) + (Sx16_.2.2.1 121 0 vx6_.toNat)).toNat)) 138 0 (Sx16_.1 13 0 34).toNat 1) := ai_fr_tr hFx32_ (ai_fr_aI rfl)
        refine sm_T_rv rfl ⟨_, _, rfl, rfl, hIx33_, hFx34_, ?_⟩
        refine ⟨g31_, fun j_ => ?_, fun j_ => ?_⟩
        · (try simp only [rd_eq, rd_ne, rf_eq, rf_nk, rf_nt, rd_fa, rd_af, rd_fl, rd_al, rd_lf, rd_la, rd_leq, rd_lne, rd_fr, rd_ar, ne_eq, Nat.reduceEqDiff, not_false_eq_true]); rw [v31_, Int.toNat_natCast, w31_]
        · (try simp only [rd_eq, rd_ne, rf_eq, rf_nk, rf_nt, rd_fa, rd_af, rd_fl, rd_al, rd_lf, rd_la, rd_leq, rd_lne, rd_fr, rd_ar, ne_eq, Nat.reduceEqDiff, not_false_eq_true]); rw [v31_, l31_, nv31_]; rw [show (8 * (gl_ : Int)).toNat = 8 * gl_ by omega, show (8 * (gl_ : Int) + lx_vl b_ n_ p_).toNat = 8 * gl_ + (lx_vl b_ n_ p_).toNat by omega]
    · have cx15_ : ¬ ((Sx1_.2.2.1 121 0 vx6_.toNat) < wd_) := of_decide_eq_false cx15_
      exfalso; omega
