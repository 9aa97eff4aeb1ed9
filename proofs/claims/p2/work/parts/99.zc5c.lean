/-! M_.plainNumber -/
def vw_322g : sx_Wl := ([(13, 9), (13, 10), (13, 11)], [138, 139], [])
def vq_322g (b_ : Nat → Int) (n_ : Nat) (T_ : Nat) (p_ : Nat) (gl_ : Nat) (r_ : Nat × Int × List Int) (S0_ : sm_S) (u_ : Option sm_V) (S1_ : sm_S) : Prop := u_ = none ∧ gi S1_ ∧ ai_fr (sx_W vw_322g) S0_ S1_ ∧ (rg b_ n_ T_ (.inr r_.1) S1_ ∧ rowat gl_ r_.2.1 (fun j_ => i_shr (lx_vl b_ n_ p_) (j_ : Int) % 2) S0_ S1_)
set_option maxHeartbeats 1000000 in
theorem vl_322g {sc_ : Nat × (Nat → Int)} (b_ : Nat → Int) (n_ : Nat) (T_ : Nat) (p_ : Nat) (gl_ : Nat) (r_ : Nat × Int × List Int) (S0_ : sm_S) (ht_ : rtab b_ n_ T_ S0_) (hx_ : rg b_ n_ T_ (.inr p_) S0_) (hv_ : (S0_.1 13 0 34) = (gl_ : Int) ∧ gl_ ≤ 1000) (hmo_ : (S0_.1 13 0 27) = 1) (hk_ : lx_kd b_ n_ p_ = 2) (hc_ : p_co b_ n_ p_ = .inr r_) : ∀ nn_ : Nat, (∀ (a_ : Int) (k_ : Int) (S_ : sm_S), gi S_ → ai_fr (sx_W vw_322g) S0_ S_ → ((0 ≤ k_ ∧ k_ ≤ 8 ∧ 0 ≤ a_ ∧ a_ ≤ 1280) ∧ (rg b_ n_ T_ (.inr r_.1) S_) ∧ (S_.2.2.1 121 0 a_.toNat = lx_vl b_ n_ p_) ∧ (∀ j_, S_.2.2.1 138 0 j_ = if j_ = gl_ then r_.2.1 else S0_.2.2.1 138 0 j_) ∧ (∀ j_, j_ < k_.toNat → S_.2.2.1 139 0 (8 * gl_ + j_) = i_shr (lx_vl b_ n_ p_) (j_ : Int) % 2) ∧ (∀ j_, j_ < 8 * gl_ ∨ 8 * gl_ + 8 ≤ j_ → S_.2.2.1 139 0 j_ = S0_.2.2.1 139 0 j_) ∧ True) → ((8 - k_).toNat) < nn_ → sm_T (mt_P sc_) 4 322 (102, [some (.inr (.inr (some (13, 0)))), some (.inl a_), none, some (.inl k_)], [], S_) (fun ro9_ => ∃ u_ S1_, ro9_ = (.inl u_, S1_, 0) ∧ vq_322g b_ n_ T_ p_ gl_ r_ S0_ u_ S1_)) := by
  intro nn_
  induction nn_ with
  | zero => exact fun _ _ _ _ _ _ h_ => absurd h_ (Nat.not_lt_zero _)
  | succ nn_ ih_ =>
    rintro a_ k_ S_ hI_ hF_ ⟨h0_, h4_, hna_, h1_, h2_, h3_, -⟩ hm_
    have v1_ : S_.1 13 0 34 = (gl_ : Int) := (hF_.1 13 0 34 rfl).trans hv_.1
    refine sm_T_go 2 (c1 := (105, [some (.inr (.inr (some (13, 0)))), some (.inl a_), none, some (.inl k_)], [.inl 8, .inl k_], S_)) rfl ?_
    refine sm_T_br (a := 3) (z := 33) rfl (fun cx1_ => ?_) (fun cx1_ => ?_)
    · have cx1_ : 8 ≤ k_ := of_decide_eq_true cx1_
      refine sm_T_rv rfl ⟨_, _, rfl, rfl, hI_, hF_, ?_⟩
      exact ⟨h4_, h1_, fun j_ hj_ => h2_ j_ (by omega), h3_⟩
    · have cx1_ : ¬ (8 ≤ k_) := of_decide_eq_false cx1_
      have bx2_ : 0 ≤ S_.1 13 0 34 ∧ S_.1 13 0 34 ≤ 1023 := hI_.1 13 0 34 rfl
      refine sm_T_go 5 (c1 := (118, [some (.inr (.inr (some (13, 0)))), some (.inl a_), none, some (.inl k_)], [.inl (S_.1 13 0 34), .inl 8, .inr (.inr (some (139, 0)))], S_)) rfl ?_
      refine sm_T_bin (w := 8 * (S_.1 13 0 34)) rfl (bi_mul (by omega) (by omega) (by omega)) ?_
      refine sm_T_go 1 (c1 := (120, [some (.inr (.inr (some (13, 0)))), some (.inl a_), none, some (.inl k_)], [.inl k_, .inl (8 * (S_.1 13 0 34)), .inr (.inr (some (139, 0)))], S_)) rfl ?_
      refine sm_T_bin (w := 8 * (S_.1 13 0 34) + k_) rfl (bi_add (by omega) (by omega) (by omega)) ?_
      refine sm_T_go 3 (c1 := (126, [some (.inr (.inr (some (13, 0)))), some (.inl a_), none, some (.inl k_)], [.inl a_, .inr (.inr (some (121, 0))), .inl (8 * (S_.1 13 0 34) + k_), .inr (.inr (some (139, 0)))], S_)) rfl ?_
      refine sm_T_iald (n := 65537) rfl rfl (by omega) (by omega) ?_
      have bx3_ : (-2147483648) ≤ S_.2.2.1 121 0 a_.toNat ∧ S_.2.2.1 121 0 a_.toNat ≤ 2147483647 := hI_.2 121 0 _
      refine sm_T_go 1 (c1 := (128, [some (.inr (.inr (some (13, 0)))), some (.inl a_), none, some (.inl k_)], [.inl k_, .inl (S_.2.2.1 121 0 a_.toNat), .inl (8 * (S_.1 13 0 34) + k_), .inr (.inr (some (139, 0)))], S_)) rfl ?_
      refine sm_T_bin (w := (i_shr (S_.2.2.1 121 0 a_.toNat) k_)) rfl rfl ?_
      refine sm_T_go 1 (c1 := (130, [some (.inr (.inr (some (13, 0)))), some (.inl a_), none, some (.inl k_)], [.inl 1, .inl (i_shr (S_.2.2.1 121 0 a_.toNat) k_), .inl (8 * (S_.1 13 0 34) + k_), .inr (.inr (some (139, 0)))], S_)) rfl ?_
      refine sm_T_bin (w := ((i_shr (S_.2.2.1 121 0 a_.toNat) k_) % 2)) rfl (bi_msk (k := 1) (by decide)) ?_
      refine sm_T_iast (n := 8192) rfl rfl (by omega) (by omega) ?_
      have hIx4_ : gi (sm_aI S_ 139 0 (8 * (S_.1 13 0 34) + k_).toNat ((i_shr (S_.2.2.1 121 0 a_.toNat) k_) % 2)) := gi_aI hI_ (show 0 ≤ ((i_shr (S_.2.2.1 121 0 a_.toNat) k_) % 2) ∧ ((i_shr (S_.2.2.1 121 0 a_.toNat) k_) % 2) ≤ 2047 from ⟨by omega, by omega⟩)
      have hFx5_ : ai_fr (sx_W vw_322g) S0_ (sm_aI S_ 139 0 (8 * (S_.1 13 0 34) + k_).toNat ((i_shr (S_.2.2.1 121 0 a_.toNat) k_) % 2)) := ai_fr_tr hF_ (ai_fr_aI rfl)
      refine sm_T_inc (a := 3) (z := 1) (v := k_) (w := k_ + 1) rfl rfl (by omega) (by omega) (by omega) ?_
      refine sm_T_go 1 (c1 := (102, [some (.inr (.inr (some (13, 0)))), some (.inl a_), none, some (.inl (k_ + 1))], [], sm_aI S_ 139 0 (8 * (S_.1 13 0 34) + k_).toNat ((i_shr (S_.2.2.1 121 0 a_.toNat) k_) % 2))) rfl ?_
      refine ih_ a_ (k_ + 1) (sm_aI S_ 139 0 (8 * (S_.1 13 0 34) + k_).toNat ((i_shr (S_.2.2.1 121 0 a_.toNat) k_) % 2)) hIx4_ hFx5_ ⟨?_, ?_, ?_, ?_, ?_, ?_, trivial⟩ ?_
      · omega
      · exact h4_
      · (rw [rd_ne (by decide)]; exact hna_)
      · (intro j_; rw [rd_ne (by decide)]; exact h1_ j_)
      · intro j_ hj_
        by_cases z_ : j_ < k_.toNat
        · rw [rd_eq, if_neg (by omega)]; exact h2_ j_ z_
        · have zj_ : j_ = k_.toNat := by omega
          rw [rd_eq, if_pos (by omega), zj_, hna_, show ((k_.toNat : Nat) : Int) = k_ by omega]
      · (intro j_ hj_; rw [rd_eq, if_neg (by omega)]; exact h3_ j_ hj_)
      · omega
set_option maxHeartbeats 1000000 in
theorem vc_322g {sc_ : Nat × (Nat → Int)} (b_ : Nat → Int) (n_ : Nat) (T_ : Nat) (p_ : Nat) (gl_ : Nat) (r_ : Nat × Int × List Int) (S0_ : sm_S) (hI_ : gi S0_) (ht_ : rtab b_ n_ T_ S0_) (hx_ : rg b_ n_ T_ (.inr p_) S0_) (hv_ : (S0_.1 13 0 34) = (gl_ : Int) ∧ gl_ ≤ 1000) (hmo_ : (S0_.1 13 0 27) = 1) (hk_ : lx_kd b_ n_ p_ = 2) (hc_ : p_co b_ n_ p_ = .inr r_) : sm_T (mt_P sc_) 4 322 (0, [some (.inr (.inr (some (13, 0)))), none, none, none], [], S0_) (fun ro9_ => ∃ u_ S1_, ro9_ = (.inl u_, S1_, 0) ∧ vq_322g b_ n_ T_ p_ gl_ r_ S0_ u_ S1_) := by
  have hF_ : ai_fr (sx_W vw_322g) S0_ S0_ := ai_fr_rf
  obtain ⟨i_, hi_⟩ := id hx_.2
  have hi9_ := hi_.2.1
  have hT_ := ht_.2.1
  have hf_ := hx_.1
  obtain ⟨q_, r3_, u_, c1_, c2_, c3_, c4_, c5_, c6_, c7_, hr_⟩ := co_r hc_
  have vp0_ := lx_vl_0 hk_
  have bx1_ : 0 ≤ S0_.1 13 0 9 ∧ S0_.1 13 0 9 ≤ 1280 := hI_.1 13 0 9 rfl
  refine sm_T_go 4 (c1 := (6, [some (.inr (.inr (some (13, 0)))), some (.inl (S0_.1 13 0 9)), none, none], [.inr (.inr (some (13, 0)))], S0_)) rfl ?_
  refine sm_T_cal (d1 := 2) (Q1 := vq_297 b_ n_ T_ (.inr p_) S0_) rfl rfl (by decide) (vc_297 b_ n_ T_ (.inr p_) S0_ hI_ (by exact ht_) (by exact hx_) (by (intro q_ e_; cases e_; omega))) (fun u_ Sx2_ px5_ => ?_)
  obtain ⟨rfl, hIx3_, hFx4_, px5_⟩ := px5_
  have hFx6_ : ai_fr (sx_W vw_322g) S0_ Sx2_ := ai_fr_tr hF_ (fr_le hFx4_ rfl)
  have g6_ := px5_.1
  rw [pb_r rfl, c1_] at g6_
  have w6_ := fr_arr (t := 138) (i := 0) hFx4_ rfl
  have x6_ := fr_arr (t := 139) (i := 0) hFx4_ rfl
  have t6_ := rtab_fr ht_ hFx4_ rfl rfl rfl rfl rfl
  refine sm_T_go 2 (c1 := (12, [some (.inr (.inr (some (13, 0)))), some (.inl (S0_.1 13 0 9)), none, none], [.inl 64, .inr (.inr (some (13, 0)))], Sx2_)) rfl ?_
  refine sm_T_cal (d1 := 3) (Q1 := vq_300 64 b_ n_ T_ (.inr q_) Sx2_) rfl rfl (by decide) (vc_300 64 b_ n_ T_ (.inr q_) Sx2_ hIx3_ (by exact t6_) (by exact g6_) (by decide)) (fun u_ Sx7_ px10_ => ?_)
  obtain ⟨rfl, hIx8_, hFx9_, px10_⟩ := px10_
  have hFx11_ : ai_fr (sx_W vw_322g) S0_ Sx7_ := ai_fr_tr hFx6_ (fr_le hFx9_ rfl)
  have g12_ := px10_
  rw [pb_r rfl, show p_nd b_ n_ 64 q_ = .inr r3_ from (if_pos c2_).trans c3_] at g12_
  have w12_ := (fr_arr (t := 138) (i := 0) hFx9_ rfl).trans w6_
  have x12_ := (fr_arr (t := 139) (i := 0) hFx9_ rfl).trans x6_
  have t12_ := rtab_fr t6_ hFx9_ rfl rfl rfl rfl rfl
  refine sm_T_go 2 (c1 := (17, [some (.inr (.inr (some (13, 0)))), some (.inl (S0_.1 13 0 9)), none, none], [.inl 2, .inr (.inr (some (13, 0)))], Sx7_)) rfl ?_
  refine sm_T_cal (d1 := 1) (Q1 := vq_299 2 b_ n_ T_ (.inr r3_) Sx7_) rfl rfl (by decide) (vc_299 2 b_ n_ T_ (.inr r3_) Sx7_ hIx8_ (by exact t12_) (by exact g12_) (by decide)) (fun u_ Sx12_ px15_ => ?_)
  obtain ⟨vx17_, rfl, hIx13_, hFx14_, px15_⟩ := px15_
  have hFx16_ : ai_fr (sx_W vw_322g) S0_ Sx12_ := ai_fr_tr hFx11_ (fr_le hFx14_ rfl)
  have a17_ := px15_.1
  have g17_ := px15_.2
  rw [pb_r rfl, show p_du b_ n_ 2 r3_ = .inr r3_ from if_pos c4_] at g17_
  have w17_ := (fr_arr (t := 138) (i := 0) hFx14_ rfl).trans w12_
  have x17_ := (fr_arr (t := 139) (i := 0) hFx14_ rfl).trans x12_
  have t17_ := rtab_fr t12_ hFx14_ rfl rfl rfl rfl rfl
  have at17_ := hFx14_.1 13 0 9 rfl
  obtain ⟨i3_, j1_, j2_⟩ := id g17_.2
  have v17b : 0 ≤ vx17_ ∧ vx17_ ≤ 1280 := by rw [a17_, ← at17_]; exact hIx13_.1 13 0 9 rfl
  have nv17_ : Sx12_.2.2.1 121 0 vx17_.toNat = lx_vl b_ n_ r3_ := by have q4_ := rp_at t17_ j2_; rw [show vx17_.toNat = i3_ by omega, q4_.2.2.1, c4_]; rfl
  have f17_ := g17_.1
  have key17_ : ∀ S9_ : sm_S, S9_.2.2.1 121 0 = Sx12_.2.2.1 121 0 → S9_.2.2.1 121 0 vx17_.toNat = lx_vl b_ n_ r3_ := fun S9_ q_ => by rw [q_]; exact nv17_
  refine sm_T_go 2 (c1 := (22, [some (.inr (.inr (some (13, 0)))), some (.inl (S0_.1 13 0 9)), some (.inl vx17_), none], [.inr (.inr (some (13, 0)))], Sx12_)) rfl ?_
  refine sm_T_cal (d1 := 0) (Q1 := vq_292  Sx12_) rfl rfl (by decide) (vc_292  Sx12_ hIx13_ ) (fun u_ Sx18_ px21_ => ?_)
  obtain ⟨rfl, vx23_, rfl, px21_⟩ := px21_
  have e22_ := px21_
  refine sm_T_b0 (a := 0) (z := 25) rfl (fun cx24_ => ?_) (fun cx24_ => ?_)
  · have cx24_ : vx23_ = 0 := of_decide_eq_true cx24_
    exfalso; (rw [if_pos f17_] at e22_; omega)
  · have cx24_ : ¬ (vx23_ = 0) := of_decide_eq_false cx24_
    refine sm_T_go 3 (c1 := (33, [some (.inr (.inr (some (13, 0)))), some (.inl (S0_.1 13 0 9)), some (.inl vx17_), none], [.inl vx17_, .inr (.inr (some (121, 0)))], Sx12_)) rfl ?_
    refine sm_T_iald (n := 65537) rfl rfl (by omega) (by omega) ?_
    have bx25_ : (-2147483648) ≤ Sx12_.2.2.1 121 0 vx17_.toNat ∧ Sx12_.2.2.1 121 0 vx17_.toNat ≤ 2147483647 := hIx13_.2 121 0 _
    refine sm_T_go 2 (c1 := (37, [some (.inr (.inr (some (13, 0)))), some (.inl (S0_.1 13 0 9)), some (.inl vx17_), none], [.inl 8, .inl 1, .inl (Sx12_.2.2.1 121 0 vx17_.toNat)], Sx12_)) rfl ?_
    refine sm_T_cal (d1 := 0) (Q1 := vq_278 (Sx12_.2.2.1 121 0 vx17_.toNat) 1 8 Sx12_) rfl rfl (by decide) (vc_278 (Sx12_.2.2.1 121 0 vx17_.toNat) 1 8 Sx12_ hIx13_ ) (fun u_ Sx26_ px29_ => ?_)
    obtain ⟨rfl, vx31_, rfl, px29_⟩ := px29_
    have e37_ := px29_
    refine sm_T_b0 (a := 1) (z := 10) rfl (fun cx32_ => ?_) (fun cx32_ => ?_)
    · have cx32_ : vx31_ ≠ 0 := of_decide_eq_true cx32_
      refine sm_T_go 1 (c1 := (51, [some (.inr (.inr (some (13, 0)))), some (.inl (S0_.1 13 0 9)), some (.inl vx17_), none], [.inr (.inr (some (13, 0)))], Sx12_)) rfl ?_
      refine sm_T_cal (d1 := 2) (Q1 := vq_297 b_ n_ T_ (.inr r3_) Sx12_) rfl rfl (by decide) (vc_297 b_ n_ T_ (.inr r3_) Sx12_ hIx13_ (by exact t17_) (by exact g17_) (by (intro q9_ e_; cases e_; omega))) (fun u_ Sx33_ px36_ => ?_)
      obtain ⟨rfl, hIx34_, hFx35_, px36_⟩ := px36_
      have hFx37_ : ai_fr (sx_W vw_322g) S0_ Sx33_ := ai_fr_tr hFx16_ (fr_le hFx35_ rfl)
      have g51_ := px36_.1
      rw [pb_r rfl, c6_] at g51_
      have f51_ := g51_.1
      have t51_ := rtab_fr t17_ hFx35_ rfl rfl rfl rfl rfl
      have nv51_ := key17_ _ (fr_arr (t := 121) (i := 0) hFx35_ rfl)
      have na51_ : Sx33_.2.2.1 121 0 (S0_.1 13 0 9).toNat = lx_vl b_ n_ p_ := by rw [show (S0_.1 13 0 9).toNat = i_ by omega, (rp_at t51_ hi_.2).2.2.1, hk_]; rfl
      have v51_ : Sx33_.1 13 0 34 = (gl_ : Int) := (hFx37_.1 13 0 34 rfl).trans hv_.1
      have w51_ := (fr_arr (t := 138) (i := 0) hFx35_ rfl).trans w17_
      have l51_ := (fr_arr (t := 139) (i := 0) hFx35_ rfl).trans x17_
      refine sm_T_go 1 (c1 := (55, [some (.inr (.inr (some (13, 0)))), some (.inl (S0_.1 13 0 9)), some (.inl vx17_), none], [.inr (.inr (some (13, 0)))], Sx33_)) rfl ?_
      refine sm_T_cal (d1 := 0) (Q1 := vq_292  Sx33_) rfl rfl (by decide) (vc_292  Sx33_ hIx34_ ) (fun u_ Sx38_ px41_ => ?_)
      obtain ⟨rfl, vx43_, rfl, px41_⟩ := px41_
      have e55_ := px41_
      refine sm_T_b0 (a := 0) (z := 27) rfl (fun cx44_ => ?_) (fun cx44_ => ?_)
      · have cx44_ : vx43_ = 0 := of_decide_eq_true cx44_
        exfalso; (rw [if_pos f51_] at e55_; omega)
      · have cx44_ : ¬ (vx43_ = 0) := of_decide_eq_false cx44_
        refine sm_T_go 3 (c1 := (66, [some (.inr (.inr (some (13, 0)))), some (.inl (S0_.1 13 0 9)), some (.inl vx17_), none], [.inl (S0_.1 13 0 9), .inr (.inr (some (121, 0)))], Sx33_)) rfl ?_
        refine sm_T_iald (n := 65537) rfl rfl (by omega) (by omega) ?_
        have bx45_ : (-2147483648) ≤ Sx33_.2.2.1 121 0 (S0_.1 13 0 9).toNat ∧ Sx33_.2.2.1 121 0 (S0_.1 13 0 9).toNat ≤ 2147483647 := hIx34_.2 121 0 _
        refine sm_T_go 4 (c1 := (73, [some (.inr (.inr (some (13, 0)))), some (.inl (S0_.1 13 0 9)), some (.inl vx17_), none], [.inl vx17_, .inr (.inr (some (121, 0))), .inl 1, .inl (Sx33_.2.2.1 121 0 (S0_.1 13 0 9).toNat)], Sx33_)) rfl ?_
        refine sm_T_iald (n := 65537) rfl rfl (by omega) (by omega) ?_
        have bx46_ : (-2147483648) ≤ Sx33_.2.2.1 121 0 vx17_.toNat ∧ Sx33_.2.2.1 121 0 vx17_.toNat ≤ 2147483647 := hIx34_.2 121 0 _
        refine sm_T_bin (w := (i_shl 1 (Sx33_.2.2.1 121 0 vx17_.toNat))) rfl rfl ?_
        refine sm_T_br (a := 2) (z := 10) rfl (fun cx47_ => ?_) (fun cx47_ => ?_)
        · have cx47_ : (Sx33_.2.2.1 121 0 (S0_.1 13 0 9).toNat) < (i_shl 1 (Sx33_.2.2.1 121 0 vx17_.toNat)) := of_decide_eq_true cx47_
          have bx48_ : 0 ≤ Sx33_.1 13 0 34 ∧ Sx33_.1 13 0 34 ≤ 1023 := hIx34_.1 13 0 34 rfl
          refine sm_T_go 7 (c1 := (98, [some (.inr (.inr (some (13, 0)))), some (.inl (S0_.1 13 0 9)), some (.inl vx17_), none], [.inl vx17_, .inr (.inr (some (121, 0))), .inl (Sx33_.1 13 0 34), .inr (.inr (some (138, 0)))], Sx33_)) rfl ?_
          refine sm_T_iald (n := 65537) rfl rfl (by omega) (by omega) ?_
          refine sm_T_iast (n := 1024) rfl rfl (by omega) (by omega) ?_
          have hIx49_ : gi (sm_aI Sx33_ 138 0 (Sx33_.1 13 0 34).toNat (Sx33_.2.2.1 121 0 vx17_.toNat)) := gi_aI hIx34_ (show (-2147483648) ≤ (Sx33_.2.2.1 121 0 vx17_.toNat) ∧ (Sx33_.2.2.1 121 0 vx17_.toNat) ≤ 2147483647 from ⟨by omega, by omega⟩)
          have hFx50_ : ai_fr (sx_W vw_322g) S0_ (sm_aI Sx33_ 138 0 (Sx33_.1 13 0 34).toNat (Sx33_.2.2.1 121 0 vx17_.toNat)) := ai_fr_tr hFx37_ (ai_fr_aI rfl)
          refine sm_T_go 2 (c1 := (102, [some (.inr (.inr (some (13, 0)))), some (.inl (S0_.1 13 0 9)), some (.inl vx17_), some (.inl 0)], [], sm_aI Sx33_ 138 0 (Sx33_.1 13 0 34).toNat (Sx33_.2.2.1 121 0 vx17_.toNat))) rfl ?_
          refine sm_T_wk [some (.inr (.inr (some (13, 0)))), some (.inl (S0_.1 13 0 9)), none, some (.inl 0)] (by exact ⟨rfl, rfl, rfl, trivial⟩) ?_
          refine (vl_322g b_ n_ T_ p_ gl_ r_ S0_ ht_ hx_ hv_ hmo_ hk_ hc_ _) (S0_.1 13 0 9) 0 (sm_aI Sx33_ 138 0 (Sx33_.1 13 0 34).toNat (Sx33_.2.2.1 121 0 vx17_.toNat)) hIx49_ hFx50_ ⟨?_, ?_, ?_, ?_, ?_, ?_, trivial⟩ (Nat.lt_succ_self _)
          · omega
          · (rw [hr_]; exact g51_)
          · exact na51_
          · (intro j_; rw [hr_]; (try simp only [rd_eq, rd_ne, rf_eq, rf_nk, rf_nt, rd_fa, rd_af, rd_fl, rd_al, rd_lf, rd_la, rd_leq, rd_lne, rd_fr, rd_ar, ne_eq, Nat.reduceEqDiff, not_false_eq_true]); rw [v51_, Int.toNat_natCast, w51_, nv51_])
          · (intro j_ hj_; exact absurd hj_ (Nat.not_lt_zero _))
          · (intro j_ hj_; rw [rd_ne (by decide), l51_])
        · have cx47_ : ¬ ((Sx33_.2.2.1 121 0 (S0_.1 13 0 9).toNat) < (i_shl 1 (Sx33_.2.2.1 121 0 vx17_.toNat))) := of_decide_eq_false cx47_
          exfalso; (have z_ := (shl_ge (x_ := lx_vl b_ n_ p_) (w_ := lx_vl b_ n_ r3_) vp0_ c5_).mp (by rw [← na51_, ← nv51_]; omega); exact z_ c7_)
    · have cx32_ : ¬ (vx31_ ≠ 0) := of_decide_eq_false cx32_
      exfalso; (have z_ := e37_.2.mpr (by omega); omega)
