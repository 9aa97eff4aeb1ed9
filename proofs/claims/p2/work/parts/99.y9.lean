/-! the reference: constants; written by wip/p55/gen/vg -/

/-! constants -/
def p_c3 (b_ : Nat → Int) (n_ p_ : Nat) : pE Nat := pb (pb (pb (.inr p_) (p_ad b_ n_)) (p_nd b_ n_ 64)) (p_du b_ n_ 2)
theorem c3_w {b_ : Nat → Int} {n_ p_ : Nat} {e_ : Int × Nat} (h_ : p_c3 b_ n_ p_ = .inl e_) : p_co b_ n_ p_ = .inl e_ := by
  unfold p_c3 at h_
  rw [pb_r rfl] at h_
  unfold p_co
  cases h1_ : p_ad b_ n_ p_ with
  | inl z_ => rw [h1_] at h_; cases h_; rfl
  | inr q_ =>
    rw [h1_, pb_r rfl] at h_
    rw [pb_r rfl]
    unfold p_nd at h_
    split at h_
    · rename_i g_
      rw [if_pos g_]
      cases h2_ : p_ad b_ n_ q_ with
      | inl z_ => rw [h2_] at h_; cases h_; rfl
      | inr r_ =>
        rw [h2_, pb_r rfl] at h_
        rw [pb_r rfl]
        unfold p_du at h_
        unfold p_nu
        split at h_
        · cases h_
        · rename_i g2_
          cases h_
          rw [if_neg g2_]
          rfl
    · rename_i g_
      cases h_
      rw [if_neg g_]
theorem c3_r {b_ : Nat → Int} {n_ p_ r_ : Nat} (h_ : p_c3 b_ n_ p_ = .inr r_) : lx_kd b_ n_ r_ = 2 ∧ p_co b_ n_ p_ = if lx_vl b_ n_ r_ < 1 ∨ 8 < lx_vl b_ n_ r_ then .inl (12, r_) else pb (p_ad b_ n_ r_) fun u_ => if lx_vl b_ n_ p_ / 2 ^ (lx_vl b_ n_ r_).toNat = 0 then .inr (u_, lx_vl b_ n_ r_, [cw 8 (lx_vl b_ n_ r_) (lx_vl b_ n_ p_)]) else .inl (12, p_) := by
  obtain ⟨r1_, h1_, h2_⟩ := pb_inr h_
  obtain ⟨q_, h3_, h4_⟩ := pb_inr h1_
  rw [pb_r rfl] at h3_
  unfold p_nd at h4_
  split at h4_
  · rename_i g_
    unfold p_du at h2_
    split at h2_
    · rename_i g2_
      cases h2_
      refine ⟨g2_, ?_⟩
      unfold p_co
      rw [pb_r h3_, if_pos g_, pb_r h4_]
      unfold p_nu
      rw [if_pos g2_]
      split
      · rfl
      · rfl
    · cases h2_
  · cases h4_
theorem shl_ge {x_ w_ : Int} (hx_ : 0 ≤ x_) (hw_ : 1 ≤ w_ ∧ w_ ≤ 8) : i_shl 1 w_ ≤ x_ ↔ ¬ (x_ / 2 ^ w_.toNat = 0) := by
  rw [i_shl1 (by omega) (by omega)]
  have h1_ := pw_8 w_.toNat (by omega)
  generalize (2 : Int) ^ w_.toNat = y_ at *
  constructor
  · intro h_
    have := Int.le_ediv_of_mul_le (show 0 < y_ by omega) (show 1 * y_ ≤ x_ by omega)
    omega
  · intro h_
    by_cases g_ : y_ ≤ x_
    · exact g_
    · exact absurd (Int.ediv_eq_zero_of_lt hx_ (by omega)) h_
theorem rt_if {v_ f_ : Int} (h_ : v_ = if f_ = 0 then 1 else 0) (hv_ : v_ ≠ 0) : f_ = 0 := by
  by_cases z_ : f_ = 0
  · exact z_
  · rw [if_neg z_] at h_; exact absurd h_ hv_
theorem wr_if {v_ f_ : Int} (h_ : v_ = if f_ = 0 then 1 else 0) (hv_ : v_ = 0) : f_ ≠ 0 := by
  intro z_
  rw [if_pos z_] at h_
  omega
/-! M_.plainNumber -/
def vw_322 : sx_Wl := ([(13, 9), (13, 10), (13, 11)], [138, 139], [])
def vq_322 (b_ : Nat → Int) (n_ : Nat) (T_ : Nat) (mo_ : Int) (p_ : Nat) (i_ : Nat) (gl_ : Nat) (S0_ : sm_S) (u_ : Option sm_V) (S1_ : sm_S) : Prop := u_ = none ∧ gi S1_ ∧ ai_fr (sx_W vw_322) S0_ S1_ ∧ ((∀ e_, p_co b_ n_ p_ = .inl e_ → rwr mo_ e_ S1_) ∧ (∀ r_, p_co b_ n_ p_ = .inr r_ → rg b_ n_ T_ (.inr r_.1) S1_ ∧ ∀ l_ : List Int, l_.length = gl_ → stk (S0_.2.2.1 138 0) l_ → stk (S1_.2.2.1 138 0) (r_.2.1 :: l_)))
set_option maxHeartbeats 1500000 in
theorem vl_322 {sc_ : Nat × (Nat → Int)} (b_ : Nat → Int) (n_ : Nat) (T_ : Nat) (mo_ : Int) (p_ : Nat) (i_ : Nat) (gl_ : Nat) (S0_ : sm_S) (ht_ : rtab b_ n_ T_ S0_) (hf_ : (S0_.1 13 0 10) = 0) (hi_ : (S0_.1 13 0 9) = (i_ : Int) ∧ rp b_ n_ T_ i_ p_) (hv_ : (S0_.1 13 0 34) = (gl_ : Int) ∧ gl_ ≤ 1000) (hmo_ : (S0_.1 13 0 27) = mo_) (hw_ : (S0_.1 13 0 32) ≤ 800) (hk_ : lx_kd b_ n_ p_ = 2) (hm2_ : mo_ ≠ 2) (vp0_ : 0 ≤ lx_vl b_ n_ p_) : ∀ nn_ : Nat, (∀ (a_ : Int) (k_ : Int) (S_ : sm_S), gi S_ → ai_fr (sx_W vw_322) S0_ S_ → ((0 ≤ k_ ∧ k_ ≤ 8 ∧ 0 ≤ a_ ∧ a_ ≤ 1280) ∧ ((∀ e_, p_co b_ n_ p_ = .inl e_ → rwr mo_ e_ S_) ∧ (∀ r_, p_co b_ n_ p_ = .inr r_ → rg b_ n_ T_ (.inr r_.1) S_ ∧ ∀ l_ : List Int, l_.length = gl_ → stk (S0_.2.2.1 138 0) l_ → stk (S_.2.2.1 138 0) (r_.2.1 :: l_))) ∧ True) → ((8 - k_).toNat) < nn_ → sm_T (mt_P sc_) 4 322 (102, [some (.inr (.inr (some (13, 0)))), some (.inl a_), none, some (.inl k_)], [], S_) (fun r_ => ∃ u_ S1_, r_ = (.inl u_, S1_, 0) ∧ vq_322 b_ n_ T_ mo_ p_ i_ gl_ S0_ u_ S1_)) := by
  intro nn_
  induction nn_ with
  | zero => exact fun _ _ _ _ _ _ h_ => absurd h_ (Nat.not_lt_zero _)
  | succ nn_ ih_ =>
    rintro a_ k_ S_ hI_ hF_ ⟨h0_, h1_, -⟩ hm_
    refine sm_T_go 2 (c1 := (105, [some (.inr (.inr (some (13, 0)))), some (.inl a_), none, some (.inl k_)], [.inl 8, .inl k_], S_)) rfl ?_
    refine sm_T_br (a := 3) (z := 33) rfl (fun cx1_ => ?_) (fun cx1_ => ?_)
    · have cx1_ : 8 ≤ k_ := of_decide_eq_true cx1_
      refine sm_T_rv rfl ⟨_, _, rfl, rfl, hI_, hF_, ?_⟩
      exact h1_
    · have cx1_ : ¬ (8 ≤ k_) := of_decide_eq_false cx1_
      have bx2_ : 0 ≤ S_.1 13 0 34 ∧ S_.1 13 0 34 ≤ 1023 := hI_.1 13 0 34 rfl
      refine sm_T_go 5 (c1 := (118, [some (.inr (.inr (some (13, 0)))), some (.inl a_), none, some (.inl k_)], [.inl (S_.1 13 0 34), .inl 8, .inr (.inr (some (139, 0)))], S_)) rfl ?_
      refine sm_T_bin (w := 8 * (S_.1 13 0 34)) rfl (bi_mul (by omega) (by omega) (by omega)) ?_
      refine sm_T_go 1 (c1 := (120, [some (.inr (.inr (some (13, 0)))), some (.inl a_), none, some (.inl k_)], [.inl k_, .inl (8 * (S_.1 13 0 34)), .inr (.inr (some (139, 0)))], S_)) rfl ?_
      refine sm_T_bin (w := 8 * (S_.1 13 0 34) + k_) rfl (bi_add (by omega) (by omega) (by omega)) ?_
      refine sm_T_go 3 (c1 := (126, [some (.inr (.inr (some (13, 0)))), some (.inl a_), none, some (.inl k_)], [.inl a_, .inr (.inr (some (121, 0))), .inl (8 * (S_.1 13 0 34) + k_), .inr (.inr (some (139, 0)))], S_)) rfl ?_
      refine sm_T_iald (n := 65537) rfl rfl (by omega) (by omega) ?_
      have bx3_ : (-2147483648) ≤ S_.2.2.1 121 0 a_.toNat ∧ S_.2.2.1 121 0 a_.toNat ≤ 2147483647 := hI_.2 121 0 _
      refine sm_T_go 1 (c1 := (128, [some (.inr (.inr (some (13, 0)))), some (.inl a_), none, some (.inl k_)], [.inl k_, .inl (S_.2.2.1 121 0 a_.toNat), .inl (8 * (S_.1 13 0 34) + k_), .inr (.inr (some (139, 0)))], S_)) rfl ?_
      refine sm_T_bin (w := (i_shr (S_.2.2.1 121 0 a_.toNat) k_)) rfl rfl ?_
      refine sm_T_go 1 (c1 := (130, [some (.inr (.inr (some (13, 0)))), some (.inl a_), none, some (.inl k_)], [.inl 1, .inl (i_shr (S_.2.2.1 121 0 a_.toNat) k_), .inl (8 * (S_.1 13 0 34) + k_), .inr (.inr (some (139, 0)))], S_)) rfl ?_
      refine sm_T_bin (w := ((i_shr (S_.2.2.1 121 0 a_.toNat) k_) % 2)) rfl (bi_msk (k := 1) (by decide)) ?_
      refine sm_T_iast (n := 8192) rfl rfl (by omega) (by omega) ?_
      have hIx4_ : gi (sm_aI S_ 139 0 (8 * (S_.1 13 0 34) + k_).toNat ((i_shr (S_.2.2.1 121 0 a_.toNat) k_) % 2)) := gi_aI hI_ (show 0 ≤ ((i_shr (S_.2.2.1 121 0 a_.toNat) k_) % 2) ∧ ((i_shr (S_.2.2.1 121 0 a_.toNat) k_) % 2) ≤ 2047 from ⟨by omega, by omega⟩)
      have hFx5_ : ai_fr (sx_W vw_322) S0_ (sm_aI S_ 139 0 (8 * (S_.1 13 0 34) + k_).toNat ((i_shr (S_.2.2.1 121 0 a_.toNat) k_) % 2)) := ai_fr_tr hF_ (ai_fr_aI rfl)
      refine sm_T_inc (a := 3) (z := 1) (v := k_) (w := k_ + 1) rfl rfl (by omega) (by omega) (by omega) ?_
      refine sm_T_go 1 (c1 := (102, [some (.inr (.inr (some (13, 0)))), some (.inl a_), none, some (.inl (k_ + 1))], [], sm_aI S_ 139 0 (8 * (S_.1 13 0 34) + k_).toNat ((i_shr (S_.2.2.1 121 0 a_.toNat) k_) % 2))) rfl ?_
      refine ih_ a_ (k_ + 1) (sm_aI S_ 139 0 (8 * (S_.1 13 0 34) + k_).toNat ((i_shr (S_.2.2.1 121 0 a_.toNat) k_) % 2)) hIx4_ hFx5_ ⟨?_, ?_, trivial⟩ ?_
      · omega
      · exact ⟨h1_.1, fun r_ hr_ => ⟨(h1_.2 r_ hr_).1, fun l_ hl_ hs_ => stk_ot ((h1_.2 r_ hr_).2 l_ hl_ hs_) (by decide)⟩⟩
      · omega
set_option maxHeartbeats 1500000 in
theorem vc_322 {sc_ : Nat × (Nat → Int)} (b_ : Nat → Int) (n_ : Nat) (T_ : Nat) (mo_ : Int) (p_ : Nat) (i_ : Nat) (gl_ : Nat) (S0_ : sm_S) (hI_ : gi S0_) (ht_ : rtab b_ n_ T_ S0_) (hf_ : (S0_.1 13 0 10) = 0) (hi_ : (S0_.1 13 0 9) = (i_ : Int) ∧ rp b_ n_ T_ i_ p_) (hv_ : (S0_.1 13 0 34) = (gl_ : Int) ∧ gl_ ≤ 1000) (hmo_ : (S0_.1 13 0 27) = mo_) (hw_ : (S0_.1 13 0 32) ≤ 800) (hk_ : lx_kd b_ n_ p_ = 2) (hm2_ : mo_ ≠ 2) (vp0_ : 0 ≤ lx_vl b_ n_ p_) : sm_T (mt_P sc_) 4 322 (0, [some (.inr (.inr (some (13, 0)))), none, none, none], [], S0_) (fun r_ => ∃ u_ S1_, r_ = (.inl u_, S1_, 0) ∧ vq_322 b_ n_ T_ mo_ p_ i_ gl_ S0_ u_ S1_) := by
  have hF_ : ai_fr (sx_W vw_322) S0_ S0_ := ai_fr_rf
  have hx_ : rg b_ n_ T_ (.inr p_) S0_ := ⟨hf_, i_, hi_.1, hi_.2⟩
  have hi9_ := hi_.2.1
  have hT_ := ht_.2.1
  have rw9_ : ∀ e_ : Int × Nat, ∀ S9_ : sm_S, rg b_ n_ T_ (.inl e_) S9_ → S9_.1 13 0 32 = S0_.1 13 0 32 → S9_.1 13 0 27 = S0_.1 13 0 27 → rwr mo_ e_ S9_ := fun e_ S9_ q1_ q2_ q3_ => ⟨q1_.1, q1_.2.1, q1_.2.2, by rw [q2_]; exact hw_, q3_.trans hmo_⟩
  have bx1_ : 0 ≤ S0_.1 13 0 9 ∧ S0_.1 13 0 9 ≤ 1280 := hI_.1 13 0 9 rfl
  refine sm_T_go 4 (c1 := (6, [some (.inr (.inr (some (13, 0)))), some (.inl (S0_.1 13 0 9)), none, none], [.inr (.inr (some (13, 0)))], S0_)) rfl ?_
  refine sm_T_cal (d1 := 2) (Q1 := vq_297 b_ n_ T_ (.inr p_) S0_) rfl rfl (by decide) (vc_297 b_ n_ T_ (.inr p_) S0_ hI_ (by exact ht_) (by exact hx_) (by (intro q_ e_; cases e_; omega))) (fun u_ Sx2_ px5_ => ?_)
  obtain ⟨rfl, hIx3_, hFx4_, px5_⟩ := px5_
  have hFx6_ : ai_fr (sx_W vw_322) S0_ Sx2_ := ai_fr_tr hF_ (fr_le hFx4_ rfl)
  have g6_ := px5_.1
  have t6_ := rtab_fr ht_ hFx4_ rfl rfl rfl rfl rfl
  have w6_ : Sx2_.2.2.1 138 0 = S0_.2.2.1 138 0 := fr_arr hFx4_ rfl
  refine sm_T_go 2 (c1 := (12, [some (.inr (.inr (some (13, 0)))), some (.inl (S0_.1 13 0 9)), none, none], [.inl 64, .inr (.inr (some (13, 0)))], Sx2_)) rfl ?_
  refine sm_T_cal (d1 := 3) (Q1 := vq_300 64 b_ n_ T_ (pb (.inr p_) (p_ad b_ n_)) Sx2_) rfl rfl (by decide) (vc_300 64 b_ n_ T_ (pb (.inr p_) (p_ad b_ n_)) Sx2_ hIx3_ (by exact t6_) (by exact g6_) (by decide)) (fun u_ Sx7_ px10_ => ?_)
  obtain ⟨rfl, hIx8_, hFx9_, px10_⟩ := px10_
  have hFx11_ : ai_fr (sx_W vw_322) S0_ Sx7_ := ai_fr_tr hFx6_ (fr_le hFx9_ rfl)
  have g12_ := px10_
  have t12_ := rtab_fr t6_ hFx9_ rfl rfl rfl rfl rfl
  have w12_ := (fr_arr (t := 138) (i := 0) hFx9_ rfl).trans w6_
  refine sm_T_go 2 (c1 := (17, [some (.inr (.inr (some (13, 0)))), some (.inl (S0_.1 13 0 9)), none, none], [.inl 2, .inr (.inr (some (13, 0)))], Sx7_)) rfl ?_
  refine sm_T_cal (d1 := 1) (Q1 := vq_299 2 b_ n_ T_ (pb (pb (.inr p_) (p_ad b_ n_)) (p_nd b_ n_ 64)) Sx7_) rfl rfl (by decide) (vc_299 2 b_ n_ T_ (pb (pb (.inr p_) (p_ad b_ n_)) (p_nd b_ n_ 64)) Sx7_ hIx8_ (by exact t12_) (by exact g12_) (by decide)) (fun u_ Sx12_ px15_ => ?_)
  obtain ⟨vx17_, rfl, hIx13_, hFx14_, px15_⟩ := px15_
  have hFx16_ : ai_fr (sx_W vw_322) S0_ Sx12_ := ai_fr_tr hFx11_ (fr_le hFx14_ rfl)
  have a17_ := px15_.1
  have g17_ : rg b_ n_ T_ (p_c3 b_ n_ p_) Sx12_ := px15_.2
  have t17_ := rtab_fr t12_ hFx14_ rfl rfl rfl rfl rfl
  have at17_ := hFx14_.1 13 0 9 rfl
  have w17_ := (fr_arr (t := 138) (i := 0) hFx14_ rfl).trans w12_
  have v17b : 0 ≤ vx17_ ∧ vx17_ ≤ 1280 := by rw [a17_, ← at17_]; exact hIx13_.1 13 0 9 rfl
  have nv17_ : ∀ r_ i3_ : Nat, Sx12_.1 13 0 9 = (i3_ : Int) → rp b_ n_ T_ i3_ r_ → lx_kd b_ n_ r_ = 2 → Sx12_.2.2.1 121 0 vx17_.toNat = lx_vl b_ n_ r_ ∧ Sx12_.2.2.1 120 0 vx17_.toNat = (r_ : Int) ∧ Sx12_.2.2.1 119 0 vx17_.toNat ≠ 4 := by intro r_ i3_ q1_ q2_ q3_; have q4_ := rp_at t17_ q2_; rw [show vx17_.toNat = i3_ by omega, q4_.1, q4_.2.1, q4_.2.2.1, q3_]; exact ⟨rfl, rfl, by decide⟩
  refine sm_T_go 2 (c1 := (22, [some (.inr (.inr (some (13, 0)))), some (.inl (S0_.1 13 0 9)), some (.inl vx17_), none], [.inr (.inr (some (13, 0)))], Sx12_)) rfl ?_
  refine sm_T_cal (d1 := 0) (Q1 := vq_292  Sx12_) rfl rfl (by decide) (vc_292  Sx12_ hIx13_ ) (fun u_ Sx18_ px21_ => ?_)
  obtain ⟨rfl, vx23_, rfl, px21_⟩ := px21_
  have e22_ := px21_
  refine sm_T_b0 (a := 0) (z := 25) rfl (fun cx24_ => ?_) (fun cx24_ => ?_)
  · have cx24_ : vx23_ = 0 := of_decide_eq_true cx24_
    obtain ⟨e3_, he3_⟩ := rg_w g17_ (wr_if e22_ (by omega))
    have cw3_ := c3_w he3_
    rw [he3_] at g17_
    obtain ⟨x4_, hx4_, hx4b⟩ : ∃ x4_ : pE Nat, rg b_ n_ T_ x4_ _ ∧ x4_ = .inl e3_ := ⟨_, g17_, rfl⟩
    have t50_ := t17_
    have w50_ := w17_
    refine sm_T_go 1 (c1 := (51, [some (.inr (.inr (some (13, 0)))), some (.inl (S0_.1 13 0 9)), some (.inl vx17_), none], [.inr (.inr (some (13, 0)))], Sx12_)) rfl ?_
    refine sm_T_cal (d1 := 2) (Q1 := vq_297 b_ n_ T_ x4_ Sx12_) rfl rfl (by decide) (vc_297 b_ n_ T_ x4_ Sx12_ hIx13_ (by exact t50_) (by exact hx4_) (by (intro q_ e_; rw [hx4b] at e_; first | (cases e_; done) | (cases e_; rw [cr.1]; decide)))) (fun u_ Sx25_ px28_ => ?_)
    obtain ⟨rfl, hIx26_, hFx27_, px28_⟩ := px28_
    have hFx29_ : ai_fr (sx_W vw_322) S0_ Sx25_ := ai_fr_tr hFx16_ (fr_le hFx27_ rfl)
    have g51_ := px28_.1
    have t51_ := rtab_fr t50_ hFx27_ rfl rfl rfl rfl rfl
    have na51_ : Sx25_.2.2.1 121 0 (S0_.1 13 0 9).toNat = lx_vl b_ n_ p_ := by rw [show (S0_.1 13 0 9).toNat = i_ by omega, (rp_at t51_ hi_.2).2.2.1, hk_]; rfl
    have pa51_ : Sx25_.2.2.1 120 0 (S0_.1 13 0 9).toNat = (p_ : Int) := by rw [show (S0_.1 13 0 9).toNat = i_ by omega]; exact (rp_at t51_ hi_.2).2.1
    have nn51_ := fr_arr (t := 121) (i := 0) hFx27_ rfl
    have vl51_ : Sx25_.1 13 0 34 = (gl_ : Int) := (hFx29_.1 13 0 34 rfl).trans hv_.1
    have w51_ := (fr_arr (t := 138) (i := 0) hFx27_ rfl).trans w50_
    refine sm_T_go 1 (c1 := (55, [some (.inr (.inr (some (13, 0)))), some (.inl (S0_.1 13 0 9)), some (.inl vx17_), none], [.inr (.inr (some (13, 0)))], Sx25_)) rfl ?_
    refine sm_T_cal (d1 := 0) (Q1 := vq_292  Sx25_) rfl rfl (by decide) (vc_292  Sx25_ hIx26_ ) (fun u_ Sx30_ px33_ => ?_)
    obtain ⟨rfl, vx35_, rfl, px33_⟩ := px33_
    have e55_ := px33_
    refine sm_T_b0 (a := 0) (z := 27) rfl (fun cx36_ => ?_) (fun cx36_ => ?_)
    · have cx36_ : vx35_ = 0 := of_decide_eq_true cx36_
      have hz5_ := wr_if e55_ (by omega)
      have bx37_ : 0 ≤ Sx25_.1 13 0 34 ∧ Sx25_.1 13 0 34 ≤ 1023 := hIx26_.1 13 0 34 rfl
      refine sm_T_go 7 (c1 := (98, [some (.inr (.inr (some (13, 0)))), some (.inl (S0_.1 13 0 9)), some (.inl vx17_), none], [.inl vx17_, .inr (.inr (some (121, 0))), .inl (Sx25_.1 13 0 34), .inr (.inr (some (138, 0)))], Sx25_)) rfl ?_
      refine sm_T_iald (n := 65537) rfl rfl (by omega) (by omega) ?_
      have bx38_ : (-2147483648) ≤ Sx25_.2.2.1 121 0 vx17_.toNat ∧ Sx25_.2.2.1 121 0 vx17_.toNat ≤ 2147483647 := hIx26_.2 121 0 _
      refine sm_T_iast (n := 1024) rfl rfl (by omega) (by omega) ?_
      have hIx39_ : gi (sm_aI Sx25_ 138 0 (Sx25_.1 13 0 34).toNat (Sx25_.2.2.1 121 0 vx17_.toNat)) := gi_aI hIx26_ (show (-2147483648) ≤ (Sx25_.2.2.1 121 0 vx17_.toNat) ∧ (Sx25_.2.2.1 121 0 vx17_.toNat) ≤ 2147483647 from ⟨by omega, by omega⟩)
      have hFx40_ : ai_fr (sx_W vw_322) S0_ (sm_aI Sx25_ 138 0 (Sx25_.1 13 0 34).toNat (Sx25_.2.2.1 121 0 vx17_.toNat)) := ai_fr_tr hFx29_ (ai_fr_aI rfl)
      refine sm_T_go 2 (c1 := (102, [some (.inr (.inr (some (13, 0)))), some (.inl (S0_.1 13 0 9)), some (.inl vx17_), some (.inl 0)], [], sm_aI Sx25_ 138 0 (Sx25_.1 13 0 34).toNat (Sx25_.2.2.1 121 0 vx17_.toNat))) rfl ?_
      refine sm_T_wk [some (.inr (.inr (some (13, 0)))), some (.inl (S0_.1 13 0 9)), none, some (.inl 0)] (by exact ⟨rfl, rfl, rfl, trivial⟩) ?_
      refine (vl_322 b_ n_ T_ mo_ p_ i_ gl_ S0_ ht_ hf_ hi_ hv_ hmo_ hw_ hk_ hm2_ vp0_ _) (S0_.1 13 0 9) 0 (sm_aI Sx25_ 138 0 (Sx25_.1 13 0 34).toNat (Sx25_.2.2.1 121 0 vx17_.toNat)) hIx39_ hFx40_ ⟨?_, ?_, trivial⟩ (Nat.lt_succ_self _)
      · omega
      · first | (have g52_ := g51_; rw [hx4b] at g52_; first | (exfalso; exact g52_.2.2 (g52_.1.symm.trans hz5_)) | (refine ⟨fun e_ he_ => ?_, fun r9_ hr_ => ?_⟩; (first | (rw [cw3_] at he_; cases he_; exact rw9_ _ _ g52_ (hFx40_.1 13 0 32 rfl) (hFx40_.1 13 0 27 rfl)) | (rw [crv_] at he_; cases he_; exact rw9_ _ _ g52_ (hFx40_.1 13 0 32 rfl) (hFx40_.1 13 0 27 rfl))); (first | (rw [cw3_] at hr_; cases hr_) | (rw [crv_] at hr_; cases hr_)))) | (obtain ⟨u5_, i5_, hu5_, e51_, e52_⟩ := rg_r g51_ hz5_; rw [hx4b, pb_r rfl] at hu5_; have nv51_ := (congrFun nn51_ _).trans nv_.1; have sg_ := shl_ge (x_ := lx_vl b_ n_ p_) (w_ := lx_vl b_ n_ r_) vp0_ hin_; rw [na51_, nv51_] at cx36_; first | (have hp5_ : p_co b_ n_ p_ = .inl (12, p_) := (by rw [crv_, hu5_, pb_r rfl, if_neg (sg_.mp (by omega))]); have g82_ : rg b_ n_ T_ (.inl (12, p_)) _ := (by rcases e82_ with z_ | z_; (exact absurd hz5_ z_.1); (exact ⟨z_.2.1, z_.2.2.trans pa51_, by show (12 : Int) ≠ 0; decide⟩)); refine ⟨fun e_ he_ => ?_, fun r9_ hr_ => ?_⟩; (rw [hp5_] at he_; cases he_; exact rw9_ _ _ g82_ (hFx40_.1 13 0 32 rfl) (hFx40_.1 13 0 27 rfl)); (rw [hp5_] at hr_; cases hr_)) | (have hp5_ : p_co b_ n_ p_ = .inr (u5_, lx_vl b_ n_ r_, [cw 8 (lx_vl b_ n_ r_) (lx_vl b_ n_ p_)]) := (by rw [crv_, hu5_, pb_r rfl, if_pos (by by_cases q_ : lx_vl b_ n_ p_ / 2 ^ (lx_vl b_ n_ r_).toNat = 0; exact q_; (have := sg_.mpr q_; omega))]); refine ⟨fun e_ he_ => ?_, fun r9_ hr_ => ?_⟩; (rw [hp5_] at he_; cases he_); (rw [hp5_] at hr_; cases hr_; refine ⟨⟨hz5_, i5_, e51_, e52_⟩, fun l_ hl_ hs_ => ?_⟩; refine stk_pu (by omega) nv51_ ?_; rw [w51_]; exact hs_))) | (obtain ⟨e5_, he5_⟩ := rg_w g51_ hz5_; have g52_ := g51_; rw [he5_] at g52_; have hp5_ : p_co b_ n_ p_ = .inl e5_ := (by rw [crv_]; rw [hx4b, pb_r rfl] at he5_; rw [he5_]; rfl); refine ⟨fun e_ he_ => ?_, fun r9_ hr_ => ?_⟩; (rw [hp5_] at he_; cases he_; exact rw9_ _ _ g52_ (hFx40_.1 13 0 32 rfl) (hFx40_.1 13 0 27 rfl)); (rw [hp5_] at hr_; cases hr_))
    · have cx36_ : ¬ (vx35_ = 0) := of_decide_eq_false cx36_
      have hz5_ := rt_if e55_ (by omega)
      refine sm_T_go 3 (c1 := (66, [some (.inr (.inr (some (13, 0)))), some (.inl (S0_.1 13 0 9)), some (.inl vx17_), none], [.inl (S0_.1 13 0 9), .inr (.inr (some (121, 0)))], Sx25_)) rfl ?_
      refine sm_T_iald (n := 65537) rfl rfl (by omega) (by omega) ?_
      have bx41_ : (-2147483648) ≤ Sx25_.2.2.1 121 0 (S0_.1 13 0 9).toNat ∧ Sx25_.2.2.1 121 0 (S0_.1 13 0 9).toNat ≤ 2147483647 := hIx26_.2 121 0 _
      refine sm_T_go 4 (c1 := (73, [some (.inr (.inr (some (13, 0)))), some (.inl (S0_.1 13 0 9)), some (.inl vx17_), none], [.inl vx17_, .inr (.inr (some (121, 0))), .inl 1, .inl (Sx25_.2.2.1 121 0 (S0_.1 13 0 9).toNat)], Sx25_)) rfl ?_
      refine sm_T_iald (n := 65537) rfl rfl (by omega) (by omega) ?_
      have bx42_ : (-2147483648) ≤ Sx25_.2.2.1 121 0 vx17_.toNat ∧ Sx25_.2.2.1 121 0 vx17_.toNat ≤ 2147483647 := hIx26_.2 121 0 _
      refine sm_T_bin (w := (i_shl 1 (Sx25_.2.2.1 121 0 vx17_.toNat))) rfl rfl ?_
      refine sm_T_br (a := 2) (z := 10) rfl (fun cx43_ => ?_) (fun cx43_ => ?_)
      · have cx43_ : (Sx25_.2.2.1 121 0 (S0_.1 13 0 9).toNat) < (i_shl 1 (Sx25_.2.2.1 121 0 vx17_.toNat)) := of_decide_eq_true cx43_
        have bx44_ : 0 ≤ Sx25_.1 13 0 34 ∧ Sx25_.1 13 0 34 ≤ 1023 := hIx26_.1 13 0 34 rfl
        refine sm_T_go 7 (c1 := (98, [some (.inr (.inr (some (13, 0)))), some (.inl (S0_.1 13 0 9)), some (.inl vx17_), none], [.inl vx17_, .inr (.inr (some (121, 0))), .inl (Sx25_.1 13 0 34), .inr (.inr (some (138, 0)))], Sx25_)) rfl ?_
        refine sm_T_iald (n := 65537) rfl rfl (by omega) (by omega) ?_
        refine sm_T_iast (n := 1024) rfl rfl (by omega) (by omega) ?_
        have hIx45_ : gi (sm_aI Sx25_ 138 0 (Sx25_.1 13 0 34).toNat (Sx25_.2.2.1 121 0 vx17_.toNat)) := gi_aI hIx26_ (show (-2147483648) ≤ (Sx25_.2.2.1 121 0 vx17_.toNat) ∧ (Sx25_.2.2.1 121 0 vx17_.toNat) ≤ 2147483647 from ⟨by omega, by omega⟩)
        have hFx46_ : ai_fr (sx_W vw_322) S0_ (sm_aI Sx25_ 138 0 (Sx25_.1 13 0 34).toNat (Sx25_.2.2.1 121 0 vx17_.toNat)) := ai_fr_tr hFx29_ (ai_fr_aI rfl)
        refine sm_T_go 2 (c1 := (102, [some (.inr (.inr (some (13, 0)))), some (.inl (S0_.1 13 0 9)), some (.inl vx17_), some (.inl 0)], [], sm_aI Sx25_ 138 0 (Sx25_.1 13 0 34).toNat (Sx25_.2.2.1 121 0 vx17_.toNat))) rfl ?_
        refine sm_T_wk [some (.inr (.inr (some (13, 0)))), some (.inl (S0_.1 13 0 9)), none, some (.inl 0)] (by exact ⟨rfl, rfl, rfl, trivial⟩) ?_
        refine (vl_322 b_ n_ T_ mo_ p_ i_ gl_ S0_ ht_ hf_ hi_ hv_ hmo_ hw_ hk_ hm2_ vp0_ _) (S0_.1 13 0 9) 0 (sm_aI Sx25_ 138 0 (Sx25_.1 13 0 34).toNat (Sx25_.2.2.1 121 0 vx17_.toNat)) hIx45_ hFx46_ ⟨?_, ?_, trivial⟩ (Nat.lt_succ_self _)
        · omega
        · first | (have g52_ := g51_; rw [hx4b] at g52_; first | (exfalso; exact g52_.2.2 (g52_.1.symm.trans hz5_)) | (refine ⟨fun e_ he_ => ?_, fun r9_ hr_ => ?_⟩; (first | (rw [cw3_] at he_; cases he_; exact rw9_ _ _ g52_ (hFx46_.1 13 0 32 rfl) (hFx46_.1 13 0 27 rfl)) | (rw [crv_] at he_; cases he_; exact rw9_ _ _ g52_ (hFx46_.1 13 0 32 rfl) (hFx46_.1 13 0 27 rfl))); (first | (rw [cw3_] at hr_; cases hr_) | (rw [crv_] at hr_; cases hr_)))) | (obtain ⟨u5_, i5_, hu5_, e51_, e52_⟩ := rg_r g51_ hz5_; rw [hx4b, pb_r rfl] at hu5_; have nv51_ := (congrFun nn51_ _).trans nv_.1; have sg_ := shl_ge (x_ := lx_vl b_ n_ p_) (w_ := lx_vl b_ n_ r_) vp0_ hin_; rw [na51_, nv51_] at cx43_; first | (have hp5_ : p_co b_ n_ p_ = .inl (12, p_) := (by rw [crv_, hu5_, pb_r rfl, if_neg (sg_.mp (by omega))]); have g82_ : rg b_ n_ T_ (.inl (12, p_)) _ := (by rcases e82_ with z_ | z_; (exact absurd hz5_ z_.1); (exact ⟨z_.2.1, z_.2.2.trans pa51_, by show (12 : Int) ≠ 0; decide⟩)); refine ⟨fun e_ he_ => ?_, fun r9_ hr_ => ?_⟩; (rw [hp5_] at he_; cases he_; exact rw9_ _ _ g82_ (hFx46_.1 13 0 32 rfl) (hFx46_.1 13 0 27 rfl)); (rw [hp5_] at hr_; cases hr_)) | (have hp5_ : p_co b_ n_ p_ = .inr (u5_, lx_vl b_ n_ r_, [cw 8 (lx_vl b_ n_ r_) (lx_vl b_ n_ p_)]) := (by rw [crv_, hu5_, pb_r rfl, if_pos (by by_cases q_ : lx_vl b_ n_ p_ / 2 ^ (lx_vl b_ n_ r_).toNat = 0; exact q_; (have := sg_.mpr q_; omega))]); refine ⟨fun e_ he_ => ?_, fun r9_ hr_ => ?_⟩; (rw [hp5_] at he_; cases he_); (rw [hp5_] at hr_; cases hr_; refine ⟨⟨hz5_, i5_, e51_, e52_⟩, fun l_ hl_ hs_ => ?_⟩; refine stk_pu (by omega) nv51_ ?_; rw [w51_]; exact hs_))) | (obtain ⟨e5_, he5_⟩ := rg_w g51_ hz5_; have g52_ := g51_; rw [he5_] at g52_; have hp5_ : p_co b_ n_ p_ = .inl e5_ := (by rw [crv_]; rw [hx4b, pb_r rfl] at he5_; rw [he5_]; rfl); refine ⟨fun e_ he_ => ?_, fun r9_ hr_ => ?_⟩; (rw [hp5_] at he_; cases he_; exact rw9_ _ _ g52_ (hFx46_.1 13 0 32 rfl) (hFx46_.1 13 0 27 rfl)); (rw [hp5_] at hr_; cases hr_))
      · have cx43_ : ¬ ((Sx25_.2.2.1 121 0 (S0_.1 13 0 9).toNat) < (i_shl 1 (Sx25_.2.2.1 121 0 vx17_.toNat))) := of_decide_eq_false cx43_
        refine sm_T_go 3 (c1 := (82, [some (.inr (.inr (some (13, 0)))), some (.inl (S0_.1 13 0 9)), some (.inl vx17_), none], [.inl (S0_.1 13 0 9), .inl 12, .inr (.inr (some (13, 0)))], Sx25_)) rfl ?_
        refine sm_T_cal (d1 := 0) (Q1 := vq_294 12 (S0_.1 13 0 9) Sx25_) rfl rfl (by decide) (vc_294 12 (S0_.1 13 0 9) Sx25_ hIx26_ (by decide) (by omega)) (fun u_ Sx47_ px50_ => ?_)
        obtain ⟨rfl, hIx48_, hFx49_, px50_⟩ := px50_
        have hFx51_ : ai_fr (sx_W vw_322) S0_ Sx47_ := ai_fr_tr hFx29_ (fr_le hFx49_ rfl)
        have e82_ := px50_
        have w82_ := (fr_arr (t := 138) (i := 0) hFx49_ rfl).trans w51_
        have vl82_ : Sx47_.1 13 0 34 = (gl_ : Int) := (hFx51_.1 13 0 34 rfl).trans hv_.1
        have bx52_ : 0 ≤ Sx47_.1 13 0 34 ∧ Sx47_.1 13 0 34 ≤ 1023 := hIx48_.1 13 0 34 rfl
        refine sm_T_go 7 (c1 := (98, [some (.inr (.inr (some (13, 0)))), some (.inl (S0_.1 13 0 9)), some (.inl vx17_), none], [.inl vx17_, .inr (.inr (some (121, 0))), .inl (Sx47_.1 13 0 34), .inr (.inr (some (138, 0)))], Sx47_)) rfl ?_
        refine sm_T_iald (n := 65537) rfl rfl (by omega) (by omega) ?_
        have bx53_ : (-2147483648) ≤ Sx47_.2.2.1 121 0 vx17_.toNat ∧ Sx47_.2.2.1 121 0 vx17_.toNat ≤ 2147483647 := hIx48_.2 121 0 _
        refine sm_T_iast (n := 1024) rfl rfl (by omega) (by omega) ?_
        have hIx54_ : gi (sm_aI Sx47_ 138 0 (Sx47_.1 13 0 34).toNat (Sx47_.2.2.1 121 0 vx17_.toNat)) := gi_aI hIx48_ (show (-2147483648) ≤ (Sx47_.2.2.1 121 0 vx17_.toNat) ∧ (Sx47_.2.2.1 121 0 vx17_.toNat) ≤ 2147483647 from ⟨by omega, by omega⟩)
        have hFx55_ : ai_fr (sx_W vw_322) S0_ (sm_aI Sx47_ 138 0 (Sx47_.1 13 0 34).toNat (Sx47_.2.2.1 121 0 vx17_.toNat)) := ai_fr_tr hFx51_ (ai_fr_aI rfl)
        refine sm_T_go 2 (c1 := (102, [some (.inr (.inr (some (13, 0)))), some (.inl (S0_.1 13 0 9)), some (.inl vx17_), some (.inl 0)], [], sm_aI Sx47_ 138 0 (Sx47_.1 13 0 34).toNat (Sx47_.2.2.1 121 0 vx17_.toNat))) rfl ?_
        refine sm_T_wk [some (.inr (.inr (some (13, 0)))), some (.inl (S0_.1 13 0 9)), none, some (.inl 0)] (by exact ⟨rfl, rfl, rfl, trivial⟩) ?_
        refine (vl_322 b_ n_ T_ mo_ p_ i_ gl_ S0_ ht_ hf_ hi_ hv_ hmo_ hw_ hk_ hm2_ vp0_ _) (S0_.1 13 0 9) 0 (sm_aI Sx47_ 138 0 (Sx47_.1 13 0 34).toNat (Sx47_.2.2.1 121 0 vx17_.toNat)) hIx54_ hFx55_ ⟨?_, ?_, trivial⟩ (Nat.lt_succ_self _)
        · omega
        · first | (have g52_ := g51_; rw [hx4b] at g52_; first | (exfalso; exact g52_.2.2 (g52_.1.symm.trans hz5_)) | (refine ⟨fun e_ he_ => ?_, fun r9_ hr_ => ?_⟩; (first | (rw [cw3_] at he_; cases he_; exact rw9_ _ _ g52_ (hFx55_.1 13 0 32 rfl) (hFx55_.1 13 0 27 rfl)) | (rw [crv_] at he_; cases he_; exact rw9_ _ _ g52_ (hFx55_.1 13 0 32 rfl) (hFx55_.1 13 0 27 rfl))); (first | (rw [cw3_] at hr_; cases hr_) | (rw [crv_] at hr_; cases hr_)))) | (obtain ⟨u5_, i5_, hu5_, e51_, e52_⟩ := rg_r g51_ hz5_; rw [hx4b, pb_r rfl] at hu5_; have nv51_ := (congrFun nn51_ _).trans nv_.1; have sg_ := shl_ge (x_ := lx_vl b_ n_ p_) (w_ := lx_vl b_ n_ r_) vp0_ hin_; rw [na51_, nv51_] at cx43_; first | (have hp5_ : p_co b_ n_ p_ = .inl (12, p_) := (by rw [crv_, hu5_, pb_r rfl, if_neg (sg_.mp (by omega))]); have g82_ : rg b_ n_ T_ (.inl (12, p_)) _ := (by rcases e82_ with z_ | z_; (exact absurd hz5_ z_.1); (exact ⟨z_.2.1, z_.2.2.trans pa51_, by show (12 : Int) ≠ 0; decide⟩)); refine ⟨fun e_ he_ => ?_, fun r9_ hr_ => ?_⟩; (rw [hp5_] at he_; cases he_; exact rw9_ _ _ g82_ (hFx55_.1 13 0 32 rfl) (hFx55_.1 13 0 27 rfl)); (rw [hp5_] at hr_; cases hr_)) | (have hp5_ : p_co b_ n_ p_ = .inr (u5_, lx_vl b_ n_ r_, [cw 8 (lx_vl b_ n_ r_) (lx_vl b_ n_ p_)]) := (by rw [crv_, hu5_, pb_r rfl, if_pos (by by_cases q_ : lx_vl b_ n_ p_ / 2 ^ (lx_vl b_ n_ r_).toNat = 0; exact q_; (have := sg_.mpr q_; omega))]); refine ⟨fun e_ he_ => ?_, fun r9_ hr_ => ?_⟩; (rw [hp5_] at he_; cases he_); (rw [hp5_] at hr_; cases hr_; refine ⟨⟨hz5_, i5_, e51_, e52_⟩, fun l_ hl_ hs_ => ?_⟩; refine stk_pu (by omega) nv51_ ?_; rw [w51_]; exact hs_))) | (obtain ⟨e5_, he5_⟩ := rg_w g51_ hz5_; have g52_ := g51_; rw [he5_] at g52_; have hp5_ : p_co b_ n_ p_ = .inl e5_ := (by rw [crv_]; rw [hx4b, pb_r rfl] at he5_; rw [he5_]; rfl); refine ⟨fun e_ he_ => ?_, fun r9_ hr_ => ?_⟩; (rw [hp5_] at he_; cases he_; exact rw9_ _ _ g52_ (hFx55_.1 13 0 32 rfl) (hFx55_.1 13 0 27 rfl)); (rw [hp5_] at hr_; cases hr_))
  · have cx24_ : ¬ (vx23_ = 0) := of_decide_eq_false cx24_
    have hz_ := rt_if e22_ (by omega)
    obtain ⟨r_, i3_, hr3_, e31_, e32_⟩ := rg_r g17_ hz_
    have cr := c3_r hr3_
    have nv_ := nv17_ r_ i3_ e31_ e32_ cr.1
    refine sm_T_go 3 (c1 := (33, [some (.inr (.inr (some (13, 0)))), some (.inl (S0_.1 13 0 9)), some (.inl vx17_), none], [.inl vx17_, .inr (.inr (some (121, 0)))], Sx12_)) rfl ?_
    refine sm_T_iald (n := 65537) rfl rfl (by omega) (by omega) ?_
    have bx56_ : (-2147483648) ≤ Sx12_.2.2.1 121 0 vx17_.toNat ∧ Sx12_.2.2.1 121 0 vx17_.toNat ≤ 2147483647 := hIx13_.2 121 0 _
    refine sm_T_go 2 (c1 := (37, [some (.inr (.inr (some (13, 0)))), some (.inl (S0_.1 13 0 9)), some (.inl vx17_), none], [.inl 8, .inl 1, .inl (Sx12_.2.2.1 121 0 vx17_.toNat)], Sx12_)) rfl ?_
    refine sm_T_cal (d1 := 0) (Q1 := vq_278 (Sx12_.2.2.1 121 0 vx17_.toNat) 1 8 Sx12_) rfl rfl (by decide) (vc_278 (Sx12_.2.2.1 121 0 vx17_.toNat) 1 8 Sx12_ hIx13_ ) (fun u_ Sx57_ px60_ => ?_)
    obtain ⟨rfl, vx62_, rfl, px60_⟩ := px60_
    have e37_ := px60_
    refine sm_T_b0 (a := 1) (z := 10) rfl (fun cx63_ => ?_) (fun cx63_ => ?_)
    · have cx63_ : vx62_ ≠ 0 := of_decide_eq_true cx63_
      have hin_ : 1 ≤ lx_vl b_ n_ r_ ∧ lx_vl b_ n_ r_ ≤ 8 := by have := e37_.2.mp (by omega); omega
      rw [hr3_] at g17_
      obtain ⟨x4_, hx4_, hx4b⟩ : ∃ x4_ : pE Nat, rg b_ n_ T_ x4_ _ ∧ x4_ = .inr r_ := ⟨_, g17_, rfl⟩
      have t50_ := t17_
      have w50_ := w17_
      have crv_ := cr.2
      rw [if_neg (by omega)] at crv_
      refine sm_T_go 1 (c1 := (51, [some (.inr (.inr (some (13, 0)))), some (.inl (S0_.1 13 0 9)), some (.inl vx17_), none], [.inr (.inr (some (13, 0)))], Sx12_)) rfl ?_
      refine sm_T_cal (d1 := 2) (Q1 := vq_297 b_ n_ T_ x4_ Sx12_) rfl rfl (by decide) (vc_297 b_ n_ T_ x4_ Sx12_ hIx13_ (by exact t50_) (by exact hx4_) (by (intro q_ e_; rw [hx4b] at e_; first | (cases e_; done) | (cases e_; rw [cr.1]; decide)))) (fun u_ Sx64_ px67_ => ?_)
      obtain ⟨rfl, hIx65_, hFx66_, px67_⟩ := px67_
      have hFx68_ : ai_fr (sx_W vw_322) S0_ Sx64_ := ai_fr_tr hFx16_ (fr_le hFx66_ rfl)
      have g51_ := px67_.1
      have t51_ := rtab_fr t50_ hFx66_ rfl rfl rfl rfl rfl
      have na51_ : Sx64_.2.2.1 121 0 (S0_.1 13 0 9).toNat = lx_vl b_ n_ p_ := by rw [show (S0_.1 13 0 9).toNat = i_ by omega, (rp_at t51_ hi_.2).2.2.1, hk_]; rfl
      have pa51_ : Sx64_.2.2.1 120 0 (S0_.1 13 0 9).toNat = (p_ : Int) := by rw [show (S0_.1 13 0 9).toNat = i_ by omega]; exact (rp_at t51_ hi_.2).2.1
      have nn51_ := fr_arr (t := 121) (i := 0) hFx66_ rfl
      have vl51_ : Sx64_.1 13 0 34 = (gl_ : Int) := (hFx68_.1 13 0 34 rfl).trans hv_.1
      have w51_ := (fr_arr (t := 138) (i := 0) hFx66_ rfl).trans w50_
      refine sm_T_go 1 (c1 := (55, [some (.inr (.inr (some (13, 0)))), some (.inl (S0_.1 13 0 9)), some (.inl vx17_), none], [.inr (.inr (some (13, 0)))], Sx64_)) rfl ?_
      refine sm_T_cal (d1 := 0) (Q1 := vq_292  Sx64_) rfl rfl (by decide) (vc_292  Sx64_ hIx65_ ) (fun u_ Sx69_ px72_ => ?_)
      obtain ⟨rfl, vx74_, rfl, px72_⟩ := px72_
      have e55_ := px72_
      refine sm_T_b0 (a := 0) (z := 27) rfl (fun cx75_ => ?_) (fun cx75_ => ?_)
      · have cx75_ : vx74_ = 0 := of_decide_eq_true cx75_
        have hz5_ := wr_if e55_ (by omega)
        have bx76_ : 0 ≤ Sx64_.1 13 0 34 ∧ Sx64_.1 13 0 34 ≤ 1023 := hIx65_.1 13 0 34 rfl
        refine sm_T_go 7 (c1 := (98, [some (.inr (.inr (some (13, 0)))), some (.inl (S0_.1 13 0 9)), some (.inl vx17_), none], [.inl vx17_, .inr (.inr (some (121, 0))), .inl (Sx64_.1 13 0 34), .inr (.inr (some (138, 0)))], Sx64_)) rfl ?_
        refine sm_T_iald (n := 65537) rfl rfl (by omega) (by omega) ?_
        have bx77_ : (-2147483648) ≤ Sx64_.2.2.1 121 0 vx17_.toNat ∧ Sx64_.2.2.1 121 0 vx17_.toNat ≤ 2147483647 := hIx65_.2 121 0 _
        refine sm_T_iast (n := 1024) rfl rfl (by omega) (by omega) ?_
        have hIx78_ : gi (sm_aI Sx64_ 138 0 (Sx64_.1 13 0 34).toNat (Sx64_.2.2.1 121 0 vx17_.toNat)) := gi_aI hIx65_ (show (-2147483648) ≤ (Sx64_.2.2.1 121 0 vx17_.toNat) ∧ (Sx64_.2.2.1 121 0 vx17_.toNat) ≤ 2147483647 from ⟨by omega, by omega⟩)
        have hFx79_ : ai_fr (sx_W vw_322) S0_ (sm_aI Sx64_ 138 0 (Sx64_.1 13 0 34).toNat (Sx64_.2.2.1 121 0 vx17_.toNat)) := ai_fr_tr hFx68_ (ai_fr_aI rfl)
        refine sm_T_go 2 (c1 := (102, [some (.inr (.inr (some (13, 0)))), some (.inl (S0_.1 13 0 9)), some (.inl vx17_), some (.inl 0)], [], sm_aI Sx64_ 138 0 (Sx64_.1 13 0 34).toNat (Sx64_.2.2.1 121 0 vx17_.toNat))) rfl ?_
        refine sm_T_wk [some (.inr (.inr (some (13, 0)))), some (.inl (S0_.1 13 0 9)), none, some (.inl 0)] (by exact ⟨rfl, rfl, rfl, trivial⟩) ?_
        refine (vl_322 b_ n_ T_ mo_ p_ i_ gl_ S0_ ht_ hf_ hi_ hv_ hmo_ hw_ hk_ hm2_ vp0_ _) (S0_.1 13 0 9) 0 (sm_aI Sx64_ 138 0 (Sx64_.1 13 0 34).toNat (Sx64_.2.2.1 121 0 vx17_.toNat)) hIx78_ hFx79_ ⟨?_, ?_, trivial⟩ (Nat.lt_succ_self _)
        · omega
        · first | (have g52_ := g51_; rw [hx4b] at g52_; first | (exfalso; exact g52_.2.2 (g52_.1.symm.trans hz5_)) | (refine ⟨fun e_ he_ => ?_, fun r9_ hr_ => ?_⟩; (first | (rw [cw3_] at he_; cases he_; exact rw9_ _ _ g52_ (hFx79_.1 13 0 32 rfl) (hFx79_.1 13 0 27 rfl)) | (rw [crv_] at he_; cases he_; exact rw9_ _ _ g52_ (hFx79_.1 13 0 32 rfl) (hFx79_.1 13 0 27 rfl))); (first | (rw [cw3_] at hr_; cases hr_) | (rw [crv_] at hr_; cases hr_)))) | (obtain ⟨u5_, i5_, hu5_, e51_, e52_⟩ := rg_r g51_ hz5_; rw [hx4b, pb_r rfl] at hu5_; have nv51_ := (congrFun nn51_ _).trans nv_.1; have sg_ := shl_ge (x_ := lx_vl b_ n_ p_) (w_ := lx_vl b_ n_ r_) vp0_ hin_; rw [na51_, nv51_] at cx75_; first | (have hp5_ : p_co b_ n_ p_ = .inl (12, p_) := (by rw [crv_, hu5_, pb_r rfl, if_neg (sg_.mp (by omega))]); have g82_ : rg b_ n_ T_ (.inl (12, p_)) _ := (by rcases e82_ with z_ | z_; (exact absurd hz5_ z_.1); (exact ⟨z_.2.1, z_.2.2.trans pa51_, by show (12 : Int) ≠ 0; decide⟩)); refine ⟨fun e_ he_ => ?_, fun r9_ hr_ => ?_⟩; (rw [hp5_] at he_; cases he_; exact rw9_ _ _ g82_ (hFx79_.1 13 0 32 rfl) (hFx79_.1 13 0 27 rfl)); (rw [hp5_] at hr_; cases hr_)) | (have hp5_ : p_co b_ n_ p_ = .inr (u5_, lx_vl b_ n_ r_, [cw 8 (lx_vl b_ n_ r_) (lx_vl b_ n_ p_)]) := (by rw [crv_, hu5_, pb_r rfl, if_pos (by by_cases q_ : lx_vl b_ n_ p_ / 2 ^ (lx_vl b_ n_ r_).toNat = 0; exact q_; (have := sg_.mpr q_; omega))]); refine ⟨fun e_ he_ => ?_, fun r9_ hr_ => ?_⟩; (rw [hp5_] at he_; cases he_); (rw [hp5_] at hr_; cases hr_; refine ⟨⟨hz5_, i5_, e51_, e52_⟩, fun l_ hl_ hs_ => ?_⟩; refine stk_pu (by omega) nv51_ ?_; rw [w51_]; exact hs_))) | (obtain ⟨e5_, he5_⟩ := rg_w g51_ hz5_; have g52_ := g51_; rw [he5_] at g52_; have hp5_ : p_co b_ n_ p_ = .inl e5_ := (by rw [crv_]; rw [hx4b, pb_r rfl] at he5_; rw [he5_]; rfl); refine ⟨fun e_ he_ => ?_, fun r9_ hr_ => ?_⟩; (rw [hp5_] at he_; cases he_; exact rw9_ _ _ g52_ (hFx79_.1 13 0 32 rfl) (hFx79_.1 13 0 27 rfl)); (rw [hp5_] at hr_; cases hr_))
      · have cx75_ : ¬ (vx74_ = 0) := of_decide_eq_false cx75_
        have hz5_ := rt_if e55_ (by omega)
        refine sm_T_go 3 (c1 := (66, [some (.inr (.inr (some (13, 0)))), some (.inl (S0_.1 13 0 9)), some (.inl vx17_), none], [.inl (S0_.1 13 0 9), .inr (.inr (some (121, 0)))], Sx64_)) rfl ?_
        refine sm_T_iald (n := 65537) rfl rfl (by omega) (by omega) ?_
        have bx80_ : (-2147483648) ≤ Sx64_.2.2.1 121 0 (S0_.1 13 0 9).toNat ∧ Sx64_.2.2.1 121 0 (S0_.1 13 0 9).toNat ≤ 2147483647 := hIx65_.2 121 0 _
        refine sm_T_go 4 (c1 := (73, [some (.inr (.inr (some (13, 0)))), some (.inl (S0_.1 13 0 9)), some (.inl vx17_), none], [.inl vx17_, .inr (.inr (some (121, 0))), .inl 1, .inl (Sx64_.2.2.1 121 0 (S0_.1 13 0 9).toNat)], Sx64_)) rfl ?_
        refine sm_T_iald (n := 65537) rfl rfl (by omega) (by omega) ?_
        have bx81_ : (-2147483648) ≤ Sx64_.2.2.1 121 0 vx17_.toNat ∧ Sx64_.2.2.1 121 0 vx17_.toNat ≤ 2147483647 := hIx65_.2 121 0 _
        refine sm_T_bin (w := (i_shl 1 (Sx64_.2.2.1 121 0 vx17_.toNat))) rfl rfl ?_
        refine sm_T_br (a := 2) (z := 10) rfl (fun cx82_ => ?_) (fun cx82_ => ?_)
        · have cx82_ : (Sx64_.2.2.1 121 0 (S0_.1 13 0 9).toNat) < (i_shl 1 (Sx64_.2.2.1 121 0 vx17_.toNat)) := of_decide_eq_true cx82_
          have bx83_ : 0 ≤ Sx64_.1 13 0 34 ∧ Sx64_.1 13 0 34 ≤ 1023 := hIx65_.1 13 0 34 rfl
          refine sm_T_go 7 (c1 := (98, [some (.inr (.inr (some (13, 0)))), some (.inl (S0_.1 13 0 9)), some (.inl vx17_), none], [.inl vx17_, .inr (.inr (some (121, 0))), .inl (Sx64_.1 13 0 34), .inr (.inr (some (138, 0)))], Sx64_)) rfl ?_
          refine sm_T_iald (n := 65537) rfl rfl (by omega) (by omega) ?_
          refine sm_T_iast (n := 1024) rfl rfl (by omega) (by omega) ?_
          have hIx84_ : gi (sm_aI Sx64_ 138 0 (Sx64_.1 13 0 34).toNat (Sx64_.2.2.1 121 0 vx17_.toNat)) := gi_aI hIx65_ (show (-2147483648) ≤ (Sx64_.2.2.1 121 0 vx17_.toNat) ∧ (Sx64_.2.2.1 121 0 vx17_.toNat) ≤ 2147483647 from ⟨by omega, by omega⟩)
          have hFx85_ : ai_fr (sx_W vw_322) S0_ (sm_aI Sx64_ 138 0 (Sx64_.1 13 0 34).toNat (Sx64_.2.2.1 121 0 vx17_.toNat)) := ai_fr_tr hFx68_ (ai_fr_aI rfl)
          refine sm_T_go 2 (c1 := (102, [some (.inr (.inr (some (13, 0)))), some (.inl (S0_.1 13 0 9)), some (.inl vx17_), some (.inl 0)], [], sm_aI Sx64_ 138 0 (Sx64_.1 13 0 34).toNat (Sx64_.2.2.1 121 0 vx17_.toNat))) rfl ?_
          refine sm_T_wk [some (.inr (.inr (some (13, 0)))), some (.inl (S0_.1 13 0 9)), none, some (.inl 0)] (by exact ⟨rfl, rfl, rfl, trivial⟩) ?_
          refine (vl_322 b_ n_ T_ mo_ p_ i_ gl_ S0_ ht_ hf_ hi_ hv_ hmo_ hw_ hk_ hm2_ vp0_ _) (S0_.1 13 0 9) 0 (sm_aI Sx64_ 138 0 (Sx64_.1 13 0 34).toNat (Sx64_.2.2.1 121 0 vx17_.toNat)) hIx84_ hFx85_ ⟨?_, ?_, trivial⟩ (Nat.lt_succ_self _)
          · omega
          · first | (have g52_ := g51_; rw [hx4b] at g52_; first | (exfalso; exact g52_.2.2 (g52_.1.symm.trans hz5_)) | (refine ⟨fun e_ he_ => ?_, fun r9_ hr_ => ?_⟩; (first | (rw [cw3_] at he_; cases he_; exact rw9_ _ _ g52_ (hFx85_.1 13 0 32 rfl) (hFx85_.1 13 0 27 rfl)) | (rw [crv_] at he_; cases he_; exact rw9_ _ _ g52_ (hFx85_.1 13 0 32 rfl) (hFx85_.1 13 0 27 rfl))); (first | (rw [cw3_] at hr_; cases hr_) | (rw [crv_] at hr_; cases hr_)))) | (obtain ⟨u5_, i5_, hu5_, e51_, e52_⟩ := rg_r g51_ hz5_; rw [hx4b, pb_r rfl] at hu5_; have nv51_ := (congrFun nn51_ _).trans nv_.1; have sg_ := shl_ge (x_ := lx_vl b_ n_ p_) (w_ := lx_vl b_ n_ r_) vp0_ hin_; rw [na51_, nv51_] at cx82_; first | (have hp5_ : p_co b_ n_ p_ = .inl (12, p_) := (by rw [crv_, hu5_, pb_r rfl, if_neg (sg_.mp (by omega))]); have g82_ : rg b_ n_ T_ (.inl (12, p_)) _ := (by rcases e82_ with z_ | z_; (exact absurd hz5_ z_.1); (exact ⟨z_.2.1, z_.2.2.trans pa51_, by show (12 : Int) ≠ 0; decide⟩)); refine ⟨fun e_ he_ => ?_, fun r9_ hr_ => ?_⟩; (rw [hp5_] at he_; cases he_; exact rw9_ _ _ g82_ (hFx85_.1 13 0 32 rfl) (hFx85_.1 13 0 27 rfl)); (rw [hp5_] at hr_; cases hr_)) | (have hp5_ : p_co b_ n_ p_ = .inr (u5_, lx_vl b_ n_ r_, [cw 8 (lx_vl b_ n_ r_) (lx_vl b_ n_ p_)]) := (by rw [crv_, hu5_, pb_r rfl, if_pos (by by_cases q_ : lx_vl b_ n_ p_ / 2 ^ (lx_vl b_ n_ r_).toNat = 0; exact q_; (have := sg_.mpr q_; omega))]); refine ⟨fun e_ he_ => ?_, fun r9_ hr_ => ?_⟩; (rw [hp5_] at he_; cases he_); (rw [hp5_] at hr_; cases hr_; refine ⟨⟨hz5_, i5_, e51_, e52_⟩, fun l_ hl_ hs_ => ?_⟩; refine stk_pu (by omega) nv51_ ?_; rw [w51_]; exact hs_))) | (obtain ⟨e5_, he5_⟩ := rg_w g51_ hz5_; have g52_ := g51_; rw [he5_] at g52_; have hp5_ : p_co b_ n_ p_ = .inl e5_ := (by rw [crv_]; rw [hx4b, pb_r rfl] at he5_; rw [he5_]; rfl); refine ⟨fun e_ he_ => ?_, fun r9_ hr_ => ?_⟩; (rw [hp5_] at he_; cases he_; exact rw9_ _ _ g52_ (hFx85_.1 13 0 32 rfl) (hFx85_.1 13 0 27 rfl)); (rw [hp5_] at hr_; cases hr_))
        · have cx82_ : ¬ ((Sx64_.2.2.1 121 0 (S0_.1 13 0 9).toNat) < (i_shl 1 (Sx64_.2.2.1 121 0 vx17_.toNat))) := of_decide_eq_false cx82_
          refine sm_T_go 3 (c1 := (82, [some (.inr (.inr (some (13, 0)))), some (.inl (S0_.1 13 0 9)), some (.inl vx17_), none], [.inl (S0_.1 13 0 9), .inl 12, .inr (.inr (some (13, 0)))], Sx64_)) rfl ?_
          refine sm_T_cal (d1 := 0) (Q1 := vq_294 12 (S0_.1 13 0 9) Sx64_) rfl rfl (by decide) (vc_294 12 (S0_.1 13 0 9) Sx64_ hIx65_ (by decide) (by omega)) (fun u_ Sx86_ px89_ => ?_)
          obtain ⟨rfl, hIx87_, hFx88_, px89_⟩ := px89_
          have hFx90_ : ai_fr (sx_W vw_322) S0_ Sx86_ := ai_fr_tr hFx68_ (fr_le hFx88_ rfl)
          have e82_ := px89_
          have w82_ := (fr_arr (t := 138) (i := 0) hFx88_ rfl).trans w51_
          have vl82_ : Sx86_.1 13 0 34 = (gl_ : Int) := (hFx90_.1 13 0 34 rfl).trans hv_.1
          have bx91_ : 0 ≤ Sx86_.1 13 0 34 ∧ Sx86_.1 13 0 34 ≤ 1023 := hIx87_.1 13 0 34 rfl
          refine sm_T_go 7 (c1 := (98, [some (.inr (.inr (some (13, 0)))), some (.inl (S0_.1 13 0 9)), some (.inl vx17_), none], [.inl vx17_, .inr (.inr (some (121, 0))), .inl (Sx86_.1 13 0 34), .inr (.inr (some (138, 0)))], Sx86_)) rfl ?_
          refine sm_T_iald (n := 65537) rfl rfl (by omega) (by omega) ?_
          have bx92_ : (-2147483648) ≤ Sx86_.2.2.1 121 0 vx17_.toNat ∧ Sx86_.2.2.1 121 0 vx17_.toNat ≤ 2147483647 := hIx87_.2 121 0 _
          refine sm_T_iast (n := 1024) rfl rfl (by omega) (by omega) ?_
          have hIx93_ : gi (sm_aI Sx86_ 138 0 (Sx86_.1 13 0 34).toNat (Sx86_.2.2.1 121 0 vx17_.toNat)) := gi_aI hIx87_ (show (-2147483648) ≤ (Sx86_.2.2.1 121 0 vx17_.toNat) ∧ (Sx86_.2.2.1 121 0 vx17_.toNat) ≤ 2147483647 from ⟨by omega, by omega⟩)
          have hFx94_ : ai_fr (sx_W vw_322) S0_ (sm_aI Sx86_ 138 0 (Sx86_.1 13 0 34).toNat (Sx86_.2.2.1 121 0 vx17_.toNat)) := ai_fr_tr hFx90_ (ai_fr_aI rfl)
          refine sm_T_go 2 (c1 := (102, [some (.inr (.inr (some (13, 0)))), some (.inl (S0_.1 13 0 9)), some (.inl vx17_), some (.inl 0)], [], sm_aI Sx86_ 138 0 (Sx86_.1 13 0 34).toNat (Sx86_.2.2.1 121 0 vx17_.toNat))) rfl ?_
          refine sm_T_wk [some (.inr (.inr (some (13, 0)))), some (.inl (S0_.1 13 0 9)), none, some (.inl 0)] (by exact ⟨rfl, rfl, rfl, trivial⟩) ?_
          refine (vl_322 b_ n_ T_ mo_ p_ i_ gl_ S0_ ht_ hf_ hi_ hv_ hmo_ hw_ hk_ hm2_ vp0_ _) (S0_.1 13 0 9) 0 (sm_aI Sx86_ 138 0 (Sx86_.1 13 0 34).toNat (Sx86_.2.2.1 121 0 vx17_.toNat)) hIx93_ hFx94_ ⟨?_, ?_, trivial⟩ (Nat.lt_succ_self _)
          · omega
          · first | (have g52_ := g51_; rw [hx4b] at g52_; first | (exfalso; exact g52_.2.2 (g52_.1.symm.trans hz5_)) | (refine ⟨fun e_ he_ => ?_, fun r9_ hr_ => ?_⟩; (first | (rw [cw3_] at he_; cases he_; exact rw9_ _ _ g52_ (hFx94_.1 13 0 32 rfl) (hFx94_.1 13 0 27 rfl)) | (rw [crv_] at he_; cases he_; exact rw9_ _ _ g52_ (hFx94_.1 13 0 32 rfl) (hFx94_.1 13 0 27 rfl))); (first | (rw [cw3_] at hr_; cases hr_) | (rw [crv_] at hr_; cases hr_)))) | (obtain ⟨u5_, i5_, hu5_, e51_, e52_⟩ := rg_r g51_ hz5_; rw [hx4b, pb_r rfl] at hu5_; have nv51_ := (congrFun nn51_ _).trans nv_.1; have sg_ := shl_ge (x_ := lx_vl b_ n_ p_) (w_ := lx_vl b_ n_ r_) vp0_ hin_; rw [na51_, nv51_] at cx82_; first | (have hp5_ : p_co b_ n_ p_ = .inl (12, p_) := (by rw [crv_, hu5_, pb_r rfl, if_neg (sg_.mp (by omega))]); have g82_ : rg b_ n_ T_ (.inl (12, p_)) _ := (by rcases e82_ with z_ | z_; (exact absurd hz5_ z_.1); (exact ⟨z_.2.1, z_.2.2.trans pa51_, by show (12 : Int) ≠ 0; decide⟩)); refine ⟨fun e_ he_ => ?_, fun r9_ hr_ => ?_⟩; (rw [hp5_] at he_; cases he_; exact rw9_ _ _ g82_ (hFx94_.1 13 0 32 rfl) (hFx94_.1 13 0 27 rfl)); (rw [hp5_] at hr_; cases hr_)) | (have hp5_ : p_co b_ n_ p_ = .inr (u5_, lx_vl b_ n_ r_, [cw 8 (lx_vl b_ n_ r_) (lx_vl b_ n_ p_)]) := (by rw [crv_, hu5_, pb_r rfl, if_pos (by by_cases q_ : lx_vl b_ n_ p_ / 2 ^ (lx_vl b_ n_ r_).toNat = 0; exact q_; (have := sg_.mpr q_; omega))]); refine ⟨fun e_ he_ => ?_, fun r9_ hr_ => ?_⟩; (rw [hp5_] at he_; cases he_); (rw [hp5_] at hr_; cases hr_; refine ⟨⟨hz5_, i5_, e51_, e52_⟩, fun l_ hl_ hs_ => ?_⟩; refine stk_pu (by omega) nv51_ ?_; rw [w51_]; exact hs_))) | (obtain ⟨e5_, he5_⟩ := rg_w g51_ hz5_; have g52_ := g51_; rw [he5_] at g52_; have hp5_ : p_co b_ n_ p_ = .inl e5_ := (by rw [crv_]; rw [hx4b, pb_r rfl] at he5_; rw [he5_]; rfl); refine ⟨fun e_ he_ => ?_, fun r9_ hr_ => ?_⟩; (rw [hp5_] at he_; cases he_; exact rw9_ _ _ g52_ (hFx94_.1 13 0 32 rfl) (hFx94_.1 13 0 27 rfl)); (rw [hp5_] at hr_; cases hr_))
    · have cx63_ : ¬ (vx62_ ≠ 0) := of_decide_eq_false cx63_
      have hin_ : lx_vl b_ n_ r_ < 1 ∨ 8 < lx_vl b_ n_ r_ := by have e39_ := e37_.2; by_cases q_ : 1 ≤ lx_vl b_ n_ r_ ∧ lx_vl b_ n_ r_ ≤ 8; (have := e39_.mpr (by omega); omega); omega
      have crv_ := cr.2
      rw [if_pos hin_] at crv_
      refine sm_T_go 3 (c1 := (47, [some (.inr (.inr (some (13, 0)))), some (.inl (S0_.1 13 0 9)), some (.inl vx17_), none], [.inl vx17_, .inl 12, .inr (.inr (some (13, 0)))], Sx12_)) rfl ?_
      refine sm_T_cal (d1 := 0) (Q1 := vq_293 12 vx17_ Sx12_) rfl rfl (by decide) (vc_293 12 vx17_ Sx12_ hIx13_ (by decide) (by omega)) (fun u_ Sx95_ px98_ => ?_)
      obtain ⟨rfl, hIx96_, hFx97_, px98_⟩ := px98_
      have hFx99_ : ai_fr (sx_W vw_322) S0_ Sx95_ := ai_fr_tr hFx16_ (fr_le hFx97_ rfl)
      have g47_ : rg b_ n_ T_ (.inl (12, r_)) Sx95_ := by rcases px98_ with z_ | z_; (exact absurd hz_ z_.1); (exact ⟨z_.2.1.trans (if_neg nv_.2.2), z_.2.2.trans nv_.2.1, by show (12 : Int) ≠ 0; decide⟩)
      obtain ⟨x4_, hx4_, hx4b⟩ : ∃ x4_ : pE Nat, rg b_ n_ T_ x4_ Sx95_ ∧ x4_ = .inl (12, r_) := ⟨_, g47_, rfl⟩
      have t50_ := rtab_fr t17_ hFx97_ rfl rfl rfl rfl rfl
      have w50_ := (fr_arr (t := 138) (i := 0) hFx97_ rfl).trans w17_
      refine sm_T_go 1 (c1 := (51, [some (.inr (.inr (some (13, 0)))), some (.inl (S0_.1 13 0 9)), some (.inl vx17_), none], [.inr (.inr (some (13, 0)))], Sx95_)) rfl ?_
      refine sm_T_cal (d1 := 2) (Q1 := vq_297 b_ n_ T_ x4_ Sx95_) rfl rfl (by decide) (vc_297 b_ n_ T_ x4_ Sx95_ hIx96_ (by exact t50_) (by exact hx4_) (by (intro q_ e_; rw [hx4b] at e_; first | (cases e_; done) | (cases e_; rw [cr.1]; decide)))) (fun u_ Sx100_ px103_ => ?_)
      obtain ⟨rfl, hIx101_, hFx102_, px103_⟩ := px103_
      have hFx104_ : ai_fr (sx_W vw_322) S0_ Sx100_ := ai_fr_tr hFx99_ (fr_le hFx102_ rfl)
      have g51_ := px103_.1
      have t51_ := rtab_fr t50_ hFx102_ rfl rfl rfl rfl rfl
      have na51_ : Sx100_.2.2.1 121 0 (S0_.1 13 0 9).toNat = lx_vl b_ n_ p_ := by rw [show (S0_.1 13 0 9).toNat = i_ by omega, (rp_at t51_ hi_.2).2.2.1, hk_]; rfl
      have pa51_ : Sx100_.2.2.1 120 0 (S0_.1 13 0 9).toNat = (p_ : Int) := by rw [show (S0_.1 13 0 9).toNat = i_ by omega]; exact (rp_at t51_ hi_.2).2.1
      have nn51_ := fr_arr (t := 121) (i := 0) hFx102_ rfl
      have vl51_ : Sx100_.1 13 0 34 = (gl_ : Int) := (hFx104_.1 13 0 34 rfl).trans hv_.1
      have w51_ := (fr_arr (t := 138) (i := 0) hFx102_ rfl).trans w50_
      refine sm_T_go 1 (c1 := (55, [some (.inr (.inr (some (13, 0)))), some (.inl (S0_.1 13 0 9)), some (.inl vx17_), none], [.inr (.inr (some (13, 0)))], Sx100_)) rfl ?_
      refine sm_T_cal (d1 := 0) (Q1 := vq_292  Sx100_) rfl rfl (by decide) (vc_292  Sx100_ hIx101_ ) (fun u_ Sx105_ px108_ => ?_)
      obtain ⟨rfl, vx110_, rfl, px108_⟩ := px108_
      have e55_ := px108_
      refine sm_T_b0 (a := 0) (z := 27) rfl (fun cx111_ => ?_) (fun cx111_ => ?_)
      · have cx111_ : vx110_ = 0 := of_decide_eq_true cx111_
        have hz5_ := wr_if e55_ (by omega)
        have bx112_ : 0 ≤ Sx100_.1 13 0 34 ∧ Sx100_.1 13 0 34 ≤ 1023 := hIx101_.1 13 0 34 rfl
        refine sm_T_go 7 (c1 := (98, [some (.inr (.inr (some (13, 0)))), some (.inl (S0_.1 13 0 9)), some (.inl vx17_), none], [.inl vx17_, .inr (.inr (some (121, 0))), .inl (Sx100_.1 13 0 34), .inr (.inr (some (138, 0)))], Sx100_)) rfl ?_
        refine sm_T_iald (n := 65537) rfl rfl (by omega) (by omega) ?_
        have bx113_ : (-2147483648) ≤ Sx100_.2.2.1 121 0 vx17_.toNat ∧ Sx100_.2.2.1 121 0 vx17_.toNat ≤ 2147483647 := hIx101_.2 121 0 _
        refine sm_T_iast (n := 1024) rfl rfl (by omega) (by omega) ?_
        have hIx114_ : gi (sm_aI Sx100_ 138 0 (Sx100_.1 13 0 34).toNat (Sx100_.2.2.1 121 0 vx17_.toNat)) := gi_aI hIx101_ (show (-2147483648) ≤ (Sx100_.2.2.1 121 0 vx17_.toNat) ∧ (Sx100_.2.2.1 121 0 vx17_.toNat) ≤ 2147483647 from ⟨by omega, by omega⟩)
        have hFx115_ : ai_fr (sx_W vw_322) S0_ (sm_aI Sx100_ 138 0 (Sx100_.1 13 0 34).toNat (Sx100_.2.2.1 121 0 vx17_.toNat)) := ai_fr_tr hFx104_ (ai_fr_aI rfl)
        refine sm_T_go 2 (c1 := (102, [some (.inr (.inr (some (13, 0)))), some (.inl (S0_.1 13 0 9)), some (.inl vx17_), some (.inl 0)], [], sm_aI Sx100_ 138 0 (Sx100_.1 13 0 34).toNat (Sx100_.2.2.1 121 0 vx17_.toNat))) rfl ?_
        refine sm_T_wk [some (.inr (.inr (some (13, 0)))), some (.inl (S0_.1 13 0 9)), none, some (.inl 0)] (by exact ⟨rfl, rfl, rfl, trivial⟩) ?_
        refine (vl_322 b_ n_ T_ mo_ p_ i_ gl_ S0_ ht_ hf_ hi_ hv_ hmo_ hw_ hk_ hm2_ vp0_ _) (S0_.1 13 0 9) 0 (sm_aI Sx100_ 138 0 (Sx100_.1 13 0 34).toNat (Sx100_.2.2.1 121 0 vx17_.toNat)) hIx114_ hFx115_ ⟨?_, ?_, trivial⟩ (Nat.lt_succ_self _)
        · omega
        · first | (have g52_ := g51_; rw [hx4b] at g52_; first | (exfalso; exact g52_.2.2 (g52_.1.symm.trans hz5_)) | (refine ⟨fun e_ he_ => ?_, fun r9_ hr_ => ?_⟩; (first | (rw [cw3_] at he_; cases he_; exact rw9_ _ _ g52_ (hFx115_.1 13 0 32 rfl) (hFx115_.1 13 0 27 rfl)) | (rw [crv_] at he_; cases he_; exact rw9_ _ _ g52_ (hFx115_.1 13 0 32 rfl) (hFx115_.1 13 0 27 rfl))); (first | (rw [cw3_] at hr_; cases hr_) | (rw [crv_] at hr_; cases hr_)))) | (obtain ⟨u5_, i5_, hu5_, e51_, e52_⟩ := rg_r g51_ hz5_; rw [hx4b, pb_r rfl] at hu5_; have nv51_ := (congrFun nn51_ _).trans nv_.1; have sg_ := shl_ge (x_ := lx_vl b_ n_ p_) (w_ := lx_vl b_ n_ r_) vp0_ hin_; rw [na51_, nv51_] at cx111_; first | (have hp5_ : p_co b_ n_ p_ = .inl (12, p_) := (by rw [crv_, hu5_, pb_r rfl, if_neg (sg_.mp (by omega))]); have g82_ : rg b_ n_ T_ (.inl (12, p_)) _ := (by rcases e82_ with z_ | z_; (exact absurd hz5_ z_.1); (exact ⟨z_.2.1, z_.2.2.trans pa51_, by show (12 : Int) ≠ 0; decide⟩)); refine ⟨fun e_ he_ => ?_, fun r9_ hr_ => ?_⟩; (rw [hp5_] at he_; cases he_; exact rw9_ _ _ g82_ (hFx115_.1 13 0 32 rfl) (hFx115_.1 13 0 27 rfl)); (rw [hp5_] at hr_; cases hr_)) | (have hp5_ : p_co b_ n_ p_ = .inr (u5_, lx_vl b_ n_ r_, [cw 8 (lx_vl b_ n_ r_) (lx_vl b_ n_ p_)]) := (by rw [crv_, hu5_, pb_r rfl, if_pos (by by_cases q_ : lx_vl b_ n_ p_ / 2 ^ (lx_vl b_ n_ r_).toNat = 0; exact q_; (have := sg_.mpr q_; omega))]); refine ⟨fun e_ he_ => ?_, fun r9_ hr_ => ?_⟩; (rw [hp5_] at he_; cases he_); (rw [hp5_] at hr_; cases hr_; refine ⟨⟨hz5_, i5_, e51_, e52_⟩, fun l_ hl_ hs_ => ?_⟩; refine stk_pu (by omega) nv51_ ?_; rw [w51_]; exact hs_))) | (obtain ⟨e5_, he5_⟩ := rg_w g51_ hz5_; have g52_ := g51_; rw [he5_] at g52_; have hp5_ : p_co b_ n_ p_ = .inl e5_ := (by rw [crv_]; rw [hx4b, pb_r rfl] at he5_; rw [he5_]; rfl); refine ⟨fun e_ he_ => ?_, fun r9_ hr_ => ?_⟩; (rw [hp5_] at he_; cases he_; exact rw9_ _ _ g52_ (hFx115_.1 13 0 32 rfl) (hFx115_.1 13 0 27 rfl)); (rw [hp5_] at hr_; cases hr_))
      · have cx111_ : ¬ (vx110_ = 0) := of_decide_eq_false cx111_
        have hz5_ := rt_if e55_ (by omega)
        refine sm_T_go 3 (c1 := (66, [some (.inr (.inr (some (13, 0)))), some (.inl (S0_.1 13 0 9)), some (.inl vx17_), none], [.inl (S0_.1 13 0 9), .inr (.inr (some (121, 0)))], Sx100_)) rfl ?_
        refine sm_T_iald (n := 65537) rfl rfl (by omega) (by omega) ?_
        have bx116_ : (-2147483648) ≤ Sx100_.2.2.1 121 0 (S0_.1 13 0 9).toNat ∧ Sx100_.2.2.1 121 0 (S0_.1 13 0 9).toNat ≤ 2147483647 := hIx101_.2 121 0 _
        refine sm_T_go 4 (c1 := (73, [some (.inr (.inr (some (13, 0)))), some (.inl (S0_.1 13 0 9)), some (.inl vx17_), none], [.inl vx17_, .inr (.inr (some (121, 0))), .inl 1, .inl (Sx100_.2.2.1 121 0 (S0_.1 13 0 9).toNat)], Sx100_)) rfl ?_
        refine sm_T_iald (n := 65537) rfl rfl (by omega) (by omega) ?_
        have bx117_ : (-2147483648) ≤ Sx100_.2.2.1 121 0 vx17_.toNat ∧ Sx100_.2.2.1 121 0 vx17_.toNat ≤ 2147483647 := hIx101_.2 121 0 _
        refine sm_T_bin (w := (i_shl 1 (Sx100_.2.2.1 121 0 vx17_.toNat))) rfl rfl ?_
        refine sm_T_br (a := 2) (z := 10) rfl (fun cx118_ => ?_) (fun cx118_ => ?_)
        · have cx118_ : (Sx100_.2.2.1 121 0 (S0_.1 13 0 9).toNat) < (i_shl 1 (Sx100_.2.2.1 121 0 vx17_.toNat)) := of_decide_eq_true cx118_
          have bx119_ : 0 ≤ Sx100_.1 13 0 34 ∧ Sx100_.1 13 0 34 ≤ 1023 := hIx101_.1 13 0 34 rfl
          refine sm_T_go 7 (c1 := (98, [some (.inr (.inr (some (13, 0)))), some (.inl (S0_.1 13 0 9)), some (.inl vx17_), none], [.inl vx17_, .inr (.inr (some (121, 0))), .inl (Sx100_.1 13 0 34), .inr (.inr (some (138, 0)))], Sx100_)) rfl ?_
          refine sm_T_iald (n := 65537) rfl rfl (by omega) (by omega) ?_
          refine sm_T_iast (n := 1024) rfl rfl (by omega) (by omega) ?_
          have hIx120_ : gi (sm_aI Sx100_ 138 0 (Sx100_.1 13 0 34).toNat (Sx100_.2.2.1 121 0 vx17_.toNat)) := gi_aI hIx101_ (show (-2147483648) ≤ (Sx100_.2.2.1 121 0 vx17_.toNat) ∧ (Sx100_.2.2.1 121 0 vx17_.toNat) ≤ 2147483647 from ⟨by omega, by omega⟩)
          have hFx121_ : ai_fr (sx_W vw_322) S0_ (sm_aI Sx100_ 138 0 (Sx100_.1 13 0 34).toNat (Sx100_.2.2.1 121 0 vx17_.toNat)) := ai_fr_tr hFx104_ (ai_fr_aI rfl)
          refine sm_T_go 2 (c1 := (102, [some (.inr (.inr (some (13, 0)))), some (.inl (S0_.1 13 0 9)), some (.inl vx17_), some (.inl 0)], [], sm_aI Sx100_ 138 0 (Sx100_.1 13 0 34).toNat (Sx100_.2.2.1 121 0 vx17_.toNat))) rfl ?_
          refine sm_T_wk [some (.inr (.inr (some (13, 0)))), some (.inl (S0_.1 13 0 9)), none, some (.inl 0)] (by exact ⟨rfl, rfl, rfl, trivial⟩) ?_
          refine (vl_322 b_ n_ T_ mo_ p_ i_ gl_ S0_ ht_ hf_ hi_ hv_ hmo_ hw_ hk_ hm2_ vp0_ _) (S0_.1 13 0 9) 0 (sm_aI Sx100_ 138 0 (Sx100_.1 13 0 34).toNat (Sx100_.2.2.1 121 0 vx17_.toNat)) hIx120_ hFx121_ ⟨?_, ?_, trivial⟩ (Nat.lt_succ_self _)
          · omega
          · first | (have g52_ := g51_; rw [hx4b] at g52_; first | (exfalso; exact g52_.2.2 (g52_.1.symm.trans hz5_)) | (refine ⟨fun e_ he_ => ?_, fun r9_ hr_ => ?_⟩; (first | (rw [cw3_] at he_; cases he_; exact rw9_ _ _ g52_ (hFx121_.1 13 0 32 rfl) (hFx121_.1 13 0 27 rfl)) | (rw [crv_] at he_; cases he_; exact rw9_ _ _ g52_ (hFx121_.1 13 0 32 rfl) (hFx121_.1 13 0 27 rfl))); (first | (rw [cw3_] at hr_; cases hr_) | (rw [crv_] at hr_; cases hr_)))) | (obtain ⟨u5_, i5_, hu5_, e51_, e52_⟩ := rg_r g51_ hz5_; rw [hx4b, pb_r rfl] at hu5_; have nv51_ := (congrFun nn51_ _).trans nv_.1; have sg_ := shl_ge (x_ := lx_vl b_ n_ p_) (w_ := lx_vl b_ n_ r_) vp0_ hin_; rw [na51_, nv51_] at cx118_; first | (have hp5_ : p_co b_ n_ p_ = .inl (12, p_) := (by rw [crv_, hu5_, pb_r rfl, if_neg (sg_.mp (by omega))]); have g82_ : rg b_ n_ T_ (.inl (12, p_)) _ := (by rcases e82_ with z_ | z_; (exact absurd hz5_ z_.1); (exact ⟨z_.2.1, z_.2.2.trans pa51_, by show (12 : Int) ≠ 0; decide⟩)); refine ⟨fun e_ he_ => ?_, fun r9_ hr_ => ?_⟩; (rw [hp5_] at he_; cases he_; exact rw9_ _ _ g82_ (hFx121_.1 13 0 32 rfl) (hFx121_.1 13 0 27 rfl)); (rw [hp5_] at hr_; cases hr_)) | (have hp5_ : p_co b_ n_ p_ = .inr (u5_, lx_vl b_ n_ r_, [cw 8 (lx_vl b_ n_ r_) (lx_vl b_ n_ p_)]) := (by rw [crv_, hu5_, pb_r rfl, if_pos (by by_cases q_ : lx_vl b_ n_ p_ / 2 ^ (lx_vl b_ n_ r_).toNat = 0; exact q_; (have := sg_.mpr q_; omega))]); refine ⟨fun e_ he_ => ?_, fun r9_ hr_ => ?_⟩; (rw [hp5_] at he_; cases he_); (rw [hp5_] at hr_; cases hr_; refine ⟨⟨hz5_, i5_, e51_, e52_⟩, fun l_ hl_ hs_ => ?_⟩; refine stk_pu (by omega) nv51_ ?_; rw [w51_]; exact hs_))) | (obtain ⟨e5_, he5_⟩ := rg_w g51_ hz5_; have g52_ := g51_; rw [he5_] at g52_; have hp5_ : p_co b_ n_ p_ = .inl e5_ := (by rw [crv_]; rw [hx4b, pb_r rfl] at he5_; rw [he5_]; rfl); refine ⟨fun e_ he_ => ?_, fun r9_ hr_ => ?_⟩; (rw [hp5_] at he_; cases he_; exact rw9_ _ _ g52_ (hFx121_.1 13 0 32 rfl) (hFx121_.1 13 0 27 rfl)); (rw [hp5_] at hr_; cases hr_))
        · have cx118_ : ¬ ((Sx100_.2.2.1 121 0 (S0_.1 13 0 9).toNat) < (i_shl 1 (Sx100_.2.2.1 121 0 vx17_.toNat))) := of_decide_eq_false cx118_
          refine sm_T_go 3 (c1 := (82, [some (.inr (.inr (some (13, 0)))), some (.inl (S0_.1 13 0 9)), some (.inl vx17_), none], [.inl (S0_.1 13 0 9), .inl 12, .inr (.inr (some (13, 0)))], Sx100_)) rfl ?_
          refine sm_T_cal (d1 := 0) (Q1 := vq_294 12 (S0_.1 13 0 9) Sx100_) rfl rfl (by decide) (vc_294 12 (S0_.1 13 0 9) Sx100_ hIx101_ (by decide) (by omega)) (fun u_ Sx122_ px125_ => ?_)
          obtain ⟨rfl, hIx123_, hFx124_, px125_⟩ := px125_
          have hFx126_ : ai_fr (sx_W vw_322) S0_ Sx122_ := ai_fr_tr hFx104_ (fr_le hFx124_ rfl)
          have e82_ := px125_
          have w82_ := (fr_arr (t := 138) (i := 0) hFx124_ rfl).trans w51_
          have vl82_ : Sx122_.1 13 0 34 = (gl_ : Int) := (hFx126_.1 13 0 34 rfl).trans hv_.1
          have bx127_ : 0 ≤ Sx122_.1 13 0 34 ∧ Sx122_.1 13 0 34 ≤ 1023 := hIx123_.1 13 0 34 rfl
          refine sm_T_go 7 (c1 := (98, [some (.inr (.inr (some (13, 0)))), some (.inl (S0_.1 13 0 9)), some (.inl vx17_), none], [.inl vx17_, .inr (.inr (some (121, 0))), .inl (Sx122_.1 13 0 34), .inr (.inr (some (138, 0)))], Sx122_)) rfl ?_
          refine sm_T_iald (n := 65537) rfl rfl (by omega) (by omega) ?_
          have bx128_ : (-2147483648) ≤ Sx122_.2.2.1 121 0 vx17_.toNat ∧ Sx122_.2.2.1 121 0 vx17_.toNat ≤ 2147483647 := hIx123_.2 121 0 _
          refine sm_T_iast (n := 1024) rfl rfl (by omega) (by omega) ?_
          have hIx129_ : gi (sm_aI Sx122_ 138 0 (Sx122_.1 13 0 34).toNat (Sx122_.2.2.1 121 0 vx17_.toNat)) := gi_aI hIx123_ (show (-2147483648) ≤ (Sx122_.2.2.1 121 0 vx17_.toNat) ∧ (Sx122_.2.2.1 121 0 vx17_.toNat) ≤ 2147483647 from ⟨by omega, by omega⟩)
          have hFx130_ : ai_fr (sx_W vw_322) S0_ (sm_aI Sx122_ 138 0 (Sx122_.1 13 0 34).toNat (Sx122_.2.2.1 121 0 vx17_.toNat)) := ai_fr_tr hFx126_ (ai_fr_aI rfl)
          refine sm_T_go 2 (c1 := (102, [some (.inr (.inr (some (13, 0)))), some (.inl (S0_.1 13 0 9)), some (.inl vx17_), some (.inl 0)], [], sm_aI Sx122_ 138 0 (Sx122_.1 13 0 34).toNat (Sx122_.2.2.1 121 0 vx17_.toNat))) rfl ?_
          refine sm_T_wk [some (.inr (.inr (some (13, 0)))), some (.inl (S0_.1 13 0 9)), none, some (.inl 0)] (by exact ⟨rfl, rfl, rfl, trivial⟩) ?_
          refine (vl_322 b_ n_ T_ mo_ p_ i_ gl_ S0_ ht_ hf_ hi_ hv_ hmo_ hw_ hk_ hm2_ vp0_ _) (S0_.1 13 0 9) 0 (sm_aI Sx122_ 138 0 (Sx122_.1 13 0 34).toNat (Sx122_.2.2.1 121 0 vx17_.toNat)) hIx129_ hFx130_ ⟨?_, ?_, trivial⟩ (Nat.lt_succ_self _)
          · omega
          · first | (have g52_ := g51_; rw [hx4b] at g52_; first | (exfalso; exact g52_.2.2 (g52_.1.symm.trans hz5_)) | (refine ⟨fun e_ he_ => ?_, fun r9_ hr_ => ?_⟩; (first | (rw [cw3_] at he_; cases he_; exact rw9_ _ _ g52_ (hFx130_.1 13 0 32 rfl) (hFx130_.1 13 0 27 rfl)) | (rw [crv_] at he_; cases he_; exact rw9_ _ _ g52_ (hFx130_.1 13 0 32 rfl) (hFx130_.1 13 0 27 rfl))); (first | (rw [cw3_] at hr_; cases hr_) | (rw [crv_] at hr_; cases hr_)))) | (obtain ⟨u5_, i5_, hu5_, e51_, e52_⟩ := rg_r g51_ hz5_; rw [hx4b, pb_r rfl] at hu5_; have nv51_ := (congrFun nn51_ _).trans nv_.1; have sg_ := shl_ge (x_ := lx_vl b_ n_ p_) (w_ := lx_vl b_ n_ r_) vp0_ hin_; rw [na51_, nv51_] at cx118_; first | (have hp5_ : p_co b_ n_ p_ = .inl (12, p_) := (by rw [crv_, hu5_, pb_r rfl, if_neg (sg_.mp (by omega))]); have g82_ : rg b_ n_ T_ (.inl (12, p_)) _ := (by rcases e82_ with z_ | z_; (exact absurd hz5_ z_.1); (exact ⟨z_.2.1, z_.2.2.trans pa51_, by show (12 : Int) ≠ 0; decide⟩)); refine ⟨fun e_ he_ => ?_, fun r9_ hr_ => ?_⟩; (rw [hp5_] at he_; cases he_; exact rw9_ _ _ g82_ (hFx130_.1 13 0 32 rfl) (hFx130_.1 13 0 27 rfl)); (rw [hp5_] at hr_; cases hr_)) | (have hp5_ : p_co b_ n_ p_ = .inr (u5_, lx_vl b_ n_ r_, [cw 8 (lx_vl b_ n_ r_) (lx_vl b_ n_ p_)]) := (by rw [crv_, hu5_, pb_r rfl, if_pos (by by_cases q_ : lx_vl b_ n_ p_ / 2 ^ (lx_vl b_ n_ r_).toNat = 0; exact q_; (have := sg_.mpr q_; omega))]); refine ⟨fun e_ he_ => ?_, fun r9_ hr_ => ?_⟩; (rw [hp5_] at he_; cases he_); (rw [hp5_] at hr_; cases hr_; refine ⟨⟨hz5_, i5_, e51_, e52_⟩, fun l_ hl_ hs_ => ?_⟩; refine stk_pu (by omega) nv51_ ?_; rw [w51_]; exact hs_))) | (obtain ⟨e5_, he5_⟩ := rg_w g51_ hz5_; have g52_ := g51_; rw [he5_] at g52_; have hp5_ : p_co b_ n_ p_ = .inl e5_ := (by rw [crv_]; rw [hx4b, pb_r rfl] at he5_; rw [he5_]; rfl); refine ⟨fun e_ he_ => ?_, fun r9_ hr_ => ?_⟩; (rw [hp5_] at he_; cases he_; exact rw9_ _ _ g52_ (hFx130_.1 13 0 32 rfl) (hFx130_.1 13 0 27 rfl)); (rw [hp5_] at hr_; cases hr_))
