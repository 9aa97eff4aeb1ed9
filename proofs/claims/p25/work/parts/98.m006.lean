/-! 99.y9 -/
section
/-! the reference: constants; written by wip/p55/gen/vg -/

/-! constants -/
def p_c3 (b_ : Nat → Int) (n_ p_ : Nat) : pE Nat := pb (pb (pb (.inr p_) (p_ad b_ n_)) (p_nd b_ n_ 64)) (p_du b_ n_ 2)
theorem c3_w {b_ : Nat → Int} {n_ p_ : Nat} {e_ : Int × Nat} (h_ : p_c3 b_ n_ p_ = .inl e_) : p_co b_ n_ p_ = .inl e_ := by
  unfold p_c3 at h_
  rw [pb_r rfl] at h_
  unfold p_co
  cases h1_ : p_ad b_ n_ p_ with
  | inl z_ => rw [h1_] at h_; cases h_; rfl
  | inr q_ =>
    rw [h1_, pb_r rfl] at h_
    rw [pb_r rfl]
    unfold p_nd at h_
    split at h_
    · rename_i g_
      rw [if_pos g_]
      cases h2_ : p_ad b_ n_ q_ with
      | inl z_ => rw [h2_] at h_; cases h_; rfl
      | inr r_ =>
        rw [h2_, pb_r rfl] at h_
        rw [pb_r rfl]
        unfold p_du at h_
        unfold p_nu
        split at h_
        · cases h_
        · rename_i g2_
          cases h_
          rw [if_neg g2_]
          rfl
    · rename_i g_
      cases h_
      rw [if_neg g_]
theorem c3_r {b_ : Nat → Int} {n_ p_ r_ : Nat} (h_ : p_c3 b_ n_ p_ = .inr r_) : lx_kd b_ n_ r_ = 2 ∧ p_co b_ n_ p_ = if lx_vl b_ n_ r_ < 1 ∨ 8 < lx_vl b_ n_ r_ then .inl (12, r_) else pb (p_ad b_ n_ r_) fun u_ => if lx_vl b_ n_ p_ / 2 ^ (lx_vl b_ n_ r_).toNat = 0 then .inr (u_, lx_vl b_ n_ r_, [cw 8 (lx_vl b_ n_ r_) (lx_vl b_ n_ p_)]) else .inl (12, p_) := by
  obtain ⟨r1_, h1_, h2_⟩ := pb_inr h_
  obtain ⟨q_, h3_, h4_⟩ := pb_inr h1_
  rw [pb_r rfl] at h3_
  unfold p_nd at h4_
  split at h4_
  · rename_i g_
    unfold p_du at h2_
    split at h2_
    · rename_i g2_
      cases h2_
      refine ⟨g2_, ?_⟩
      unfold p_co
      rw [pb_r h3_, if_pos g_, pb_r h4_]
      unfold p_nu
      rw [if_pos g2_]
      split
      · rfl
      · rfl
    · cases h2_
  · cases h4_
theorem shl_ge {x_ w_ : Int} (hx_ : 0 ≤ x_) (hw_ : 1 ≤ w_ ∧ w_ ≤ 8) : i_shl 1 w_ ≤ x_ ↔ ¬ (x_ / 2 ^ w_.toNat = 0) := by
  rw [i_shl1 (by omega) (by omega)]
  have h1_ := pw_8 w_.toNat (by omega)
  generalize (2 : Int) ^ w_.toNat = y_ at *
  constructor
  · intro h_
    have := Int.le_ediv_of_mul_le (show 0 < y_ by omega) (show 1 * y_ ≤ x_ by omega)
    omega
  · intro h_
    by_cases g_ : y_ ≤ x_
    · exact g_
    · exact absurd (Int.ediv_eq_zero_of_lt hx_ (by omega)) h_
theorem rt_if {v_ f_ : Int} (h_ : v_ = if f_ = 0 then 1 else 0) (hv_ : v_ ≠ 0) : f_ = 0 := by
  by_cases z_ : f_ = 0
  · exact z_
  · rw [if_neg z_] at h_; exact absurd h_ hv_
theorem wr_if {v_ f_ : Int} (h_ : v_ = if f_ = 0 then 1 else 0) (hv_ : v_ = 0) : f_ ≠ 0 := by
  intro z_
  rw [if_pos z_] at h_
  omega
/-! M_.plainNumber -/
def vw_322 : sx_Wl := ([(13, 9), (13, 10), (13, 11)], [138, 139], [])
def vq_322 (b_ : Nat → Int) (n_ : Nat) (T_ : Nat) (mo_ : Int) (p_ : Nat) (i_ : Nat) (gl_ : Nat) (S0_ : sm_S) (u_ : Option sm_V) (S1_ : sm_S) : Prop := u_ = none ∧ gi S1_ ∧ ai_fr (sx_W vw_322) S0_ S1_ ∧ ((∀ e_, p_co b_ n_ p_ = .inl e_ → rwr mo_ e_ S1_) ∧ (∀ r_, p_co b_ n_ p_ = .inr r_ → rg b_ n_ T_ (.inr r_.1) S1_ ∧ ∀ l_ : List Int, l_.length = gl_ → stk (S0_.2.2.1 138 0) l_ → stk (S1_.2.2.1 138 0) (r_.2.1 :: l_)))
set_option maxHeartbeats 1500000 in
theorem vl_322 {sc_ : Nat × (Nat → Int)} (b_ : Nat → Int) (n_ : Nat) (T_ : Nat) (mo_ : Int) (p_ : Nat) (i_ : Nat) (gl_ : Nat) (S0_ : sm_S) (ht_ : rtab b_ n_ T_ S0_) (hf_ : (S0_.1 13 0 10) = 0) (hi_ : (S0_.1 13 0 9) = (i_ : Int) ∧ rp b_ n_ T_ i_ p_) (hv_ : (S0_.1 13 0 34) = (gl_ : Int) ∧ gl_ ≤ 1000) (hmo_ : (S0_.1 13 0 27) = mo_) (hw_ : (S0_.1 13 0 32) ≤ 800) (hk_ : lx_kd b_ n_ p_ = 2) (hm2_ : mo_ ≠ 2) (vp0_ : 0 ≤ lx_vl b_ n_ p_) : ∀ nn_ : Nat, (∀ (a_ : Int) (k_ : Int) (S_ : sm_S), gi S_ → ai_fr (sx_W vw_322) S0_ S_ → ((0 ≤ k_ ∧ k_ ≤ 8 ∧ 0 ≤ a_ ∧ a_ ≤ 1280) ∧ ((∀ e_, p_co b_ n_ p_ = .inl e_ → rwr mo_ e_ S_) ∧ (∀ r_, p_co b_ n_ p_ = .inr r_ → rg b_ n_ T_ (.inr r_.1) S_ ∧ ∀ l_ : List Int, l_.length = gl_ → stk (S0_.2.2.1 138 0) l_ → stk (S_.2.2.1 138 0) (r_.2.1 :: l_))) ∧ True) → ((8 - k_).toNat) < nn_ → sm_T (mt_P sc_) 4 322 (102, [some (.inr (.inr (some (13, 0)))), some (.inl a_), none, some (.inl k_)], [], S_) (fun r_ => ∃ u_ S1_, r_ = (.inl u_, S1_, 0) ∧ vq_322 b_ n_ T_ mo_ p_ i_ gl_ S0_ u_ S1_)) := by
  intro nn_
  induction nn_ with
  | zero => exact fun _ _ _ _ _ _ h_ => absurd h_ (Nat.not_lt_zero _)
  | succ nn_ ih_ =>
    rintro a_ k_ S_ hI_ hF_ ⟨h0_, h1_, -⟩ hm_
    refine sm_T_go 2 (c1 := (105, [some (.inr (.inr (some (13, 0)))), some (.inl a_), none, some (.inl k_)], [.inl 8, .inl k_], S_)) rfl ?_
    refine sm_T_br (a := 3) (z := 33) rfl (fun cx1_ => ?_) (fun cx1_ => ?_)
    · have cx1_ : 8 ≤ k_ := of_decide_eq_true cx1_
      refine sm_T_rv rfl ⟨_, _, rfl, rfl, hI_, hF_, ?_⟩
      exact h1_
    · have cx1_ : ¬ (8 ≤ k_) := of_decide_eq_false cx1_
      have bx2_ : 0 ≤ S_.1 13 0 34 ∧ S_.1 13 0 34 ≤ 1023 := hI_.1 13 0 34 rfl
      refine sm_T_go 5 (c1 := (118, [some (.inr (.inr (some (13, 0)))), some (.inl a_), none, some (.inl k_)], [.inl (S_.1 13 0 34), .inl 8, .inr (.inr (some (139, 0)))], S_)) rfl ?_
      refine sm_T_bin (w := 8 * (S_.1 13 0 34)) rfl (bi_mul (by omega) (by omega) (by omega)) ?_
      refine sm_T_go 1 (c1 := (120, [some (.inr (.inr (some (13, 0)))), some (.inl a_), none, some (.inl k_)], [.inl k_, .inl (8 * (S_.1 13 0 34)), .inr (.inr (some (139, 0)))], S_)) rfl ?_
      refine sm_T_bin (w := 8 * (S_.1 13 0 34) + k_) rfl (bi_add (by omega) (by omega) (by omega)) ?_
      refine sm_T_go 3 (c1 := (126, [some (.inr (.inr (some (13, 0)))), some (.inl a_), none, some (.inl k_)], [.inl a_, .inr (.inr (some (121, 0))), .inl (8 * (S_.1 13 0 34) + k_), .inr (.inr (some (139, 0)))], S_)) rfl ?_
      refine sm_T_iald (n := 65537) rfl rfl (by omega) (by omega) ?_
      have bx3_ : (-2147483648) ≤ S_.2.2.1 121 0 a_.toNat ∧ S_.2.2.1 121 0 a_.toNat ≤ 2147483647 := hI_.2 121 0 _
      refine sm_T_go 1 (c1 := (128, [some (.inr (.inr (some (13, 0)))), some (.inl a_), none, some (.inl k_)], [.inl k_, .inl (S_.2.2.1 121 0 a_.toNat), .inl (8 * (S_.1 13 0 34) + k_), .inr (.inr (some (139, 0)))], S_)) rfl ?_
      refine sm_T_bin (w := (i_shr (S_.2.2.1 121 0 a_.toNat) k_)) rfl rfl ?_
      refine sm_T_go 1 (c1 := (130, [some (.inr (.inr (some (13, 0)))), some (.inl a_), none, some (.inl k_)], [.inl 1, .inl (i_shr (S_.2.2.1 121 0 a_.toNat) k_), .inl (8 * (S_.1 13 0 34) + k_), .inr (.inr (some (139, 0)))], S_)) rfl ?_
      refine sm_T_bin (w := ((i_shr (S_.2.2.1 121 0 a_.toNat) k_) % 2)) rfl (bi_msk (k := 1) (by decide)) ?_
      refine sm_T_iast (n := 8192) rfl rfl (by omega) (by omega) ?_
      have hIx4_ : gi (sm_aI S_ 139 0 (8 * (S_.1 13 0 34) + k_).toNat ((i_shr (S_.2.2.1 121 0 a_.toNat) k_) % 2)) := gi_aI hI_ (show 0 ≤ ((i_shr (S_.2.2.1 121 0 a_.toNat) k_) % 2) ∧ ((i_shr (S_.2.2.1 121 0 a_.toNat) k_) % 2) ≤ 2047 from ⟨by omega, by omega⟩)
      have hFx5_ : ai_fr (sx_W vw_322) S0_ (sm_aI S_ 139 0 (8 * (S_.1 13 0 34) + k_).toNat ((i_shr (S_.2.2.1 121 0 a_.toNat) k_) % 2)) := ai_fr_tr hF_ (ai_fr_aI rfl)
      refine sm_T_inc (a := 3) (z := 1) (v := k_) (w := k_ + 1) rfl rfl (by omega) (by omega) (by omega) ?_
      refine sm_T_go 1 (c1 := (102, [some (.inr (.inr (some (13, 0)))), some (.inl a_), none, some (.inl (k_ + 1))], [], sm_aI S_ 139 0 (8 * (S_.1 13 0 34) + k_).toNat ((i_shr (S_.2.2.1 121 0 a_.toNat) k_) % 2))) rfl ?_
      refine ih_ a_ (k_ + 1) (sm_aI S_ 139 0 (8 * (S_.1 13 0 34) + k_).toNat ((i_shr (S_.2.2.1 121 0 a_.toNat) k_) % 2)) hIx4_ hFx5_ ⟨?_, ?_, trivial⟩ ?_
      · omega
      · exact ⟨h1_.1, fun r_ hr_ => ⟨(h1_.2 r_ hr_).1, fun l_ hl_ hs_ => stk_ot ((h1_.2 r_ hr_).2 l_ hl_ hs_) (by decide)⟩⟩
      · omega
set_option maxHeartbeats 1500000 in
theorem vc_322 {sc_ : Nat × (Nat → Int)} (b_ : Nat → Int) (n_ : Nat) (T_ : Nat) (mo_ : Int) (p_ : Nat) (i_ : Nat) (gl_ : Nat) (S0_ : sm_S) (hI_ : gi S0_) (ht_ : rtab b_ n_ T_ S0_) (hf_ : (S0_.1 13 0 10) = 0) (hi_ : (S0_.1 13 0 9) = (i_ : Int) ∧ rp b_ n_ T_ i_ p_) (hv_ : (S0_.1 13 0 34) = (gl_ : Int) ∧ gl_ ≤ 1000) (hmo_ : (S0_.1 13 0 27) = mo_) (hw_ : (S0_.1 13 0 32) ≤ 800) (hk_ : lx_kd b_ n_ p_ = 2) (hm2_ : mo_ ≠ 2) (vp0_ : 0 ≤ lx_vl b_ n_ p_) : sm_T (mt_P sc_) 4 322 (0, [some (.inr (.inr (some (13, 0)))), none, none, none], [], S0_) (fun r_ => ∃ u_ S1_, r_ = (.inl u_, S1_, 0) ∧ vq_322 b_ n_ T_ mo_ p_ i_ gl_ S0_ u_ S1_) := by
  have hF_ : ai_fr (sx_W vw_322) S0_ S0_ := ai_fr_rf
  have hx_ : rg b_ n_ T_ (.inr p_) S0_ := ⟨hf_, i_, hi_.1, hi_.2⟩
  have hi9_ := hi_.2.1
  have hT_ := ht_.2.1
  have rw9_ : ∀ e_ : Int × Nat, ∀ S9_ : sm_S, rg b_ n_ T_ (.inl e_) S9_ → S9_.1 13 0 32 = S0_.1 13 0 32 → S9_.1 13 0 27 = S0_.1 13 0 27 → rwr mo_ e_ S9_ := fun e_ S9_ q1_ q2_ q3_ => ⟨q1_.1, q1_.2.1, q1_.2.2, by rw [q2_]; exact hw_, q3_.trans hmo_⟩
  have bx1_ : 0 ≤ S0_.1 13 0 9 ∧ S0_.1 13 0 9 ≤ 1280 := hI_.1 13 0 9 rfl
  refine sm_T_go 4 (c1 := (6, [some (.inr (.inr (some (13, 0)))), some (.inl (S0_.1 13 0 9)), none, none], [.inr (.inr (some (13, 0)))], S0_)) rfl ?_
  refine sm_T_cal (d1 := 2) (Q1 := vq_297 b_ n_ T_ (.inr p_) S0_) rfl rfl (by decide) (vc_297 b_ n_ T_ (.inr p_) S0_ hI_ (by exact ht_) (by exact hx_) (by (intro q_ e_; cases e_; omega))) (fun u_ Sx2_ px5_ => ?_)
  obtain ⟨rfl, hIx3_, hFx4_, px5_⟩ := px5_
  have hFx6_ : ai_fr (sx_W vw_322) S0_ Sx2_ := ai_fr_tr hF_ (fr_le hFx4_ rfl)
  have g6_ := px5_.1
  have t6_ := rtab_fr ht_ hFx4_ rfl rfl rfl rfl rfl
  have w6_ : Sx2_.2.2.1 138 0 = S0_.2.2.1 138 0 := fr_arr hFx4_ rfl
  refine sm_T_go 2 (c1 := (12, [some (.inr (.inr (some (13, 0)))), some (.inl (S0_.1 13 0 9)), none, none], [.inl 64, .inr (.inr (some (13, 0)))], Sx2_)) rfl ?_
  refine sm_T_cal (d1 := 3) (Q1 := vq_300 64 b_ n_ T_ (pb (.inr p_) (p_ad b_ n_)) Sx2_) rfl rfl (by decide) (vc_300 64 b_ n_ T_ (pb (.inr p_) (p_ad b_ n_)) Sx2_ hIx3_ (by exact t6_) (by exact g6_) (by decide)) (fun u_ Sx7_ px10_ => ?_)
  obtain ⟨rfl, hIx8_, hFx9_, px10_⟩ := px10_
  have hFx11_ : ai_fr (sx_W vw_322) S0_ Sx7_ := ai_fr_tr hFx6_ (fr_le hFx9_ rfl)
  have g12_ := px10_
  have t12_ := rtab_fr t6_ hFx9_ rfl rfl rfl rfl rfl
  have w12_ := (fr_arr (t := 138) (i := 0) hFx9_ rfl).trans w6_
  refine sm_T_go 2 (c1 := (17, [some (.inr (.inr (some (13, 0)))), some (.inl (S0_.1 13 0 9)), none, none], [.inl 2, .inr (.inr (some (13, 0)))], Sx7_)) rfl ?_
  refine sm_T_cal (d1 := 1) (Q1 := vq_299 2 b_ n_ T_ (pb (pb (.inr p_) (p_ad b_ n_)) (p_nd b_ n_ 64)) Sx7_) rfl rfl (by decide) (vc_299 2 b_ n_ T_ (pb (pb (.inr p_) (p_ad b_ n_)) (p_nd b_ n_ 64)) Sx7_ hIx8_ (by exact t12_) (by exact g12_) (by decide)) (fun u_ Sx12_ px15_ => ?_)
  obtain ⟨vx17_, rfl, hIx13_, hFx14_, px15_⟩ := px15_
  have hFx16_ : ai_fr (sx_W vw_322) S0_ Sx12_ := ai_fr_tr hFx11_ (fr_le hFx14_ rfl)
  have a17_ := px15_.1
  have g17_ : rg b_ n_ T_ (p_c3 b_ n_ p_) Sx12_ := px15_.2
  have t17_ := rtab_fr t12_ hFx14_ rfl rfl rfl rfl rfl
  have at17_ := hFx14_.1 13 0 9 rfl
  have w17_ := (fr_arr (t := 138) (i := 0) hFx14_ rfl).trans w12_
  have v17b : 0 ≤ vx17_ ∧ vx17_ ≤ 1280 := by rw [a17_, ← at17_]; exact hIx13_.1 13 0 9 rfl
  have nv17_ : ∀ r_ i3_ : Nat, Sx12_.1 13 0 9 = (i3_ : Int) → rp b_ n_ T_ i3_ r_ → lx_kd b_ n_ r_ = 2 → Sx12_.2.2.1 121 0 vx17_.toNat = lx_vl b_ n_ r_ ∧ Sx12_.2.2.1 120 0 vx17_.toNat = (r_ : Int) ∧ Sx12_.2.2.1 119 0 vx17_.toNat ≠ 4 := by intro r_ i3_ q1_ q2_ q3_; have q4_ := rp_at t17_ q2_; rw [show vx17_.toNat = i3_ by omega, q4_.1, q4_.2.1, q4_.2.2.1, q3_]; exact ⟨rfl, rfl, by decide⟩
  refine sm_T_go 2 (c1 := (22, [some (.inr (.inr (some (13, 0)))), some (.inl (S0_.1 13 0 9)), some (.inl vx17_), none], [.inr (.inr (some (13, 0)))], Sx12_)) rfl ?_
  refine sm_T_cal (d1 := 0) (Q1 := vq_292  Sx12_) rfl rfl (by decide) (vc_292  Sx12_ hIx13_ ) (fun u_ Sx18_ px21_ => ?_)
  obtain ⟨rfl, vx23_, rfl, px21_⟩ := px21_
  have e22_ := px21_
  refine sm_T_b0 (a := 0) (z := 25) rfl (fun cx24_ => ?_) (fun cx24_ => ?_)
  · have cx24_ : vx23_ = 0 := of_decide_eq_true cx24_
    obtain ⟨e3_, he3_⟩ := rg_w g17_ (wr_if e22_ (by omega))
    have cw3_ := c3_w he3_
    rw [he3_] at g17_
    obtain ⟨x4_, hx4_, hx4b⟩ : ∃ x4_ : pE Nat, rg b_ n_ T_ x4_ _ ∧ x4_ = .inl e3_ := ⟨_, g17_, rfl⟩
    have t50_ := t17_
    have w50_ := w17_
    refine sm_T_go 1 (c1 := (51, [some (.inr (.inr (some (13, 0)))), some (.inl (S0_.1 13 0 9)), some (.inl vx17_), none], [.inr (.inr (some (13, 0)))], Sx12_)) rfl ?_
    refine sm_T_cal (d1 := 2) (Q1 := vq_297 b_ n_ T_ x4_ Sx12_) rfl rfl (by decide) (vc_297 b_ n_ T_ x4_ Sx12_ hIx13_ (by exact t50_) (by exact hx4_) (by (intro q_ e_; rw [hx4b] at e_; first | (cases e_; done) | (cases e_; rw [cr.1]; decide)))) (fun u_ Sx25_ px28_ => ?_)
    obtain ⟨rfl, hIx26_, hFx27_, px28_⟩ := px28_
    have hFx29_ : ai_fr (sx_W vw_322) S0_ Sx25_ := ai_fr_tr hFx16_ (fr_le hFx27_ rfl)
    have g51_ := px28_.1
    have t51_ := rtab_fr t50_ hFx27_ rfl rfl rfl rfl rfl
    have na51_ : Sx25_.2.2.1 121 0 (S0_.1 13 0 9).toNat = lx_vl b_ n_ p_ := by rw [show (S0_.1 13 0 9).toNat = i_ by omega, (rp_at t51_ hi_.2).2.2.1, hk_]; rfl
    have pa51_ : Sx25_.2.2.1 120 0 (S0_.1 13 0 9).toNat = (p_ : Int) := by rw [show (S0_.1 13 0 9).toNat = i_ by omega]; exact (rp_at t51_ hi_.2).2.1
    have nn51_ := fr_arr (t := 121) (i := 0) hFx27_ rfl
    have vl51_ : Sx25_.1 13 0 34 = (gl_ : Int) := (hFx29_.1 13 0 34 rfl).trans hv_.1
    have w51_ := (fr_arr (t := 138) (i := 0) hFx27_ rfl).trans w50_
    refine sm_T_go 1 (c1 := (55, [some (.inr (.inr (some (13, 0)))), some (.inl (S0_.1 13 0 9)), some (.inl vx17_), none], [.inr (.inr (some (13, 0)))], Sx25_)) rfl ?_
    refine sm_T_cal (d1 := 0) (Q1 := vq_292  Sx25_) rfl rfl (by decide) (vc_292  Sx25_ hIx26_ ) (fun u_ Sx30_ px33_ => ?_)
    obtain ⟨rfl, vx35_, rfl, px33_⟩ := px33_
    have e55_ := px33_
    refine sm_T_b0 (a := 0) (z := 27) rfl (fun cx36_ => ?_) (fun cx36_ => ?_)
    · have cx36_ : vx35_ = 0 := of_decide_eq_true cx36_
      have hz5_ := wr_if e55_ (by omega)
      have bx37_ : 0 ≤ Sx25_.1 13 0 34 ∧ Sx25_.1 13 0 34 ≤ 1023 := hIx26_.1 13 0 34 rfl
      refine sm_T_go 7 (c1 := (98, [some (.inr (.inr (some (13, 0)))), some (.inl (S0_.1 13 0 9)), some (.inl vx17_), none], [.inl vx17_, .inr (.inr (some (121, 0))), .inl (Sx25_.1 13 0 34), .inr (.inr (some (138, 0)))], Sx25_)) rfl ?_
      refine sm_T_iald (n := 65537) rfl rfl (by omega) (by omega) ?_
      have bx38_ : (-2147483648) ≤ Sx25_.2.2.1 121 0 vx17_.toNat ∧ Sx25_.2.2.1 121 0 vx17_.toNat ≤ 2147483647 := hIx26_.2 121 0 _
      refine sm_T_iast (n := 1024) rfl rfl (by omega) (by omega) ?_
      have hIx39_ : gi (sm_aI Sx25_ 138 0 (Sx25_.1 13 0 34).toNat (Sx25_.2.2.1 121 0 vx17_.toNat)) := gi_aI hIx26_ (show (-2147483648) ≤ (Sx25_.2.2.1 121 0 vx17_.toNat) ∧ (Sx25_.2.2.1 121 0 vx17_.toNat) ≤ 2147483647 from ⟨by omega, by omega⟩)
      have hFx40_ : ai_fr (sx_W vw_322) S0_ (sm_aI Sx25_ 138 0 (Sx25_.1 13 0 34).toNat (Sx25_.2.2.1 121 0 vx17_.toNat)) := ai_fr_tr hFx29_ (ai_fr_aI rfl)
      refine sm_T_go 2 (c1 := (102, [some (.inr (.inr (some (13, 0)))), some (.inl (S0_.1 13 0 9)), some (.inl vx17_), some (.inl 0)], [], sm_aI Sx25_ 138 0 (Sx25_.1 13 0 34).toNat (Sx25_.2.2.1 121 0 vx17_.toNat))) rfl ?_
      refine sm_T_wk [some (.inr (.inr (some (13, 0)))), some (.inl (S0_.1 13 0 9)), none, some (.inl 0)] (by exact ⟨rfl, rfl, rfl, trivial⟩) ?_
      refine (vl_322 b_ n_ T_ mo_ p_ i_ gl_ S0_ ht_ hf_ hi_ hv_ hmo_ hw_ hk_ hm2_ vp0_ _) (S0_.1 13 0 9) 0 (sm_aI Sx25_ 138 0 (Sx25_.1 13 0 34).toNat (Sx25_.2.2.1 121 0 vx17_.toNat)) hIx39_ hFx40_ ⟨?_, ?_, trivial⟩ (Nat.lt_succ_self _)
      · omega
      · first | (have g52_ := g51_; rw [hx4b] at g52_; first | (exfalso; exact g52_.2.2 (g52_.1.symm.trans hz5_)) | (refine ⟨fun e_ he_ => ?_, fun r9_ hr_ => ?_⟩; (first | (rw [cw3_] at he_; cases he_; exact rw9_ _ _ g52_ (hFx40_.1 13 0 32 rfl) (hFx40_.1 13 0 27 rfl)) | (rw [crv_] at he_; cases he_; exact rw9_ _ _ g52_ (hFx40_.1 13 0 32 rfl) (hFx40_.1 13 0 27 rfl))); (first | (rw [cw3_] at hr_; cases hr_) | (rw [crv_] at hr_; cases hr_)))) | (obtain ⟨u5_, i5_, hu5_, e51_, e52_⟩ := rg_r g51_ hz5_; rw [hx4b, pb_r rfl] at hu5_; have nv51_ := (congrFun nn51_ _).trans nv_.1; have sg_ := shl_ge (x_ := lx_vl b_ n_ p_) (w_ := lx_vl b_ n_ r_) vp0_ hin_; rw [na51_, nv51_] at cx36_; first | (have hp5_ : p_co b_ n_ p_ = .inl (12, p_) := (by rw [crv_, hu5_, pb_r rfl, if_neg (sg_.mp (by omega))]); have g82_ : rg b_ n_ T_ (.inl (12, p_)) _ := (by rcases e82_ with z_ | z_; (exact absurd hz5_ z_.1); (exact ⟨z_.2.1, z_.2.2.trans pa51_, by show (12 : Int) ≠ 0; decide⟩)); refine ⟨fun e_ he_ => ?_, fun r9_ hr_ => ?_⟩; (rw [hp5_] at he_; cases he_; exact rw9_ _ _ g82_ (hFx40_.1 13 0 32 rfl) (hFx40_.1 13 0 27 rfl)); (rw [hp5_] at hr_; cases hr_)) | (have hp5_ : p_co b_ n_ p_ = .inr (u5_, lx_vl b_ n_ r_, [cw 8 (lx_vl b_ n_ r_) (lx_vl b_ n_ p_)]) := (by rw [crv_, hu5_, pb_r rfl, if_pos (by by_cases q_ : lx_vl b_ n_ p_ / 2 ^ (lx_vl b_ n_ r_).toNat = 0; exact q_; (have := sg_.mpr q_; omega))]); refine ⟨fun e_ he_ => ?_, fun r9_ hr_ => ?_⟩; (rw [hp5_] at he_; cases he_); (rw [hp5_] at hr_; cases hr_; refine ⟨⟨hz5_, i5_, e51_, e52_⟩, fun l_ hl_ hs_ => ?_⟩; refine stk_pu (by omega) nv51_ ?_; rw [w51_]; exact hs_))) | (obtain ⟨e5_, he5_⟩ := rg_w g51_ hz5_; have g52_ := g51_; rw [he5_] at g52_; have hp5_ : p_co b_ n_ p_ = .inl e5_ := (by rw [crv_]; rw [hx4b, pb_r rfl] at he5_; rw [he5_]; rfl); refine ⟨fun e_ he_ => ?_, fun r9_ hr_ => ?_⟩; (rw [hp5_] at he_; cases he_; exact rw9_ _ _ g52_ (hFx40_.1 13 0 32 rfl) (hFx40_.1 13 0 27 rfl)); (rw [hp5_] at hr_; cases hr_))
    · have cx36_ : ¬ (vx35_ = 0) := of_decide_eq_false cx36_
      have hz5_ := rt_if e55_ (by omega)
      refine sm_T_go 3 (c1 := (66, [some (.inr (.inr (some (13, 0)))), some (.inl (S0_.1 13 0 9)), some (.inl vx17_), none], [.inl (S0_.1 13 0 9), .inr (.inr (some (121, 0)))], Sx25_)) rfl ?_
      refine sm_T_iald (n := 65537) rfl rfl (by omega) (by omega) ?_
      have bx41_ : (-2147483648) ≤ Sx25_.2.2.1 121 0 (S0_.1 13 0 9).toNat ∧ Sx25_.2.2.1 121 0 (S0_.1 13 0 9).toNat ≤ 2147483647 := hIx26_.2 121 0 _
      refine sm_T_go 4 (c1 := (73, [some (.inr (.inr (some (13, 0)))), some (.inl (S0_.1 13 0 9)), some (.inl vx17_), none], [.inl vx17_, .inr (.inr (some (121, 0))), .inl 1, .inl (Sx25_.2.2.1 121 0 (S0_.1 13 0 9).toNat)], Sx25_)) rfl ?_
      refine sm_T_iald (n := 65537) rfl rfl (by omega) (by omega) ?_
      have bx42_ : (-2147483648) ≤ Sx25_.2.2.1 121 0 vx17_.toNat ∧ Sx25_.2.2.1 121 0 vx17_.toNat ≤ 2147483647 := hIx26_.2 121 0 _
      refine sm_T_bin (w := (i_shl 1 (Sx25_.2.2.1 121 0 vx17_.toNat))) rfl rfl ?_
      refine sm_T_br (a := 2) (z := 10) rfl (fun cx43_ => ?_) (fun cx43_ => ?_)
      · have cx43_ : (Sx25_.2.2.1 121 0 (S0_.1 13 0 9).toNat) < (i_shl 1 (Sx25_.2.2.1 121 0 vx17_.toNat)) := of_decide_eq_true cx43_
        have bx44_ : 0 ≤ Sx25_.1 13 0 34 ∧ Sx25_.1 13 0 34 ≤ 1023 := hIx26_.1 13 0 34 rfl
        refine sm_T_go 7 (c1 := (98, [some (.inr (.inr (some (13, 0)))), some (.inl (S0_.1 13 0 9)), some (.inl vx17_), none], [.inl vx17_, .inr (.inr (some (121, 0))), .inl (Sx25_.1 13 0 34), .inr (.inr (some (138, 0)))], Sx25_)) rfl ?_
        refine sm_T_iald (n := 65537) rfl rfl (by omega) (by omega) ?_
        refine sm_T_iast (n := 1024) rfl rfl (by omega) (by omega) ?_
        have hIx45_ : gi (sm_aI Sx25_ 138 0 (Sx25_.1 13 0 34).toNat (Sx25_.2.2.1 121 0 vx17_.toNat)) := gi_aI hIx26_ (show (-2147483648) ≤ (Sx25_.2.2.1 121 0 vx17_.toNat) ∧ (Sx25_.2.2.1 121 0 vx17_.toNat) ≤ 2147483647 from ⟨by omega, by omega⟩)
        have hFx46_ : ai_fr (sx_W vw_322) S0_ (sm_aI Sx25_ 138 0 (Sx25_.1 13 0 34).toNat (Sx25_.2.2.1 121 0 vx17_.toNat)) := ai_fr_tr hFx29_ (ai_fr_aI rfl)
        refine sm_T_go 2 (c1 := (102, [some (.inr (.inr (some (13, 0)))), some (.inl (S0_.1 13 0 9)), some (.inl vx17_), some (.inl 0)], [], sm_aI Sx25_ 138 0 (Sx25_.1 13 0 34).toNat (Sx25_.2.2.1 121 0 vx17_.toNat))) rfl ?_
        refine sm_T_wk [some (.inr (.inr (some (13, 0)))), some (.inl (S0_.1 13 0 9)), none, some (.inl 0)] (by exact ⟨rfl, rfl, rfl, trivial⟩) ?_
        refine (vl_322 b_ n_ T_ mo_ p_ i_ gl_ S0_ ht_ hf_ hi_ hv_ hmo_ hw_ hk_ hm2_ vp0_ _) (S0_.1 13 0 9) 0 (sm_aI Sx25_ 138 0 (Sx25_.1 13 0 34).toNat (Sx25_.2.2.1 121 0 vx17_.toNat)) hIx45_ hFx46_ ⟨?_, ?_, trivial⟩ (Nat.lt_succ_self _)
        · omega
        · first | (have g52_ := g51_; rw [hx4b] at g52_; first | (exfalso; exact g52_.2.2 (g52_.1.symm.trans hz5_)) | (refine ⟨fun e_ he_ => ?_, fun r9_ hr_ => ?_⟩; (first | (rw [cw3_] at he_; cases he_; exact rw9_ _ _ g52_ (hFx46_.1 13 0 32 rfl) (hFx46_.1 13 0 27 rfl)) | (rw [crv_] at he_; cases he_; exact rw9_ _ _ g52_ (hFx46_.1 13 0 32 rfl) (hFx46_.1 13 0 27 rfl))); (first | (rw [cw3_] at hr_; cases hr_) | (rw [crv_] at hr_; cases hr_)))) | (obtain ⟨u5_, i5_, hu5_, e51_, e52_⟩ := rg_r g51_ hz5_; rw [hx4b, pb_r rfl] at hu5_; have nv51_ := (congrFun nn51_ _).trans nv_.1; have sg_ := shl_ge (x_ := lx_vl b_ n_ p_) (w_ := lx_vl b_ n_ r_) vp0_ hin_; rw [na51_, nv51_] at cx43_; first | (have hp5_ : p_co b_ n_ p_ = .inl (12, p_) := (by rw [crv_, hu5_, pb_r rfl, if_neg (sg_.mp (by omega))]); have g82_ : rg b_ n_ T_ (.inl (12, p_)) _ := (by rcases e82_ with z_ | z_; (exact absurd hz5_ z_.1); (exact ⟨z_.2.1, z_.2.2.trans pa51_, by show (12 : Int) ≠ 0; decide⟩)); refine ⟨fun e_ he_ => ?_, fun r9_ hr_ => ?_⟩; (rw [hp5_] at he_; cases he_; exact rw9_ _ _ g82_ (hFx46_.1 13 0 32 rfl) (hFx46_.1 13 0 27 rfl)); (rw [hp5_] at hr_; cases hr_)) | (have hp5_ : p_co b_ n_ p_ = .inr (u5_, lx_vl b_ n_ r_, [cw 8 (lx_vl b_ n_ r_) (lx_vl b_ n_ p_)]) := (by rw [crv_, hu5_, pb_r rfl, if_pos (by by_cases q_ : lx_vl b_ n_ p_ / 2 ^ (lx_vl b_ n_ r_).toNat = 0; exact q_; (have := sg_.mpr q_; omega))]); refine ⟨fun e_ he_ => ?_, fun r9_ hr_ => ?_⟩; (rw [hp5_] at he_; cases he_); (rw [hp5_] at hr_; cases hr_; refine ⟨⟨hz5_, i5_, e51_, e52_⟩, fun l_ hl_ hs_ => ?_⟩; refine stk_pu (by omega) nv51_ ?_; rw [w51_]; exact hs_))) | (obtain ⟨e5_, he5_⟩ := rg_w g51_ hz5_; have g52_ := g51_; rw [he5_] at g52_; have hp5_ : p_co b_ n_ p_ = .inl e5_ := (by rw [crv_]; rw [hx4b, pb_r rfl] at he5_; rw [he5_]; rfl); refine ⟨fun e_ he_ => ?_, fun r9_ hr_ => ?_⟩; (rw [hp5_] at he_; cases he_; exact rw9_ _ _ g52_ (hFx46_.1 13 0 32 rfl) (hFx46_.1 13 0 27 rfl)); (rw [hp5_] at hr_; cases hr_))
      · have cx43_ : ¬ ((Sx25_.2.2.1 121 0 (S0_.1 13 0 9).toNat) < (i_shl 1 (Sx25_.2.2.1 121 0 vx17_.toNat))) := of_decide_eq_false cx43_
        refine sm_T_go 3 (c1 := (82, [some (.inr (.inr (some (13, 0)))), some (.inl (S0_.1 13 0 9)), some (.inl vx17_), none], [.inl (S0_.1 13 0 9), .inl 12, .inr (.inr (some (13, 0)))], Sx25_)) rfl ?_
        refine sm_T_cal (d1 := 0) (Q1 := vq_294 12 (S0_.1 13 0 9) Sx25_) rfl rfl (by decide) (vc_294 12 (S0_.1 13 0 9) Sx25_ hIx26_ (by decide) (by omega)) (fun u_ Sx47_ px50_ => ?_)
        obtain ⟨rfl, hIx48_, hFx49_, px50_⟩ := px50_
        have hFx51_ : ai_fr (sx_W vw_322) S0_ Sx47_ := ai_fr_tr hFx29_ (fr_le hFx49_ rfl)
        have e82_ := px50_
        have w82_ := (fr_arr (t := 138) (i := 0) hFx49_ rfl).trans w51_
        have vl82_ : Sx47_.1 13 0 34 = (gl_ : Int) := (hFx51_.1 13 0 34 rfl).trans hv_.1
        have bx52_ : 0 ≤ Sx47_.1 13 0 34 ∧ Sx47_.1 13 0 34 ≤ 1023 := hIx48_.1 13 0 34 rfl
        refine sm_T_go 7 (c1 := (98, [some (.inr (.inr (some (13, 0)))), some (.inl (S0_.1 13 0 9)), some (.inl vx17_), none], [.inl vx17_, .inr (.inr (some (121, 0))), .inl (Sx47_.1 13 0 34), .inr (.inr (some (138, 0)))], Sx47_)) rfl ?_
        refine sm_T_iald (n := 65537) rfl rfl (by omega) (by omega) ?_
        have bx53_ : (-2147483648) ≤ Sx47_.2.2.1 121 0 vx17_.toNat ∧ Sx47_.2.2.1 121 0 vx17_.toNat ≤ 2147483647 := hIx48_.2 121 0 _
        refine sm_T_iast (n := 1024) rfl rfl (by omega) (by omega) ?_
        have hIx54_ : gi (sm_aI Sx47_ 138 0 (Sx47_.1 13 0 34).toNat (Sx47_.2.2.1 121 0 vx17_.toNat)) := gi_aI hIx48_ (show (-2147483648) ≤ (Sx47_.2.2.1 121 0 vx17_.toNat) ∧ (Sx47_.2.2.1 121 0 vx17_.toNat) ≤ 2147483647 from ⟨by omega, by omega⟩)
        have hFx55_ : ai_fr (sx_W vw_322) S0_ (sm_aI Sx47_ 138 0 (Sx47_.1 13 0 34).toNat (Sx47_.2.2.1 121 0 vx17_.toNat)) := ai_fr_tr hFx51_ (ai_fr_aI rfl)
        refine sm_T_go 2 (c1 := (102, [some (.inr (.inr (some (13, 0)))), some (.inl (S0_.1 13 0 9)), some (.inl vx17_), some (.inl 0)], [], sm_aI Sx47_ 138 0 (Sx47_.1 13 0 34).toNat (Sx47_.2.2.1 121 0 vx17_.toNat))) rfl ?_
        refine sm_T_wk [some (.inr (.inr (some (13, 0)))), some (.inl (S0_.1 13 0 9)), none, some (.inl 0)] (by exact ⟨rfl, rfl, rfl, trivial⟩) ?_
        refine (vl_322 b_ n_ T_ mo_ p_ i_ gl_ S0_ ht_ hf_ hi_ hv_ hmo_ hw_ hk_ hm2_ vp0_ _) (S0_.1 13 0 9) 0 (sm_aI Sx47_ 138 0 (Sx47_.1 13 0 34).toNat (Sx47_.2.2.1 121 0 vx17_.toNat)) hIx54_ hFx55_ ⟨?_, ?_, trivial⟩ (Nat.lt_succ_self _)
        · omega
        · first | (have g52_ := g51_; rw [hx4b] at g52_; first | (exfalso; exact g52_.2.2 (g52_.1.symm.trans hz5_)) | (refine ⟨fun e_ he_ => ?_, fun r9_ hr_ => ?_⟩; (first | (rw [cw3_] at he_; cases he_; exact rw9_ _ _ g52_ (hFx55_.1 13 0 32 rfl) (hFx55_.1 13 0 27 rfl)) | (rw [crv_] at he_; cases he_; exact rw9_ _ _ g52_ (hFx55_.1 13 0 32 rfl) (hFx55_.1 13 0 27 rfl))); (first | (rw [cw3_] at hr_; cases hr_) | (rw [crv_] at hr_; cases hr_)))) | (obtain ⟨u5_, i5_, hu5_, e51_, e52_⟩ := rg_r g51_ hz5_; rw [hx4b, pb_r rfl] at hu5_; have nv51_ := (congrFun nn51_ _).trans nv_.1; have sg_ := shl_ge (x_ := lx_vl b_ n_ p_) (w_ := lx_vl b_ n_ r_) vp0_ hin_; rw [na51_, nv51_] at cx43_; first | (have hp5_ : p_co b_ n_ p_ = .inl (12, p_) := (by rw [crv_, hu5_, pb_r rfl, if_neg (sg_.mp (by omega))]); have g82_ : rg b_ n_ T_ (.inl (12, p_)) _ := (by rcases e82_ with z_ | z_; (exact absurd hz5_ z_.1); (exact ⟨z_.2.1, z_.2.2.trans pa51_, by show (12 : Int) ≠ 0; decide⟩)); refine ⟨fun e_ he_ => ?_, fun r9_ hr_ => ?_⟩; (rw [hp5_] at he_; cases he_; exact rw9_ _ _ g82_ (hFx55_.1 13 0 32 rfl) (hFx55_.1 13 0 27 rfl)); (rw [hp5_] at hr_; cases hr_)) | (have hp5_ : p_co b_ n_ p_ = .inr (u5_, lx_vl b_ n_ r_, [cw 8 (lx_vl b_ n_ r_) (lx_vl b_ n_ p_)]) := (by rw [crv_, hu5_, pb_r rfl, if_pos (by by_cases q_ : lx_vl b_ n_ p_ / 2 ^ (lx_vl b_ n_ r_).toNat = 0; exact q_; (have := sg_.mpr q_; omega))]); refine ⟨fun e_ he_ => ?_, fun r9_ hr_ => ?_⟩; (rw [hp5_] at he_; cases he_); (rw [hp5_] at hr_; cases hr_; refine ⟨⟨hz5_, i5_, e51_, e52_⟩, fun l_ hl_ hs_ => ?_⟩; refine stk_pu (by omega) nv51_ ?_; rw [w51_]; exact hs_))) | (obtain ⟨e5_, he5_⟩ := rg_w g51_ hz5_; have g52_ := g51_; rw [he5_] at g52_; have hp5_ : p_co b_ n_ p_ = .inl e5_ := (by rw [crv_]; rw [hx4b, pb_r rfl] at he5_; rw [he5_]; rfl); refine ⟨fun e_ he_ => ?_, fun r9_ hr_ => ?_⟩; (rw [hp5_] at he_; cases he_; exact rw9_ _ _ g52_ (hFx55_.1 13 0 32 rfl) (hFx55_.1 13 0 27 rfl)); (rw [hp5_] at hr_; cases hr_))
  · have cx24_ : ¬ (vx23_ = 0) := of_decide_eq_false cx24_
    have hz_ := rt_if e22_ (by omega)
    obtain ⟨r_, i3_, hr3_, e31_, e32_⟩ := rg_r g17_ hz_
    have cr := c3_r hr3_
    have nv_ := nv17_ r_ i3_ e31_ e32_ cr.1
    refine sm_T_go 3 (c1 := (33, [some (.inr (.inr (some (13, 0)))), some (.inl (S0_.1 13 0 9)), some (.inl vx17_), none], [.inl vx17_, .inr (.inr (some (121, 0)))], Sx12_)) rfl ?_
    refine sm_T_iald (n := 65537) rfl rfl (by omega) (by omega) ?_
    have bx56_ : (-2147483648) ≤ Sx12_.2.2.1 121 0 vx17_.toNat ∧ Sx12_.2.2.1 121 0 vx17_.toNat ≤ 2147483647 := hIx13_.2 121 0 _
    refine sm_T_go 2 (c1 := (37, [some (.inr (.inr (some (13, 0)))), some (.inl (S0_.1 13 0 9)), some (.inl vx17_), none], [.inl 8, .inl 1, .inl (Sx12_.2.2.1 121 0 vx17_.toNat)], Sx12_)) rfl ?_
    refine sm_T_cal (d1 := 0) (Q1 := vq_278 (Sx12_.2.2.1 121 0 vx17_.toNat) 1 8 Sx12_) rfl rfl (by decide) (vc_278 (Sx12_.2.2.1 121 0 vx17_.toNat) 1 8 Sx12_ hIx13_ ) (fun u_ Sx57_ px60_ => ?_)
    obtain ⟨rfl, vx62_, rfl, px60_⟩ := px60_
    have e37_ := px60_
    refine sm_T_b0 (a := 1) (z := 10) rfl (fun cx63_ => ?_) (fun cx63_ => ?_)
    · have cx63_ : vx62_ ≠ 0 := of_decide_eq_true cx63_
      have hin_ : 1 ≤ lx_vl b_ n_ r_ ∧ lx_vl b_ n_ r_ ≤ 8 := by have := e37_.2.mp (by omega); omega
      rw [hr3_] at g17_
      obtain ⟨x4_, hx4_, hx4b⟩ : ∃ x4_ : pE Nat, rg b_ n_ T_ x4_ _ ∧ x4_ = .inr r_ := ⟨_, g17_, rfl⟩
      have t50_ := t17_
      have w50_ := w17_
      have crv_ := cr.2
      rw [if_neg (by omega)] at crv_
      refine sm_T_go 1 (c1 := (51, [some (.inr (.inr (some (13, 0)))), some (.inl (S0_.1 13 0 9)), some (.inl vx17_), none], [.inr (.inr (some (13, 0)))], Sx12_)) rfl ?_
      refine sm_T_cal (d1 := 2) (Q1 := vq_297 b_ n_ T_ x4_ Sx12_) rfl rfl (by decide) (vc_297 b_ n_ T_ x4_ Sx12_ hIx13_ (by exact t50_) (by exact hx4_) (by (intro q_ e_; rw [hx4b] at e_; first | (cases e_; done) | (cases e_; rw [cr.1]; decide)))) (fun u_ Sx64_ px67_ => ?_)
      obtain ⟨rfl, hIx65_, hFx66_, px67_⟩ := px67_
      have hFx68_ : ai_fr (sx_W vw_322) S0_ Sx64_ := ai_fr_tr hFx16_ (fr_le hFx66_ rfl)
      have g51_ := px67_.1
      have t51_ := rtab_fr t50_ hFx66_ rfl rfl rfl rfl rfl
      have na51_ : Sx64_.2.2.1 121 0 (S0_.1 13 0 9).toNat = lx_vl b_ n_ p_ := by rw [show (S0_.1 13 0 9).toNat = i_ by omega, (rp_at t51_ hi_.2).2.2.1, hk_]; rfl
      have pa51_ : Sx64_.2.2.1 120 0 (S0_.1 13 0 9).toNat = (p_ : Int) := by rw [show (S0_.1 13 0 9).toNat = i_ by omega]; exact (rp_at t51_ hi_.2).2.1
      have nn51_ := fr_arr (t := 121) (i := 0) hFx66_ rfl
      have vl51_ : Sx64_.1 13 0 34 = (gl_ : Int) := (hFx68_.1 13 0 34 rfl).trans hv_.1
      have w51_ := (fr_arr (t := 138) (i := 0) hFx66_ rfl).trans w50_
      refine sm_T_go 1 (c1 := (55, [some (.inr (.inr (some (13, 0)))), some (.inl (S0_.1 13 0 9)), some (.inl vx17_), none], [.inr (.inr (some (13, 0)))], Sx64_)) rfl ?_
      refine sm_T_cal (d1 := 0) (Q1 := vq_292  Sx64_) rfl rfl (by decide) (vc_292  Sx64_ hIx65_ ) (fun u_ Sx69_ px72_ => ?_)
      obtain ⟨rfl, vx74_, rfl, px72_⟩ := px72_
      have e55_ := px72_
      refine sm_T_b0 (a := 0) (z := 27) rfl (fun cx75_ => ?_) (fun cx75_ => ?_)
      · have cx75_ : vx74_ = 0 := of_decide_eq_true cx75_
        have hz5_ := wr_if e55_ (by omega)
        have bx76_ : 0 ≤ Sx64_.1 13 0 34 ∧ Sx64_.1 13 0 34 ≤ 1023 := hIx65_.1 13 0 34 rfl
        refine sm_T_go 7 (c1 := (98, [some (.inr (.inr (some (13, 0)))), some (.inl (S0_.1 13 0 9)), some (.inl vx17_), none], [.inl vx17_, .inr (.inr (some (121, 0))), .inl (Sx64_.1 13 0 34), .inr (.inr (some (138, 0)))], Sx64_)) rfl ?_
        refine sm_T_iald (n := 65537) rfl rfl (by omega) (by omega) ?_
        have bx77_ : (-2147483648) ≤ Sx64_.2.2.1 121 0 vx17_.toNat ∧ Sx64_.2.2.1 121 0 vx17_.toNat ≤ 2147483647 := hIx65_.2 121 0 _
        refine sm_T_iast (n := 1024) rfl rfl (by omega) (by omega) ?_
        have hIx78_ : gi (sm_aI Sx64_ 138 0 (Sx64_.1 13 0 34).toNat (Sx64_.2.2.1 121 0 vx17_.toNat)) := gi_aI hIx65_ (show (-2147483648) ≤ (Sx64_.2.2.1 121 0 vx17_.toNat) ∧ (Sx64_.2.2.1 121 0 vx17_.toNat) ≤ 2147483647 from ⟨by omega, by omega⟩)
        have hFx79_ : ai_fr (sx_W vw_322) S0_ (sm_aI Sx64_ 138 0 (Sx64_.1 13 0 34).toNat (Sx64_.2.2.1 121 0 vx17_.toNat)) := ai_fr_tr hFx68_ (ai_fr_aI rfl)
        refine sm_T_go 2 (c1 := (102, [some (.inr (.inr (some (13, 0)))), some (.inl (S0_.1 13 0 9)), some (.inl vx17_), some (.inl 0)], [], sm_aI Sx64_ 138 0 (Sx64_.1 13 0 34).toNat (Sx64_.2.2.1 121 0 vx17_.toNat))) rfl ?_
        refine sm_T_wk [some (.inr (.inr (some (13, 0)))), some (.inl (S0_.1 13 0 9)), none, some (.inl 0)] (by exact ⟨rfl, rfl, rfl, trivial⟩) ?_
        refine (vl_322 b_ n_ T_ mo_ p_ i_ gl_ S0_ ht_ hf_ hi_ hv_ hmo_ hw_ hk_ hm2_ vp0_ _) (S0_.1 13 0 9) 0 (sm_aI Sx64_ 138 0 (Sx64_.1 13 0 34).toNat (Sx64_.2.2.1 121 0 vx17_.toNat)) hIx78_ hFx79_ ⟨?_, ?_, trivial⟩ (Nat.lt_succ_self _)
        · omega
        · first | (have g52_ := g51_; rw [hx4b] at g52_; first | (exfalso; exact g52_.2.2 (g52_.1.symm.trans hz5_)) | (refine ⟨fun e_ he_ => ?_, fun r9_ hr_ => ?_⟩; (first | (rw [cw3_] at he_; cases he_; exact rw9_ _ _ g52_ (hFx79_.1 13 0 32 rfl) (hFx79_.1 13 0 27 rfl)) | (rw [crv_] at he_; cases he_; exact rw9_ _ _ g52_ (hFx79_.1 13 0 32 rfl) (hFx79_.1 13 0 27 rfl))); (first | (rw [cw3_] at hr_; cases hr_) | (rw [crv_] at hr_; cases hr_)))) | (obtain ⟨u5_, i5_, hu5_, e51_, e52_⟩ := rg_r g51_ hz5_; rw [hx4b, pb_r rfl] at hu5_; have nv51_ := (congrFun nn51_ _).trans nv_.1; have sg_ := shl_ge (x_ := lx_vl b_ n_ p_) (w_ := lx_vl b_ n_ r_) vp0_ hin_; rw [na51_, nv51_] at cx75_; first | (have hp5_ : p_co b_ n_ p_ = .inl (12, p_) := (by rw [crv_, hu5_, pb_r rfl, if_neg (sg_.mp (by omega))]); have g82_ : rg b_ n_ T_ (.inl (12, p_)) _ := (by rcases e82_ with z_ | z_; (exact absurd hz5_ z_.1); (exact ⟨z_.2.1, z_.2.2.trans pa51_, by show (12 : Int) ≠ 0; decide⟩)); refine ⟨fun e_ he_ => ?_, fun r9_ hr_ => ?_⟩; (rw [hp5_] at he_; cases he_; exact rw9_ _ _ g82_ (hFx79_.1 13 0 32 rfl) (hFx79_.1 13 0 27 rfl)); (rw [hp5_] at hr_; cases hr_)) | (have hp5_ : p_co b_ n_ p_ = .inr (u5_, lx_vl b_ n_ r_, [cw 8 (lx_vl b_ n_ r_) (lx_vl b_ n_ p_)]) := (by rw [crv_, hu5_, pb_r rfl, if_pos (by by_cases q_ : lx_vl b_ n_ p_ / 2 ^ (lx_vl b_ n_ r_).toNat = 0; exact q_; (have := sg_.mpr q_; omega))]); refine ⟨fun e_ he_ => ?_, fun r9_ hr_ => ?_⟩; (rw [hp5_] at he_; cases he_); (rw [hp5_] at hr_; cases hr_; refine ⟨⟨hz5_, i5_, e51_, e52_⟩, fun l_ hl_ hs_ => ?_⟩; refine stk_pu (by omega) nv51_ ?_; rw [w51_]; exact hs_))) | (obtain ⟨e5_, he5_⟩ := rg_w g51_ hz5_; have g52_ := g51_; rw [he5_] at g52_; have hp5_ : p_co b_ n_ p_ = .inl e5_ := (by rw [crv_]; rw [hx4b, pb_r rfl] at he5_; rw [he5_]; rfl); refine ⟨fun e_ he_ => ?_, fun r9_ hr_ => ?_⟩; (rw [hp5_] at he_; cases he_; exact rw9_ _ _ g52_ (hFx79_.1 13 0 32 rfl) (hFx79_.1 13 0 27 rfl)); (rw [hp5_] at hr_; cases hr_))
      · have cx75_ : ¬ (vx74_ = 0) := of_decide_eq_false cx75_
        have hz5_ := rt_if e55_ (by omega)
        refine sm_T_go 3 (c1 := (66, [some (.inr (.inr (some (13, 0)))), some (.inl (S0_.1 13 0 9)), some (.inl vx17_), none], [.inl (S0_.1 13 0 9), .inr (.inr (some (121, 0)))], Sx64_)) rfl ?_
        refine sm_T_iald (n := 65537) rfl rfl (by omega) (by omega) ?_
        have bx80_ : (-2147483648) ≤ Sx64_.2.2.1 121 0 (S0_.1 13 0 9).toNat ∧ Sx64_.2.2.1 121 0 (S0_.1 13 0 9).toNat ≤ 2147483647 := hIx65_.2 121 0 _
        refine sm_T_go 4 (c1 := (73, [some (.inr (.inr (some (13, 0)))), some (.inl (S0_.1 13 0 9)), some (.inl vx17_), none], [.inl vx17_, .inr (.inr (some (121, 0))), .inl 1, .inl (Sx64_.2.2.1 121 0 (S0_.1 13 0 9).toNat)], Sx64_)) rfl ?_
        refine sm_T_iald (n := 65537) rfl rfl (by omega) (by omega) ?_
        have bx81_ : (-2147483648) ≤ Sx64_.2.2.1 121 0 vx17_.toNat ∧ Sx64_.2.2.1 121 0 vx17_.toNat ≤ 2147483647 := hIx65_.2 121 0 _
        refine sm_T_bin (w := (i_shl 1 (Sx64_.2.2.1 121 0 vx17_.toNat))) rfl rfl ?_
        refine sm_T_br (a := 2) (z := 10) rfl (fun cx82_ => ?_) (fun cx82_ => ?_)
        · have cx82_ : (Sx64_.2.2.1 121 0 (S0_.1 13 0 9).toNat) < (i_shl 1 (Sx64_.2.2.1 121 0 vx17_.toNat)) := of_decide_eq_true cx82_
          have bx83_ : 0 ≤ Sx64_.1 13 0 34 ∧ Sx64_.1 13 0 34 ≤ 1023 := hIx65_.1 13 0 34 rfl
          refine sm_T_go 7 (c1 := (98, [some (.inr (.inr (some (13, 0)))), some (.inl (S0_.1 13 0 9)), some (.inl vx17_), none], [.inl vx17_, .inr (.inr (some (121, 0))), .inl (Sx64_.1 13 0 34), .inr (.inr (some (138, 0)))], Sx64_)) rfl ?_
          refine sm_T_iald (n := 65537) rfl rfl (by omega) (by omega) ?_
          refine sm_T_iast (n := 1024) rfl rfl (by omega) (by omega) ?_
          have hIx84_ : gi (sm_aI Sx64_ 138 0 (Sx64_.1 13 0 34).toNat (Sx64_.2.2.1 121 0 vx17_.toNat)) := gi_aI hIx65_ (show (-2147483648) ≤ (Sx64_.2.2.1 121 0 vx17_.toNat) ∧ (Sx64_.2.2.1 121 0 vx17_.toNat) ≤ 2147483647 from ⟨by omega, by omega⟩)
          have hFx85_ : ai_fr (sx_W vw_322) S0_ (sm_aI Sx64_ 138 0 (Sx64_.1 13 0 34).toNat (Sx64_.2.2.1 121 0 vx17_.toNat)) := ai_fr_tr hFx68_ (ai_fr_aI rfl)
          refine sm_T_go 2 (c1 := (102, [some (.inr (.inr (some (13, 0)))), some (.inl (S0_.1 13 0 9)), some (.inl vx17_), some (.inl 0)], [], sm_aI Sx64_ 138 0 (Sx64_.1 13 0 34).toNat (Sx64_.2.2.1 121 0 vx17_.toNat))) rfl ?_
          refine sm_T_wk [some (.inr (.inr (some (13, 0)))), some (.inl (S0_.1 13 0 9)), none, some (.inl 0)] (by exact ⟨rfl, rfl, rfl, trivial⟩) ?_
          refine (vl_322 b_ n_ T_ mo_ p_ i_ gl_ S0_ ht_ hf_ hi_ hv_ hmo_ hw_ hk_ hm2_ vp0_ _) (S0_.1 13 0 9) 0 (sm_aI Sx64_ 138 0 (Sx64_.1 13 0 34).toNat (Sx64_.2.2.1 121 0 vx17_.toNat)) hIx84_ hFx85_ ⟨?_, ?_, trivial⟩ (Nat.lt_succ_self _)
          · omega
          · first | (have g52_ := g51_; rw [hx4b] at g52_; first | (exfalso; exact g52_.2.2 (g52_.1.symm.trans hz5_)) | (refine ⟨fun e_ he_ => ?_, fun r9_ hr_ => ?_⟩; (first | (rw [cw3_] at he_; cases he_; exact rw9_ _ _ g52_ (hFx85_.1 13 0 32 rfl) (hFx85_.1 13 0 27 rfl)) | (rw [crv_] at he_; cases he_; exact rw9_ _ _ g52_ (hFx85_.1 13 0 32 rfl) (hFx85_.1 13 0 27 rfl))); (first | (rw [cw3_] at hr_; cases hr_) | (rw [crv_] at hr_; cases hr_)))) | (obtain ⟨u5_, i5_, hu5_, e51_, e52_⟩ := rg_r g51_ hz5_; rw [hx4b, pb_r rfl] at hu5_; have nv51_ := (congrFun nn51_ _).trans nv_.1; have sg_ := shl_ge (x_ := lx_vl b_ n_ p_) (w_ := lx_vl b_ n_ r_) vp0_ hin_; rw [na51_, nv51_] at cx82_; first | (have hp5_ : p_co b_ n_ p_ = .inl (12, p_) := (by rw [crv_, hu5_, pb_r rfl, if_neg (sg_.mp (by omega))]); have g82_ : rg b_ n_ T_ (.inl (12, p_)) _ := (by rcases e82_ with z_ | z_; (exact absurd hz5_ z_.1); (exact ⟨z_.2.1, z_.2.2.trans pa51_, by show (12 : Int) ≠ 0; decide⟩)); refine ⟨fun e_ he_ => ?_, fun r9_ hr_ => ?_⟩; (rw [hp5_] at he_; cases he_; exact rw9_ _ _ g82_ (hFx85_.1 13 0 32 rfl) (hFx85_.1 13 0 27 rfl)); (rw [hp5_] at hr_; cases hr_)) | (have hp5_ : p_co b_ n_ p_ = .inr (u5_, lx_vl b_ n_ r_, [cw 8 (lx_vl b_ n_ r_) (lx_vl b_ n_ p_)]) := (by rw [crv_, hu5_, pb_r rfl, if_pos (by by_cases q_ : lx_vl b_ n_ p_ / 2 ^ (lx_vl b_ n_ r_).toNat = 0; exact q_; (have := sg_.mpr q_; omega))]); refine ⟨fun e_ he_ => ?_, fun r9_ hr_ => ?_⟩; (rw [hp5_] at he_; cases he_); (rw [hp5_] at hr_; cases hr_; refine ⟨⟨hz5_, i5_, e51_, e52_⟩, fun l_ hl_ hs_ => ?_⟩; refine stk_pu (by omega) nv51_ ?_; rw [w51_]; exact hs_))) | (obtain ⟨e5_, he5_⟩ := rg_w g51_ hz5_; have g52_ := g51_; rw [he5_] at g52_; have hp5_ : p_co b_ n_ p_ = .inl e5_ := (by rw [crv_]; rw [hx4b, pb_r rfl] at he5_; rw [he5_]; rfl); refine ⟨fun e_ he_ => ?_, fun r9_ hr_ => ?_⟩; (rw [hp5_] at he_; cases he_; exact rw9_ _ _ g52_ (hFx85_.1 13 0 32 rfl) (hFx85_.1 13 0 27 rfl)); (rw [hp5_] at hr_; cases hr_))
        · have cx82_ : ¬ ((Sx64_.2.2.1 121 0 (S0_.1 13 0 9).toNat) < (i_shl 1 (Sx64_.2.2.1 121 0 vx17_.toNat))) := of_decide_eq_false cx82_
          refine sm_T_go 3 (c1 := (82, [some (.inr (.inr (some (13, 0)))), some (.inl (S0_.1 13 0 9)), some (.inl vx17_), none], [.inl (S0_.1 13 0 9), .inl 12, .inr (.inr (some (13, 0)))], Sx64_)) rfl ?_
          refine sm_T_cal (d1 := 0) (Q1 := vq_294 12 (S0_.1 13 0 9) Sx64_) rfl rfl (by decide) (vc_294 12 (S0_.1 13 0 9) Sx64_ hIx65_ (by decide) (by omega)) (fun u_ Sx86_ px89_ => ?_)
          obtain ⟨rfl, hIx87_, hFx88_, px89_⟩ := px89_
          have hFx90_ : ai_fr (sx_W vw_322) S0_ Sx86_ := ai_fr_tr hFx68_ (fr_le hFx88_ rfl)
          have e82_ := px89_
          have w82_ := (fr_arr (t := 138) (i := 0) hFx88_ rfl).trans w51_
          have vl82_ : Sx86_.1 13 0 34 = (gl_ : Int) := (hFx90_.1 13 0 34 rfl).trans hv_.1
          have bx91_ : 0 ≤ Sx86_.1 13 0 34 ∧ Sx86_.1 13 0 34 ≤ 1023 := hIx87_.1 13 0 34 rfl
          refine sm_T_go 7 (c1 := (98, [some (.inr (.inr (some (13, 0)))), some (.inl (S0_.1 13 0 9)), some (.inl vx17_), none], [.inl vx17_, .inr (.inr (some (121, 0))), .inl (Sx86_.1 13 0 34), .inr (.inr (some (138, 0)))], Sx86_)) rfl ?_
          refine sm_T_iald (n := 65537) rfl rfl (by omega) (by omega) ?_
          have bx92_ : (-2147483648) ≤ Sx86_.2.2.1 121 0 vx17_.toNat ∧ Sx86_.2.2.1 121 0 vx17_.toNat ≤ 2147483647 := hIx87_.2 121 0 _
          refine sm_T_iast (n := 1024) rfl rfl (by omega) (by omega) ?_
          have hIx93_ : gi (sm_aI Sx86_ 138 0 (Sx86_.1 13 0 34).toNat (Sx86_.2.2.1 121 0 vx17_.toNat)) := gi_aI hIx87_ (show (-2147483648) ≤ (Sx86_.2.2.1 121 0 vx17_.toNat) ∧ (Sx86_.2.2.1 121 0 vx17_.toNat) ≤ 2147483647 from ⟨by omega, by omega⟩)
          have hFx94_ : ai_fr (sx_W vw_322) S0_ (sm_aI Sx86_ 138 0 (Sx86_.1 13 0 34).toNat (Sx86_.2.2.1 121 0 vx17_.toNat)) := ai_fr_tr hFx90_ (ai_fr_aI rfl)
          refine sm_T_go 2 (c1 := (102, [some (.inr (.inr (some (13, 0)))), some (.inl (S0_.1 13 0 9)), some (.inl vx17_), some (.inl 0)], [], sm_aI Sx86_ 138 0 (Sx86_.1 13 0 34).toNat (Sx86_.2.2.1 121 0 vx17_.toNat))) rfl ?_
          refine sm_T_wk [some (.inr (.inr (some (13, 0)))), some (.inl (S0_.1 13 0 9)), none, some (.inl 0)] (by exact ⟨rfl, rfl, rfl, trivial⟩) ?_
          refine (vl_322 b_ n_ T_ mo_ p_ i_ gl_ S0_ ht_ hf_ hi_ hv_ hmo_ hw_ hk_ hm2_ vp0_ _) (S0_.1 13 0 9) 0 (sm_aI Sx86_ 138 0 (Sx86_.1 13 0 34).toNat (Sx86_.2.2.1 121 0 vx17_.toNat)) hIx93_ hFx94_ ⟨?_, ?_, trivial⟩ (Nat.lt_succ_self _)
          · omega
          · first | (have g52_ := g51_; rw [hx4b] at g52_; first | (exfalso; exact g52_.2.2 (g52_.1.symm.trans hz5_)) | (refine ⟨fun e_ he_ => ?_, fun r9_ hr_ => ?_⟩; (first | (rw [cw3_] at he_; cases he_; exact rw9_ _ _ g52_ (hFx94_.1 13 0 32 rfl) (hFx94_.1 13 0 27 rfl)) | (rw [crv_] at he_; cases he_; exact rw9_ _ _ g52_ (hFx94_.1 13 0 32 rfl) (hFx94_.1 13 0 27 rfl))); (first | (rw [cw3_] at hr_; cases hr_) | (rw [crv_] at hr_; cases hr_)))) | (obtain ⟨u5_, i5_, hu5_, e51_, e52_⟩ := rg_r g51_ hz5_; rw [hx4b, pb_r rfl] at hu5_; have nv51_ := (congrFun nn51_ _).trans nv_.1; have sg_ := shl_ge (x_ := lx_vl b_ n_ p_) (w_ := lx_vl b_ n_ r_) vp0_ hin_; rw [na51_, nv51_] at cx82_; first | (have hp5_ : p_co b_ n_ p_ = .inl (12, p_) := (by rw [crv_, hu5_, pb_r rfl, if_neg (sg_.mp (by omega))]); have g82_ : rg b_ n_ T_ (.inl (12, p_)) _ := (by rcases e82_ with z_ | z_; (exact absurd hz5_ z_.1); (exact ⟨z_.2.1, z_.2.2.trans pa51_, by show (12 : Int) ≠ 0; decide⟩)); refine ⟨fun e_ he_ => ?_, fun r9_ hr_ => ?_⟩; (rw [hp5_] at he_; cases he_; exact rw9_ _ _ g82_ (hFx94_.1 13 0 32 rfl) (hFx94_.1 13 0 27 rfl)); (rw [hp5_] at hr_; cases hr_)) | (have hp5_ : p_co b_ n_ p_ = .inr (u5_, lx_vl b_ n_ r_, [cw 8 (lx_vl b_ n_ r_) (lx_vl b_ n_ p_)]) := (by rw [crv_, hu5_, pb_r rfl, if_pos (by by_cases q_ : lx_vl b_ n_ p_ / 2 ^ (lx_vl b_ n_ r_).toNat = 0; exact q_; (have := sg_.mpr q_; omega))]); refine ⟨fun e_ he_ => ?_, fun r9_ hr_ => ?_⟩; (rw [hp5_] at he_; cases he_); (rw [hp5_] at hr_; cases hr_; refine ⟨⟨hz5_, i5_, e51_, e52_⟩, fun l_ hl_ hs_ => ?_⟩; refine stk_pu (by omega) nv51_ ?_; rw [w51_]; exact hs_))) | (obtain ⟨e5_, he5_⟩ := rg_w g51_ hz5_; have g52_ := g51_; rw [he5_] at g52_; have hp5_ : p_co b_ n_ p_ = .inl e5_ := (by rw [crv_]; rw [hx4b, pb_r rfl] at he5_; rw [he5_]; rfl); refine ⟨fun e_ he_ => ?_, fun r9_ hr_ => ?_⟩; (rw [hp5_] at he_; cases he_; exact rw9_ _ _ g52_ (hFx94_.1 13 0 32 rfl) (hFx94_.1 13 0 27 rfl)); (rw [hp5_] at hr_; cases hr_))
    · have cx63_ : ¬ (vx62_ ≠ 0) := of_decide_eq_false cx63_
      have hin_ : lx_vl b_ n_ r_ < 1 ∨ 8 < lx_vl b_ n_ r_ := by have e39_ := e37_.2; by_cases q_ : 1 ≤ lx_vl b_ n_ r_ ∧ lx_vl b_ n_ r_ ≤ 8; (have := e39_.mpr (by omega); omega); omega
      have crv_ := cr.2
      rw [if_pos hin_] at crv_
      refine sm_T_go 3 (c1 := (47, [some (.inr (.inr (some (13, 0)))), some (.inl (S0_.1 13 0 9)), some (.inl vx17_), none], [.inl vx17_, .inl 12, .inr (.inr (some (13, 0)))], Sx12_)) rfl ?_
      refine sm_T_cal (d1 := 0) (Q1 := vq_293 12 vx17_ Sx12_) rfl rfl (by decide) (vc_293 12 vx17_ Sx12_ hIx13_ (by decide) (by omega)) (fun u_ Sx95_ px98_ => ?_)
      obtain ⟨rfl, hIx96_, hFx97_, px98_⟩ := px98_
      have hFx99_ : ai_fr (sx_W vw_322) S0_ Sx95_ := ai_fr_tr hFx16_ (fr_le hFx97_ rfl)
      have g47_ : rg b_ n_ T_ (.inl (12, r_)) Sx95_ := by rcases px98_ with z_ | z_; (exact absurd hz_ z_.1); (exact ⟨z_.2.1.trans (if_neg nv_.2.2), z_.2.2.trans nv_.2.1, by show (12 : Int) ≠ 0; decide⟩)
      obtain ⟨x4_, hx4_, hx4b⟩ : ∃ x4_ : pE Nat, rg b_ n_ T_ x4_ Sx95_ ∧ x4_ = .inl (12, r_) := ⟨_, g47_, rfl⟩
      have t50_ := rtab_fr t17_ hFx97_ rfl rfl rfl rfl rfl
      have w50_ := (fr_arr (t := 138) (i := 0) hFx97_ rfl).trans w17_
      refine sm_T_go 1 (c1 := (51, [some (.inr (.inr (some (13, 0)))), some (.inl (S0_.1 13 0 9)), some (.inl vx17_), none], [.inr (.inr (some (13, 0)))], Sx95_)) rfl ?_
      refine sm_T_cal (d1 := 2) (Q1 := vq_297 b_ n_ T_ x4_ Sx95_) rfl rfl (by decide) (vc_297 b_ n_ T_ x4_ Sx95_ hIx96_ (by exact t50_) (by exact hx4_) (by (intro q_ e_; rw [hx4b] at e_; first | (cases e_; done) | (cases e_; rw [cr.1]; decide)))) (fun u_ Sx100_ px103_ => ?_)
      obtain ⟨rfl, hIx101_, hFx102_, px103_⟩ := px103_
      have hFx104_ : ai_fr (sx_W vw_322) S0_ Sx100_ := ai_fr_tr hFx99_ (fr_le hFx102_ rfl)
      have g51_ := px103_.1
      have t51_ := rtab_fr t50_ hFx102_ rfl rfl rfl rfl rfl
      have na51_ : Sx100_.2.2.1 121 0 (S0_.1 13 0 9).toNat = lx_vl b_ n_ p_ := by rw [show (S0_.1 13 0 9).toNat = i_ by omega, (rp_at t51_ hi_.2).2.2.1, hk_]; rfl
      have pa51_ : Sx100_.2.2.1 120 0 (S0_.1 13 0 9).toNat = (p_ : Int) := by rw [show (S0_.1 13 0 9).toNat = i_ by omega]; exact (rp_at t51_ hi_.2).2.1
      have nn51_ := fr_arr (t := 121) (i := 0) hFx102_ rfl
      have vl51_ : Sx100_.1 13 0 34 = (gl_ : Int) := (hFx104_.1 13 0 34 rfl).trans hv_.1
      have w51_ := (fr_arr (t := 138) (i := 0) hFx102_ rfl).trans w50_
      refine sm_T_go 1 (c1 := (55, [some (.inr (.inr (some (13, 0)))), some (.inl (S0_.1 13 0 9)), some (.inl vx17_), none], [.inr (.inr (some (13, 0)))], Sx100_)) rfl ?_
      refine sm_T_cal (d1 := 0) (Q1 := vq_292  Sx100_) rfl rfl (by decide) (vc_292  Sx100_ hIx101_ ) (fun u_ Sx105_ px108_ => ?_)
      obtain ⟨rfl, vx110_, rfl, px108_⟩ := px108_
      have e55_ := px108_
      refine sm_T_b0 (a := 0) (z := 27) rfl (fun cx111_ => ?_) (fun cx111_ => ?_)
      · have cx111_ : vx110_ = 0 := of_decide_eq_true cx111_
        have hz5_ := wr_if e55_ (by omega)
        have bx112_ : 0 ≤ Sx100_.1 13 0 34 ∧ Sx100_.1 13 0 34 ≤ 1023 := hIx101_.1 13 0 34 rfl
        refine sm_T_go 7 (c1 := (98, [some (.inr (.inr (some (13, 0)))), some (.inl (S0_.1 13 0 9)), some (.inl vx17_), none], [.inl vx17_, .inr (.inr (some (121, 0))), .inl (Sx100_.1 13 0 34), .inr (.inr (some (138, 0)))], Sx100_)) rfl ?_
        refine sm_T_iald (n := 65537) rfl rfl (by omega) (by omega) ?_
        have bx113_ : (-2147483648) ≤ Sx100_.2.2.1 121 0 vx17_.toNat ∧ Sx100_.2.2.1 121 0 vx17_.toNat ≤ 2147483647 := hIx101_.2 121 0 _
        refine sm_T_iast (n := 1024) rfl rfl (by omega) (by omega) ?_
        have hIx114_ : gi (sm_aI Sx100_ 138 0 (Sx100_.1 13 0 34).toNat (Sx100_.2.2.1 121 0 vx17_.toNat)) := gi_aI hIx101_ (show (-2147483648) ≤ (Sx100_.2.2.1 121 0 vx17_.toNat) ∧ (Sx100_.2.2.1 121 0 vx17_.toNat) ≤ 2147483647 from ⟨by omega, by omega⟩)
        have hFx115_ : ai_fr (sx_W vw_322) S0_ (sm_aI Sx100_ 138 0 (Sx100_.1 13 0 34).toNat (Sx100_.2.2.1 121 0 vx17_.toNat)) := ai_fr_tr hFx104_ (ai_fr_aI rfl)
        refine sm_T_go 2 (c1 := (102, [some (.inr (.inr (some (13, 0)))), some (.inl (S0_.1 13 0 9)), some (.inl vx17_), some (.inl 0)], [], sm_aI Sx100_ 138 0 (Sx100_.1 13 0 34).toNat (Sx100_.2.2.1 121 0 vx17_.toNat))) rfl ?_
        refine sm_T_wk [some (.inr (.inr (some (13, 0)))), some (.inl (S0_.1 13 0 9)), none, some (.inl 0)] (by exact ⟨rfl, rfl, rfl, trivial⟩) ?_
        refine (vl_322 b_ n_ T_ mo_ p_ i_ gl_ S0_ ht_ hf_ hi_ hv_ hmo_ hw_ hk_ hm2_ vp0_ _) (S0_.1 13 0 9) 0 (sm_aI Sx100_ 138 0 (Sx100_.1 13 0 34).toNat (Sx100_.2.2.1 121 0 vx17_.toNat)) hIx114_ hFx115_ ⟨?_, ?_, trivial⟩ (Nat.lt_succ_self _)
        · omega
        · first | (have g52_ := g51_; rw [hx4b] at g52_; first | (exfalso; exact g52_.2.2 (g52_.1.symm.trans hz5_)) | (refine ⟨fun e_ he_ => ?_, fun r9_ hr_ => ?_⟩; (first | (rw [cw3_] at he_; cases he_; exact rw9_ _ _ g52_ (hFx115_.1 13 0 32 rfl) (hFx115_.1 13 0 27 rfl)) | (rw [crv_] at he_; cases he_; exact rw9_ _ _ g52_ (hFx115_.1 13 0 32 rfl) (hFx115_.1 13 0 27 rfl))); (first | (rw [cw3_] at hr_; cases hr_) | (rw [crv_] at hr_; cases hr_)))) | (obtain ⟨u5_, i5_, hu5_, e51_, e52_⟩ := rg_r g51_ hz5_; rw [hx4b, pb_r rfl] at hu5_; have nv51_ := (congrFun nn51_ _).trans nv_.1; have sg_ := shl_ge (x_ := lx_vl b_ n_ p_) (w_ := lx_vl b_ n_ r_) vp0_ hin_; rw [na51_, nv51_] at cx111_; first | (have hp5_ : p_co b_ n_ p_ = .inl (12, p_) := (by rw [crv_, hu5_, pb_r rfl, if_neg (sg_.mp (by omega))]); have g82_ : rg b_ n_ T_ (.inl (12, p_)) _ := (by rcases e82_ with z_ | z_; (exact absurd hz5_ z_.1); (exact ⟨z_.2.1, z_.2.2.trans pa51_, by show (12 : Int) ≠ 0; decide⟩)); refine ⟨fun e_ he_ => ?_, fun r9_ hr_ => ?_⟩; (rw [hp5_] at he_; cases he_; exact rw9_ _ _ g82_ (hFx115_.1 13 0 32 rfl) (hFx115_.1 13 0 27 rfl)); (rw [hp5_] at hr_; cases hr_)) | (have hp5_ : p_co b_ n_ p_ = .inr (u5_, lx_vl b_ n_ r_, [cw 8 (lx_vl b_ n_ r_) (lx_vl b_ n_ p_)]) := (by rw [crv_, hu5_, pb_r rfl, if_pos (by by_cases q_ : lx_vl b_ n_ p_ / 2 ^ (lx_vl b_ n_ r_).toNat = 0; exact q_; (have := sg_.mpr q_; omega))]); refine ⟨fun e_ he_ => ?_, fun r9_ hr_ => ?_⟩; (rw [hp5_] at he_; cases he_); (rw [hp5_] at hr_; cases hr_; refine ⟨⟨hz5_, i5_, e51_, e52_⟩, fun l_ hl_ hs_ => ?_⟩; refine stk_pu (by omega) nv51_ ?_; rw [w51_]; exact hs_))) | (obtain ⟨e5_, he5_⟩ := rg_w g51_ hz5_; have g52_ := g51_; rw [he5_] at g52_; have hp5_ : p_co b_ n_ p_ = .inl e5_ := (by rw [crv_]; rw [hx4b, pb_r rfl] at he5_; rw [he5_]; rfl); refine ⟨fun e_ he_ => ?_, fun r9_ hr_ => ?_⟩; (rw [hp5_] at he_; cases he_; exact rw9_ _ _ g52_ (hFx115_.1 13 0 32 rfl) (hFx115_.1 13 0 27 rfl)); (rw [hp5_] at hr_; cases hr_))
      · have cx111_ : ¬ (vx110_ = 0) := of_decide_eq_false cx111_
        have hz5_ := rt_if e55_ (by omega)
        refine sm_T_go 3 (c1 := (66, [some (.inr (.inr (some (13, 0)))), some (.inl (S0_.1 13 0 9)), some (.inl vx17_), none], [.inl (S0_.1 13 0 9), .inr (.inr (some (121, 0)))], Sx100_)) rfl ?_
        refine sm_T_iald (n := 65537) rfl rfl (by omega) (by omega) ?_
        have bx116_ : (-2147483648) ≤ Sx100_.2.2.1 121 0 (S0_.1 13 0 9).toNat ∧ Sx100_.2.2.1 121 0 (S0_.1 13 0 9).toNat ≤ 2147483647 := hIx101_.2 121 0 _
        refine sm_T_go 4 (c1 := (73, [some (.inr (.inr (some (13, 0)))), some (.inl (S0_.1 13 0 9)), some (.inl vx17_), none], [.inl vx17_, .inr (.inr (some (121, 0))), .inl 1, .inl (Sx100_.2.2.1 121 0 (S0_.1 13 0 9).toNat)], Sx100_)) rfl ?_
        refine sm_T_iald (n := 65537) rfl rfl (by omega) (by omega) ?_
        have bx117_ : (-2147483648) ≤ Sx100_.2.2.1 121 0 vx17_.toNat ∧ Sx100_.2.2.1 121 0 vx17_.toNat ≤ 2147483647 := hIx101_.2 121 0 _
        refine sm_T_bin (w := (i_shl 1 (Sx100_.2.2.1 121 0 vx17_.toNat))) rfl rfl ?_
        refine sm_T_br (a := 2) (z := 10) rfl (fun cx118_ => ?_) (fun cx118_ => ?_)
        · have cx118_ : (Sx100_.2.2.1 121 0 (S0_.1 13 0 9).toNat) < (i_shl 1 (Sx100_.2.2.1 121 0 vx17_.toNat)) := of_decide_eq_true cx118_
          have bx119_ : 0 ≤ Sx100_.1 13 0 34 ∧ Sx100_.1 13 0 34 ≤ 1023 := hIx101_.1 13 0 34 rfl
          refine sm_T_go 7 (c1 := (98, [some (.inr (.inr (some (13, 0)))), some (.inl (S0_.1 13 0 9)), some (.inl vx17_), none], [.inl vx17_, .inr (.inr (some (121, 0))), .inl (Sx100_.1 13 0 34), .inr (.inr (some (138, 0)))], Sx100_)) rfl ?_
          refine sm_T_iald (n := 65537) rfl rfl (by omega) (by omega) ?_
          refine sm_T_iast (n := 1024) rfl rfl (by omega) (by omega) ?_
          have hIx120_ : gi (sm_aI Sx100_ 138 0 (Sx100_.1 13 0 34).toNat (Sx100_.2.2.1 121 0 vx17_.toNat)) := gi_aI hIx101_ (show (-2147483648) ≤ (Sx100_.2.2.1 121 0 vx17_.toNat) ∧ (Sx100_.2.2.1 121 0 vx17_.toNat) ≤ 2147483647 from ⟨by omega, by omega⟩)
          have hFx121_ : ai_fr (sx_W vw_322) S0_ (sm_aI Sx100_ 138 0 (Sx100_.1 13 0 34).toNat (Sx100_.2.2.1 121 0 vx17_.toNat)) := ai_fr_tr hFx104_ (ai_fr_aI rfl)
          refine sm_T_go 2 (c1 := (102, [some (.inr (.inr (some (13, 0)))), some (.inl (S0_.1 13 0 9)), some (.inl vx17_), some (.inl 0)], [], sm_aI Sx100_ 138 0 (Sx100_.1 13 0 34).toNat (Sx100_.2.2.1 121 0 vx17_.toNat))) rfl ?_
          refine sm_T_wk [some (.inr (.inr (some (13, 0)))), some (.inl (S0_.1 13 0 9)), none, some (.inl 0)] (by exact ⟨rfl, rfl, rfl, trivial⟩) ?_
          refine (vl_322 b_ n_ T_ mo_ p_ i_ gl_ S0_ ht_ hf_ hi_ hv_ hmo_ hw_ hk_ hm2_ vp0_ _) (S0_.1 13 0 9) 0 (sm_aI Sx100_ 138 0 (Sx100_.1 13 0 34).toNat (Sx100_.2.2.1 121 0 vx17_.toNat)) hIx120_ hFx121_ ⟨?_, ?_, trivial⟩ (Nat.lt_succ_self _)
          · omega
          · first | (have g52_ := g51_; rw [hx4b] at g52_; first | (exfalso; exact g52_.2.2 (g52_.1.symm.trans hz5_)) | (refine ⟨fun e_ he_ => ?_, fun r9_ hr_ => ?_⟩; (first | (rw [cw3_] at he_; cases he_; exact rw9_ _ _ g52_ (hFx121_.1 13 0 32 rfl) (hFx121_.1 13 0 27 rfl)) | (rw [crv_] at he_; cases he_; exact rw9_ _ _ g52_ (hFx121_.1 13 0 32 rfl) (hFx121_.1 13 0 27 rfl))); (first | (rw [cw3_] at hr_; cases hr_) | (rw [crv_] at hr_; cases hr_)))) | (obtain ⟨u5_, i5_, hu5_, e51_, e52_⟩ := rg_r g51_ hz5_; rw [hx4b, pb_r rfl] at hu5_; have nv51_ := (congrFun nn51_ _).trans nv_.1; have sg_ := shl_ge (x_ := lx_vl b_ n_ p_) (w_ := lx_vl b_ n_ r_) vp0_ hin_; rw [na51_, nv51_] at cx118_; first | (have hp5_ : p_co b_ n_ p_ = .inl (12, p_) := (by rw [crv_, hu5_, pb_r rfl, if_neg (sg_.mp (by omega))]); have g82_ : rg b_ n_ T_ (.inl (12, p_)) _ := (by rcases e82_ with z_ | z_; (exact absurd hz5_ z_.1); (exact ⟨z_.2.1, z_.2.2.trans pa51_, by show (12 : Int) ≠ 0; decide⟩)); refine ⟨fun e_ he_ => ?_, fun r9_ hr_ => ?_⟩; (rw [hp5_] at he_; cases he_; exact rw9_ _ _ g82_ (hFx121_.1 13 0 32 rfl) (hFx121_.1 13 0 27 rfl)); (rw [hp5_] at hr_; cases hr_)) | (have hp5_ : p_co b_ n_ p_ = .inr (u5_, lx_vl b_ n_ r_, [cw 8 (lx_vl b_ n_ r_) (lx_vl b_ n_ p_)]) := (by rw [crv_, hu5_, pb_r rfl, if_pos (by by_cases q_ : lx_vl b_ n_ p_ / 2 ^ (lx_vl b_ n_ r_).toNat = 0; exact q_; (have := sg_.mpr q_; omega))]); refine ⟨fun e_ he_ => ?_, fun r9_ hr_ => ?_⟩; (rw [hp5_] at he_; cases he_); (rw [hp5_] at hr_; cases hr_; refine ⟨⟨hz5_, i5_, e51_, e52_⟩, fun l_ hl_ hs_ => ?_⟩; refine stk_pu (by omega) nv51_ ?_; rw [w51_]; exact hs_))) | (obtain ⟨e5_, he5_⟩ := rg_w g51_ hz5_; have g52_ := g51_; rw [he5_] at g52_; have hp5_ : p_co b_ n_ p_ = .inl e5_ := (by rw [crv_]; rw [hx4b, pb_r rfl] at he5_; rw [he5_]; rfl); refine ⟨fun e_ he_ => ?_, fun r9_ hr_ => ?_⟩; (rw [hp5_] at he_; cases he_; exact rw9_ _ _ g52_ (hFx121_.1 13 0 32 rfl) (hFx121_.1 13 0 27 rfl)); (rw [hp5_] at hr_; cases hr_))
        · have cx118_ : ¬ ((Sx100_.2.2.1 121 0 (S0_.1 13 0 9).toNat) < (i_shl 1 (Sx100_.2.2.1 121 0 vx17_.toNat))) := of_decide_eq_false cx118_
          refine sm_T_go 3 (c1 := (82, [some (.inr (.inr (some (13, 0)))), some (.inl (S0_.1 13 0 9)), some (.inl vx17_), none], [.inl (S0_.1 13 0 9), .inl 12, .inr (.inr (some (13, 0)))], Sx100_)) rfl ?_
          refine sm_T_cal (d1 := 0) (Q1 := vq_294 12 (S0_.1 13 0 9) Sx100_) rfl rfl (by decide) (vc_294 12 (S0_.1 13 0 9) Sx100_ hIx101_ (by decide) (by omega)) (fun u_ Sx122_ px125_ => ?_)
          obtain ⟨rfl, hIx123_, hFx124_, px125_⟩ := px125_
          have hFx126_ : ai_fr (sx_W vw_322) S0_ Sx122_ := ai_fr_tr hFx104_ (fr_le hFx124_ rfl)
          have e82_ := px125_
          have w82_ := (fr_arr (t := 138) (i := 0) hFx124_ rfl).trans w51_
          have vl82_ : Sx122_.1 13 0 34 = (gl_ : Int) := (hFx126_.1 13 0 34 rfl).trans hv_.1
          have bx127_ : 0 ≤ Sx122_.1 13 0 34 ∧ Sx122_.1 13 0 34 ≤ 1023 := hIx123_.1 13 0 34 rfl
          refine sm_T_go 7 (c1 := (98, [some (.inr (.inr (some (13, 0)))), some (.inl (S0_.1 13 0 9)), some (.inl vx17_), none], [.inl vx17_, .inr (.inr (some (121, 0))), .inl (Sx122_.1 13 0 34), .inr (.inr (some (138, 0)))], Sx122_)) rfl ?_
          refine sm_T_iald (n := 65537) rfl rfl (by omega) (by omega) ?_
          have bx128_ : (-2147483648) ≤ Sx122_.2.2.1 121 0 vx17_.toNat ∧ Sx122_.2.2.1 121 0 vx17_.toNat ≤ 2147483647 := hIx123_.2 121 0 _
          refine sm_T_iast (n := 1024) rfl rfl (by omega) (by omega) ?_
          have hIx129_ : gi (sm_aI Sx122_ 138 0 (Sx122_.1 13 0 34).toNat (Sx122_.2.2.1 121 0 vx17_.toNat)) := gi_aI hIx123_ (show (-2147483648) ≤ (Sx122_.2.2.1 121 0 vx17_.toNat) ∧ (Sx122_.2.2.1 121 0 vx17_.toNat) ≤ 2147483647 from ⟨by omega, by omega⟩)
          have hFx130_ : ai_fr (sx_W vw_322) S0_ (sm_aI Sx122_ 138 0 (Sx122_.1 13 0 34).toNat (Sx122_.2.2.1 121 0 vx17_.toNat)) := ai_fr_tr hFx126_ (ai_fr_aI rfl)
          refine sm_T_go 2 (c1 := (102, [some (.inr (.inr (some (13, 0)))), some (.inl (S0_.1 13 0 9)), some (.inl vx17_), some (.inl 0)], [], sm_aI Sx122_ 138 0 (Sx122_.1 13 0 34).toNat (Sx122_.2.2.1 121 0 vx17_.toNat))) rfl ?_
          refine sm_T_wk [some (.inr (.inr (some (13, 0)))), some (.inl (S0_.1 13 0 9)), none, some (.inl 0)] (by exact ⟨rfl, rfl, rfl, trivial⟩) ?_
          refine (vl_322 b_ n_ T_ mo_ p_ i_ gl_ S0_ ht_ hf_ hi_ hv_ hmo_ hw_ hk_ hm2_ vp0_ _) (S0_.1 13 0 9) 0 (sm_aI Sx122_ 138 0 (Sx122_.1 13 0 34).toNat (Sx122_.2.2.1 121 0 vx17_.toNat)) hIx129_ hFx130_ ⟨?_, ?_, trivial⟩ (Nat.lt_succ_self _)
          · omega
          · first | (have g52_ := g51_; rw [hx4b] at g52_; first | (exfalso; exact g52_.2.2 (g52_.1.symm.trans hz5_)) | (refine ⟨fun e_ he_ => ?_, fun r9_ hr_ => ?_⟩; (first | (rw [cw3_] at he_; cases he_; exact rw9_ _ _ g52_ (hFx130_.1 13 0 32 rfl) (hFx130_.1 13 0 27 rfl)) | (rw [crv_] at he_; cases he_; exact rw9_ _ _ g52_ (hFx130_.1 13 0 32 rfl) (hFx130_.1 13 0 27 rfl))); (first | (rw [cw3_] at hr_; cases hr_) | (rw [crv_] at hr_; cases hr_)))) | (obtain ⟨u5_, i5_, hu5_, e51_, e52_⟩ := rg_r g51_ hz5_; rw [hx4b, pb_r rfl] at hu5_; have nv51_ := (congrFun nn51_ _).trans nv_.1; have sg_ := shl_ge (x_ := lx_vl b_ n_ p_) (w_ := lx_vl b_ n_ r_) vp0_ hin_; rw [na51_, nv51_] at cx118_; first | (have hp5_ : p_co b_ n_ p_ = .inl (12, p_) := (by rw [crv_, hu5_, pb_r rfl, if_neg (sg_.mp (by omega))]); have g82_ : rg b_ n_ T_ (.inl (12, p_)) _ := (by rcases e82_ with z_ | z_; (exact absurd hz5_ z_.1); (exact ⟨z_.2.1, z_.2.2.trans pa51_, by show (12 : Int) ≠ 0; decide⟩)); refine ⟨fun e_ he_ => ?_, fun r9_ hr_ => ?_⟩; (rw [hp5_] at he_; cases he_; exact rw9_ _ _ g82_ (hFx130_.1 13 0 32 rfl) (hFx130_.1 13 0 27 rfl)); (rw [hp5_] at hr_; cases hr_)) | (have hp5_ : p_co b_ n_ p_ = .inr (u5_, lx_vl b_ n_ r_, [cw 8 (lx_vl b_ n_ r_) (lx_vl b_ n_ p_)]) := (by rw [crv_, hu5_, pb_r rfl, if_pos (by by_cases q_ : lx_vl b_ n_ p_ / 2 ^ (lx_vl b_ n_ r_).toNat = 0; exact q_; (have := sg_.mpr q_; omega))]); refine ⟨fun e_ he_ => ?_, fun r9_ hr_ => ?_⟩; (rw [hp5_] at he_; cases he_); (rw [hp5_] at hr_; cases hr_; refine ⟨⟨hz5_, i5_, e51_, e52_⟩, fun l_ hl_ hs_ => ?_⟩; refine stk_pu (by omega) nv51_ ?_; rw [w51_]; exact hs_))) | (obtain ⟨e5_, he5_⟩ := rg_w g51_ hz5_; have g52_ := g51_; rw [he5_] at g52_; have hp5_ : p_co b_ n_ p_ = .inl e5_ := (by rw [crv_]; rw [hx4b, pb_r rfl] at he5_; rw [he5_]; rfl); refine ⟨fun e_ he_ => ?_, fun r9_ hr_ => ?_⟩; (rw [hp5_] at he_; cases he_; exact rw9_ _ _ g52_ (hFx130_.1 13 0 32 rfl) (hFx130_.1 13 0 27 rfl)); (rw [hp5_] at hr_; cases hr_))
end
/-! 99.yaa -/
section
/-! the reference: bits; written by wip/p55/gen/vg -/
/-! M_.copyValue -/
def vw_333 : sx_Wl := ([], [138, 139], [])
def vq_333 (wd_ : Int) (oi_ : Int) (fr_ : Int) (mo_ : Int) (gl_ : Nat) (S0_ : sm_S) (u_ : Option sm_V) (S1_ : sm_S) : Prop := u_ = none ∧ gi S1_ ∧ ai_fr (sx_W vw_333) S0_ S1_ ∧ (∀ l_ : List Int, l_.length = gl_ → stk (S0_.2.2.1 138 0) l_ → stk (S1_.2.2.1 138 0) (wd_ :: l_))
set_option maxHeartbeats 400000 in
theorem vc_333 {sc_ : Nat × (Nat → Int)} (wd_ : Int) (oi_ : Int) (fr_ : Int) (mo_ : Int) (gl_ : Nat) (S0_ : sm_S) (hI_ : gi S0_) (hv_ : (S0_.1 13 0 34) = (gl_ : Int) ∧ gl_ ≤ 1000) (hmo_ : (S0_.1 13 0 27) = mo_) (hm1_ : mo_ ≠ 1) (hwd_ : 0 ≤ wd_ ∧ wd_ ≤ 8) : sm_T (mt_P sc_) 0 333 (0, [some (.inr (.inr (some (13, 0)))), some (.inl wd_), some (.inl oi_), some (.inl fr_), none], [], S0_) (fun r_ => ∃ u_ S1_, r_ = (.inl u_, S1_, 0) ∧ vq_333 wd_ oi_ fr_ mo_ gl_ S0_ u_ S1_) := by
  have hF_ : ai_fr (sx_W vw_333) S0_ S0_ := ai_fr_rf
  have bx1_ : 0 ≤ S0_.1 13 0 34 ∧ S0_.1 13 0 34 ≤ 1023 := hI_.1 13 0 34 rfl
  refine sm_T_go 5 (c1 := (9, [some (.inr (.inr (some (13, 0)))), some (.inl wd_), some (.inl oi_), some (.inl fr_), none], [.inl wd_, .inl (S0_.1 13 0 34), .inr (.inr (some (138, 0)))], S0_)) rfl ?_
  refine sm_T_iast (n := 1024) rfl rfl (by omega) (by omega) ?_
  have hIx2_ : gi (sm_aI S0_ 138 0 (S0_.1 13 0 34).toNat wd_) := gi_aI hI_ (show (-2147483648) ≤ wd_ ∧ wd_ ≤ 2147483647 from ⟨by omega, by omega⟩)
  have hFx3_ : ai_fr (sx_W vw_333) S0_ (sm_aI S0_ 138 0 (S0_.1 13 0 34).toNat wd_) := ai_fr_tr hF_ (ai_fr_aI rfl)
  have bx4_ : 0 ≤ S0_.1 13 0 27 ∧ S0_.1 13 0 27 ≤ 2 := hI_.1 13 0 27 rfl
  refine sm_T_go 8 (c1 := (25, [some (.inr (.inr (some (13, 0)))), some (.inl wd_), some (.inl oi_), some (.inl fr_), some (.inl 0)], [.inl 1, .inl (S0_.1 13 0 27)], sm_aI S0_ 138 0 (S0_.1 13 0 34).toNat wd_)) rfl ?_
  refine sm_T_br (a := 1) (z := 49) rfl (fun cx5_ => ?_) (fun cx5_ => ?_)
  · have cx5_ : (S0_.1 13 0 27) ≠ 1 := of_decide_eq_true cx5_
    refine sm_T_rv rfl ⟨_, _, rfl, rfl, hIx2_, hFx3_, ?_⟩
    intro l_ hl_ hs_
    exact stk_pu (by omega) rfl hs_
  · have cx5_ : ¬ ((S0_.1 13 0 27) ≠ 1) := of_decide_eq_false cx5_
    exfalso; omega
end
/-! 99.yab -/
section
/-! bits -/
def p_bp (b_ : Nat → Int) (n_ : Nat) (wd_ : Int) (p_ : Nat) : pE Nat := pb (p_nu b_ n_ 0 (wd_ - 1) p_) fun _ => p_ad b_ n_ p_
theorem bp_bi {b_ : Nat → Int} {n_ p_ : Nat} {wd_ : Int} {l_ : List Int} : p_bi b_ n_ wd_ l_ p_ = pb (p_bp b_ n_ wd_ p_) fun q_ => .inr (q_, 1, cw 11 (lx_vl b_ n_ p_) 0 :: l_) := by
  unfold p_bi p_bp
  cases h_ : p_nu b_ n_ 0 (wd_ - 1) p_ with
  | inl e_ => rfl
  | inr v_ =>
    have h1_ := (p_nu_ok h_).2.1
    subst h1_
    rw [pb_r rfl, pb_r rfl]
theorem bp_w {b_ : Nat → Int} {n_ : Nat} {wd_ : Int} {x_ : pE Nat} {e_ : Int × Nat} (h_ : pb x_ (p_du b_ n_ 2) = .inl e_) : pb x_ (p_bp b_ n_ wd_) = .inl e_ := by
  cases x_ with
  | inl z_ => exact h_
  | inr p_ =>
    rw [pb_r rfl] at h_ ⊢
    unfold p_du at h_
    unfold p_bp p_nu
    split at h_
    · cases h_
    · rename_i g_
      cases h_
      rw [if_neg g_]
      rfl
theorem bp_r {b_ : Nat → Int} {n_ r_ : Nat} {wd_ : Int} {x_ : pE Nat} (h_ : pb x_ (p_du b_ n_ 2) = .inr r_) : lx_kd b_ n_ r_ = 2 ∧ pb x_ (p_bp b_ n_ wd_) = if lx_vl b_ n_ r_ < 0 ∨ wd_ - 1 < lx_vl b_ n_ r_ then .inl (12, r_) else p_ad b_ n_ r_ := by
  obtain ⟨p_, h1_, h2_⟩ := pb_inr h_
  subst h1_
  unfold p_du at h2_
  split at h2_
  · rename_i g_
    cases h2_
    refine ⟨g_, ?_⟩
    rw [pb_r rfl]
    unfold p_bp p_nu
    rw [if_pos g_]
    split <;> rfl
  · cases h2_
theorem lx_de_g {b_ : Nat → Int} {n_ : Nat} : ∀ (f_ p_ k_ : Nat), n_ - p_ ≤ f_ → p_ ≤ k_ → k_ < lx_de b_ n_ p_ → lx_g (b_ k_)
  | 0, p_, k_, hf_, hk_, h_ => by
    rw [lx_f_go, if_neg (by omega)] at h_
    omega
  | f_ + 1, p_, k_, hf_, hk_, h_ => by
    rw [lx_f_go] at h_
    split at h_
    · rename_i g_
      by_cases e_ : k_ = p_
      · rw [e_]; exact g_.2
      · exact lx_de_g f_ (p_ + 1) k_ (by omega) (by omega) h_
    · omega
theorem lx_vl_0 {b_ : Nat → Int} {n_ p_ : Nat} (h_ : lx_kd b_ n_ p_ = 2) : 0 ≤ lx_vl b_ n_ p_ := by
  unfold lx_kd at h_
  split at h_
  · omega
  · rename_i g_
    have h1_ := lx_wk_7 (lx_pk b_ p_ (lx_ne b_ n_ p_ - p_))
    split at h_
    · split at h_ <;> omega
    · split at h_
      · rename_i g2_
        unfold lx_vl
        refine (lx_v_b (b := b_) (p := p_) (k := min (lx_de b_ n_ p_ - p_) 6) (by omega) (fun j_ hj_ => ?_)).1
        exact lx_de_g (n_ - p_) p_ (p_ + j_) (Nat.le_refl _) (by omega) (by omega)
      · have h2_ := lx_sk_b (b := b_) (n := n_) (p := p_)
        split at h_ <;> omega
end
/-! 99.yac -/
section
/-! M_.bit -/
def vw_325 : sx_Wl := ([(13, 9), (13, 10), (13, 11)], [138, 139], [])
def vq_325 (wd_ : Int) (b_ : Nat → Int) (n_ : Nat) (T_ : Nat) (x_ : pE Nat) (mo_ : Int) (gl_ : Nat) (S0_ : sm_S) (u_ : Option sm_V) (S1_ : sm_S) : Prop := u_ = none ∧ gi S1_ ∧ ai_fr (sx_W vw_325) S0_ S1_ ∧ (rg b_ n_ T_ (pb x_ (p_bp b_ n_ wd_)) S1_ ∧ ∀ r_, pb x_ (p_bp b_ n_ wd_) = .inr r_ → ∀ l_ : List Int, l_.length = gl_ → stk (S0_.2.2.1 138 0) l_ → stk (S1_.2.2.1 138 0) (1 :: l_))
set_option maxHeartbeats 1500000 in
theorem vc_325 {sc_ : Nat × (Nat → Int)} (wd_ : Int) (b_ : Nat → Int) (n_ : Nat) (T_ : Nat) (x_ : pE Nat) (mo_ : Int) (gl_ : Nat) (S0_ : sm_S) (hI_ : gi S0_) (ht_ : rtab b_ n_ T_ S0_) (hx_ : rg b_ n_ T_ x_ S0_) (hv_ : (S0_.1 13 0 34) = (gl_ : Int) ∧ gl_ ≤ 1000) (hwd_ : 0 ≤ wd_ ∧ wd_ ≤ 8) : sm_T (mt_P sc_) 3 325 (0, [some (.inr (.inr (some (13, 0)))), some (.inl wd_), none], [], S0_) (fun r_ => ∃ u_ S1_, r_ = (.inl u_, S1_, 0) ∧ vq_325 wd_ b_ n_ T_ x_ mo_ gl_ S0_ u_ S1_) := by
  have hF_ : ai_fr (sx_W vw_325) S0_ S0_ := ai_fr_rf
  refine sm_T_go 2 (c1 := (2, [some (.inr (.inr (some (13, 0)))), some (.inl wd_), none], [.inl 2, .inr (.inr (some (13, 0)))], S0_)) rfl ?_
  refine sm_T_cal (d1 := 1) (Q1 := vq_299 2 b_ n_ T_ x_ S0_) rfl rfl (by decide) (vc_299 2 b_ n_ T_ x_ S0_ hI_ (by exact ht_) (by exact hx_) (by decide)) (fun u_ Sx1_ px4_ => ?_)
  obtain ⟨vx6_, rfl, hIx2_, hFx3_, px4_⟩ := px4_
  have hFx5_ : ai_fr (sx_W vw_325) S0_ Sx1_ := ai_fr_tr hF_ (fr_le hFx3_ rfl)
  have a17_ := px4_.1
  have g17_ := px4_.2
  have t17_ := rtab_fr ht_ hFx3_ rfl rfl rfl rfl rfl
  have at17_ := hFx3_.1 13 0 9 rfl
  have v17b : 0 ≤ vx6_ ∧ vx6_ ≤ 1280 := by rw [a17_, ← at17_]; exact hIx2_.1 13 0 9 rfl
  have w17_ := fr_arr (t := 138) (i := 0) hFx3_ rfl
  have nv17_ : ∀ r_ i3_ : Nat, Sx1_.1 13 0 9 = (i3_ : Int) → rp b_ n_ T_ i3_ r_ → lx_kd b_ n_ r_ = 2 → Sx1_.2.2.1 121 0 vx6_.toNat = lx_vl b_ n_ r_ ∧ Sx1_.2.2.1 120 0 vx6_.toNat = (r_ : Int) ∧ Sx1_.2.2.1 119 0 vx6_.toNat ≠ 4 := by intro r_ i3_ q1_ q2_ q3_; have q4_ := rp_at t17_ q2_; rw [show vx6_.toNat = i3_ by omega, q4_.1, q4_.2.1, q4_.2.2.1, q3_]; exact ⟨rfl, rfl, by decide⟩
  refine sm_T_go 2 (c1 := (7, [some (.inr (.inr (some (13, 0)))), some (.inl wd_), some (.inl vx6_)], [.inr (.inr (some (13, 0)))], Sx1_)) rfl ?_
  refine sm_T_cal (d1 := 0) (Q1 := vq_292  Sx1_) rfl rfl (by decide) (vc_292  Sx1_ hIx2_ ) (fun u_ Sx7_ px10_ => ?_)
  obtain ⟨rfl, vx12_, rfl, px10_⟩ := px10_
  have e22_ := px10_
  refine sm_T_b0 (a := 0) (z := 20) rfl (fun cx13_ => ?_) (fun cx13_ => ?_)
  · have cx13_ : vx12_ = 0 := of_decide_eq_true cx13_
    obtain ⟨e3_, he3_⟩ := rg_w g17_ (wr_if e22_ (by omega))
    have cw3_ := bp_w (wd_ := wd_) he3_
    rw [he3_] at g17_
    obtain ⟨x4_, hx4_, hx4b⟩ : ∃ x4_ : pE Nat, rg b_ n_ T_ x4_ _ ∧ x4_ = .inl e3_ := ⟨_, g17_, rfl⟩
    have t50_ := t17_
    have w50_ := w17_
    refine sm_T_go 1 (c1 := (31, [some (.inr (.inr (some (13, 0)))), some (.inl wd_), some (.inl vx6_)], [.inr (.inr (some (13, 0)))], Sx1_)) rfl ?_
    refine sm_T_cal (d1 := 2) (Q1 := vq_297 b_ n_ T_ x4_ Sx1_) rfl rfl (by decide) (vc_297 b_ n_ T_ x4_ Sx1_ hIx2_ (by exact t50_) (by exact hx4_) (by (intro q_ e_; rw [hx4b] at e_; first | (cases e_; done) | (cases e_; rw [cr.1]; decide)))) (fun u_ Sx14_ px17_ => ?_)
    obtain ⟨rfl, hIx15_, hFx16_, px17_⟩ := px17_
    have hFx18_ : ai_fr (sx_W vw_325) S0_ Sx14_ := ai_fr_tr hFx5_ (fr_le hFx16_ rfl)
    have g51_ := px17_.1
    have nn51_ := fr_arr (t := 121) (i := 0) hFx16_ rfl
    have vl51_ : Sx14_.1 13 0 34 = (gl_ : Int) := (hFx18_.1 13 0 34 rfl).trans hv_.1
    have w51_ := (fr_arr (t := 138) (i := 0) hFx16_ rfl).trans w50_
    refine sm_T_go 1 (c1 := (35, [some (.inr (.inr (some (13, 0)))), some (.inl wd_), some (.inl vx6_)], [.inr (.inr (some (13, 0)))], Sx14_)) rfl ?_
    refine sm_T_cal (d1 := 0) (Q1 := vq_292  Sx14_) rfl rfl (by decide) (vc_292  Sx14_ hIx15_ ) (fun u_ Sx19_ px22_ => ?_)
    obtain ⟨rfl, vx24_, rfl, px22_⟩ := px22_
    have e55_ := px22_
    first | (have v55_ : vx24_ = 0 := (by rw [hx4b] at g51_; rw [e55_, if_neg (fun z_ => g51_.2.2 (g51_.1.symm.trans z_))])) | skip
    refine sm_T_b0 (a := 0) (z := 44) rfl (fun cx25_ => ?_) (fun cx25_ => ?_)
    · have cx25_ : vx24_ = 0 := of_decide_eq_true cx25_
      have hz5_ := wr_if e55_ (by omega)
      refine sm_T_rv rfl ⟨_, _, rfl, rfl, hIx15_, hFx18_, ?_⟩
      first | (exfalso; omega) | (have gq_ : rg b_ n_ T_ (pb x_ (p_bp b_ n_ wd_)) _ := (by first | (rw [cw3_]; rw [hx4b] at g51_; exact g51_) | (rw [crv_]; rw [hx4b] at g51_; exact g51_)); refine ⟨gq_, fun r9_ hr_ l_ hl_ hs_ => ?_⟩; first | (exfalso; rw [hr_] at gq_; exact hz5_ gq_.1) | (exact stk_pu (by omega) rfl (stk_ot (by rw [w51_]; exact hs_) (by decide))))
    · have cx25_ : ¬ (vx24_ = 0) := of_decide_eq_false cx25_
      first | (have hz5_ := rt_if e55_ (by omega); have nv51_ := (congrFun nn51_ _).trans nv_.1; have n51_ : 0 ≤ lx_vl b_ n_ r_ ∧ lx_vl b_ n_ r_ < 8 := (by omega)) | skip
      have bx26_ : 0 ≤ Sx14_.1 13 0 34 ∧ Sx14_.1 13 0 34 ≤ 1023 := hIx15_.1 13 0 34 rfl
      refine sm_T_go 5 (c1 := (51, [some (.inr (.inr (some (13, 0)))), some (.inl wd_), some (.inl vx6_)], [.inl (Sx14_.1 13 0 34), .inl 8, .inr (.inr (some (139, 0)))], Sx14_)) rfl ?_
      refine sm_T_bin (w := 8 * (Sx14_.1 13 0 34)) rfl (bi_mul (by omega) (by omega) (by omega)) ?_
      refine sm_T_go 5 (c1 := (62, [some (.inr (.inr (some (13, 0)))), some (.inl wd_), some (.inl vx6_)], [.inl (Sx14_.1 13 0 34), .inl 8, .inr (.inr (some (139, 0))), .inl (8 * (Sx14_.1 13 0 34)), .inr (.inr (some (139, 0)))], Sx14_)) rfl ?_
      refine sm_T_bin (w := 8 * (Sx14_.1 13 0 34)) rfl (bi_mul (by omega) (by omega) (by omega)) ?_
      refine sm_T_go 3 (c1 := (68, [some (.inr (.inr (some (13, 0)))), some (.inl wd_), some (.inl vx6_)], [.inl vx6_, .inr (.inr (some (121, 0))), .inl (8 * (Sx14_.1 13 0 34)), .inr (.inr (some (139, 0))), .inl (8 * (Sx14_.1 13 0 34)), .inr (.inr (some (139, 0)))], Sx14_)) rfl ?_
      refine sm_T_iald (n := 65537) rfl rfl (by omega) (by omega) ?_
      have bx27_ : (-2147483648) ≤ Sx14_.2.2.1 121 0 vx6_.toNat ∧ Sx14_.2.2.1 121 0 vx6_.toNat ≤ 2147483647 := hIx15_.2 121 0 _
      refine sm_T_bin (w := 8 * (Sx14_.1 13 0 34) + (Sx14_.2.2.1 121 0 vx6_.toNat)) rfl (bi_add (by omega) (by omega) (by omega)) ?_
      refine sm_T_iald (n := 8192) rfl rfl (by omega) (by omega) ?_
      have bx28_ : 0 ≤ Sx14_.2.2.1 139 0 (8 * (Sx14_.1 13 0 34) + (Sx14_.2.2.1 121 0 vx6_.toNat)).toNat ∧ Sx14_.2.2.1 139 0 (8 * (Sx14_.1 13 0 34) + (Sx14_.2.2.1 121 0 vx6_.toNat)).toNat ≤ 2047 := hIx15_.2 139 0 _
      refine sm_T_iast (n := 8192) rfl rfl (by omega) (by omega) ?_
      have hIx29_ : gi (sm_aI Sx14_ 139 0 (8 * (Sx14_.1 13 0 34)).toNat (Sx14_.2.2.1 139 0 (8 * (Sx14_.1 13 0 34) + (Sx14_.2.2.1 121 0 vx6_.toNat)).toNat)) := gi_aI hIx15_ (show 0 ≤ (Sx14_.2.2.1 139 0 (8 * (Sx14_.1 13 0 34) + (Sx14_.2.2.1 121 0 vx6_.toNat)).toNat) ∧ (Sx14_.2.2.1 139 0 (8 * (Sx14_.1 13 0 34) + (Sx14_.2.2.1 121 0 vx6_.toNat)).toNat) ≤ 2047 from ⟨by omega, by omega⟩)
      have hFx30_ : ai_fr (sx_W vw_325) S0_ (sm_aI Sx14_ 139 0 (8 * (Sx14_.1 13 0 34)).toNat (Sx14_.2.2.1 139 0 (8 * (Sx14_.1 13 0 34) + (Sx14_.2.2.1 121 0 vx6_.toNat)).toNat)) := ai_fr_tr hFx18_ (ai_fr_aI rfl)
      refine sm_T_go 5 (c1 := (81, [some (.inr (.inr (some (13, 0)))), some (.inl wd_), some (.inl vx6_)], [.inl 1, .inl (Sx14_.1 13 0 34), .inr (.inr (some (138, 0)))], sm_aI Sx14_ 139 0 (8 * (Sx14_.1 13 0 34)).toNat (Sx14_.2.2.1 139 0 (8 * (Sx14_.1 13 0 34) + (Sx14_.2.2.1 121 0 vx6_.toNat)).toNat))) rfl ?_
      refine sm_T_iast (n := 1024) rfl rfl (by omega) (by omega) ?_
      have hIx31_ : gi (sm_aI (sm_aI Sx14_ 139 0 (8 * (Sx14_.1 13 0 34)).toNat (Sx14_.2.2.1 139 0 (8 * (Sx14_.1 13 0 34) + (Sx14_.2.2.1 121 0 vx6_.toNat)).toNat)) 138 0 (Sx14_.1 13 0 34).toNat 1) := gi_aI hIx29_ (show (-2147483648) ≤ 1 ∧ 1 ≤ 2147483647 from ⟨by omega, by omega⟩)
      have hFx32_ : ai_fr (sx_W vw_325) S0_ (sm_aI (sm_aI Sx14_ 139 0 (8 * (Sx14_.1 13 0 34)).toNat (Sx14_.2.2.1 139 0 (8 * (Sx14_.1 13 0 34) + (Sx14_.2.2.1 121 0 vx6_.toNat)).toNat)) 138 0 (Sx14_.1 13 0 34).toNat 1) := ai_fr_tr hFx30_ (ai_fr_aI rfl)
      refine sm_T_rv rfl ⟨_, _, rfl, rfl, hIx31_, hFx32_, ?_⟩
      first | (exfalso; omega) | (have gq_ : rg b_ n_ T_ (pb x_ (p_bp b_ n_ wd_)) _ := (by first | (rw [cw3_]; rw [hx4b] at g51_; exact g51_) | (rw [crv_]; rw [hx4b] at g51_; exact g51_)); refine ⟨gq_, fun r9_ hr_ l_ hl_ hs_ => ?_⟩; first | (exfalso; rw [hr_] at gq_; exact hz5_ gq_.1) | (exact stk_pu (by omega) rfl (stk_ot (by rw [w51_]; exact hs_) (by decide))))
  · have cx13_ : ¬ (vx12_ = 0) := of_decide_eq_false cx13_
    have hz_ := rt_if e22_ (by omega)
    obtain ⟨r_, i3_, hr3_, e31_, e32_⟩ := rg_r g17_ hz_
    have cr := bp_r (wd_ := wd_) hr3_
    have nv_ := nv17_ r_ i3_ e31_ e32_ cr.1
    have vr0_ := lx_vl_0 cr.1
    refine sm_T_go 3 (c1 := (18, [some (.inr (.inr (some (13, 0)))), some (.inl wd_), some (.inl vx6_)], [.inl vx6_, .inr (.inr (some (121, 0)))], Sx1_)) rfl ?_
    refine sm_T_iald (n := 65537) rfl rfl (by omega) (by omega) ?_
    have bx33_ : (-2147483648) ≤ Sx1_.2.2.1 121 0 vx6_.toNat ∧ Sx1_.2.2.1 121 0 vx6_.toNat ≤ 2147483647 := hIx2_.2 121 0 _
    refine sm_T_go 1 (c1 := (20, [some (.inr (.inr (some (13, 0)))), some (.inl wd_), some (.inl vx6_)], [.inl wd_, .inl (Sx1_.2.2.1 121 0 vx6_.toNat)], Sx1_)) rfl ?_
    refine sm_T_br (a := 2) (z := 10) rfl (fun cx34_ => ?_) (fun cx34_ => ?_)
    · have cx34_ : (Sx1_.2.2.1 121 0 vx6_.toNat) < wd_ := of_decide_eq_true cx34_
      rw [hr3_] at g17_
      obtain ⟨x4_, hx4_, hx4b⟩ : ∃ x4_ : pE Nat, rg b_ n_ T_ x4_ _ ∧ x4_ = .inr r_ := ⟨_, g17_, rfl⟩
      have t50_ := t17_
      have w50_ := w17_
      have crv_ := cr.2
      rw [if_neg (by omega)] at crv_
      refine sm_T_go 1 (c1 := (31, [some (.inr (.inr (some (13, 0)))), some (.inl wd_), some (.inl vx6_)], [.inr (.inr (some (13, 0)))], Sx1_)) rfl ?_
      refine sm_T_cal (d1 := 2) (Q1 := vq_297 b_ n_ T_ x4_ Sx1_) rfl rfl (by decide) (vc_297 b_ n_ T_ x4_ Sx1_ hIx2_ (by exact t50_) (by exact hx4_) (by (intro q_ e_; rw [hx4b] at e_; first | (cases e_; done) | (cases e_; rw [cr.1]; decide)))) (fun u_ Sx35_ px38_ => ?_)
      obtain ⟨rfl, hIx36_, hFx37_, px38_⟩ := px38_
      have hFx39_ : ai_fr (sx_W vw_325) S0_ Sx35_ := ai_fr_tr hFx5_ (fr_le hFx37_ rfl)
      have g51_ := px38_.1
      have nn51_ := fr_arr (t := 121) (i := 0) hFx37_ rfl
      have vl51_ : Sx35_.1 13 0 34 = (gl_ : Int) := (hFx39_.1 13 0 34 rfl).trans hv_.1
      have w51_ := (fr_arr (t := 138) (i := 0) hFx37_ rfl).trans w50_
      refine sm_T_go 1 (c1 := (35, [some (.inr (.inr (some (13, 0)))), some (.inl wd_), some (.inl vx6_)], [.inr (.inr (some (13, 0)))], Sx35_)) rfl ?_
      refine sm_T_cal (d1 := 0) (Q1 := vq_292  Sx35_) rfl rfl (by decide) (vc_292  Sx35_ hIx36_ ) (fun u_ Sx40_ px43_ => ?_)
      obtain ⟨rfl, vx45_, rfl, px43_⟩ := px43_
      have e55_ := px43_
      first | (have v55_ : vx45_ = 0 := (by rw [hx4b] at g51_; rw [e55_, if_neg (fun z_ => g51_.2.2 (g51_.1.symm.trans z_))])) | skip
      refine sm_T_b0 (a := 0) (z := 44) rfl (fun cx46_ => ?_) (fun cx46_ => ?_)
      · have cx46_ : vx45_ = 0 := of_decide_eq_true cx46_
        have hz5_ := wr_if e55_ (by omega)
        refine sm_T_rv rfl ⟨_, _, rfl, rfl, hIx36_, hFx39_, ?_⟩
        first | (exfalso; omega) | (have gq_ : rg b_ n_ T_ (pb x_ (p_bp b_ n_ wd_)) _ := (by first | (rw [cw3_]; rw [hx4b] at g51_; exact g51_) | (rw [crv_]; rw [hx4b] at g51_; exact g51_)); refine ⟨gq_, fun r9_ hr_ l_ hl_ hs_ => ?_⟩; first | (exfalso; rw [hr_] at gq_; exact hz5_ gq_.1) | (exact stk_pu (by omega) rfl (stk_ot (by rw [w51_]; exact hs_) (by decide))))
      · have cx46_ : ¬ (vx45_ = 0) := of_decide_eq_false cx46_
        first | (have hz5_ := rt_if e55_ (by omega); have nv51_ := (congrFun nn51_ _).trans nv_.1; have n51_ : 0 ≤ lx_vl b_ n_ r_ ∧ lx_vl b_ n_ r_ < 8 := (by omega)) | skip
        have bx47_ : 0 ≤ Sx35_.1 13 0 34 ∧ Sx35_.1 13 0 34 ≤ 1023 := hIx36_.1 13 0 34 rfl
        refine sm_T_go 5 (c1 := (51, [some (.inr (.inr (some (13, 0)))), some (.inl wd_), some (.inl vx6_)], [.inl (Sx35_.1 13 0 34), .inl 8, .inr (.inr (some (139, 0)))], Sx35_)) rfl ?_
        refine sm_T_bin (w := 8 * (Sx35_.1 13 0 34)) rfl (bi_mul (by omega) (by omega) (by omega)) ?_
        refine sm_T_go 5 (c1 := (62, [some (.inr (.inr (some (13, 0)))), some (.inl wd_), some (.inl vx6_)], [.inl (Sx35_.1 13 0 34), .inl 8, .inr (.inr (some (139, 0))), .inl (8 * (Sx35_.1 13 0 34)), .inr (.inr (some (139, 0)))], Sx35_)) rfl ?_
        refine sm_T_bin (w := 8 * (Sx35_.1 13 0 34)) rfl (bi_mul (by omega) (by omega) (by omega)) ?_
        refine sm_T_go 3 (c1 := (68, [some (.inr (.inr (some (13, 0)))), some (.inl wd_), some (.inl vx6_)], [.inl vx6_, .inr (.inr (some (121, 0))), .inl (8 * (Sx35_.1 13 0 34)), .inr (.inr (some (139, 0))), .inl (8 * (Sx35_.1 13 0 34)), .inr (.inr (some (139, 0)))], Sx35_)) rfl ?_
        refine sm_T_iald (n := 65537) rfl rfl (by omega) (by omega) ?_
        have bx48_ : (-2147483648) ≤ Sx35_.2.2.1 121 0 vx6_.toNat ∧ Sx35_.2.2.1 121 0 vx6_.toNat ≤ 2147483647 := hIx36_.2 121 0 _
        refine sm_T_bin (w := 8 * (Sx35_.1 13 0 34) + (Sx35_.2.2.1 121 0 vx6_.toNat)) rfl (bi_add (by omega) (by omega) (by omega)) ?_
        refine sm_T_iald (n := 8192) rfl rfl (by omega) (by omega) ?_
        have bx49_ : 0 ≤ Sx35_.2.2.1 139 0 (8 * (Sx35_.1 13 0 34) + (Sx35_.2.2.1 121 0 vx6_.toNat)).toNat ∧ Sx35_.2.2.1 139 0 (8 * (Sx35_.1 13 0 34) + (Sx35_.2.2.1 121 0 vx6_.toNat)).toNat ≤ 2047 := hIx36_.2 139 0 _
        refine sm_T_iast (n := 8192) rfl rfl (by omega) (by omega) ?_
        have hIx50_ : gi (sm_aI Sx35_ 139 0 (8 * (Sx35_.1 13 0 34)).toNat (Sx35_.2.2.1 139 0 (8 * (Sx35_.1 13 0 34) + (Sx35_.2.2.1 121 0 vx6_.toNat)).toNat)) := gi_aI hIx36_ (show 0 ≤ (Sx35_.2.2.1 139 0 (8 * (Sx35_.1 13 0 34) + (Sx35_.2.2.1 121 0 vx6_.toNat)).toNat) ∧ (Sx35_.2.2.1 139 0 (8 * (Sx35_.1 13 0 34) + (Sx35_.2.2.1 121 0 vx6_.toNat)).toNat) ≤ 2047 from ⟨by omega, by omega⟩)
        have hFx51_ : ai_fr (sx_W vw_325) S0_ (sm_aI Sx35_ 139 0 (8 * (Sx35_.1 13 0 34)).toNat (Sx35_.2.2.1 139 0 (8 * (Sx35_.1 13 0 34) + (Sx35_.2.2.1 121 0 vx6_.toNat)).toNat)) := ai_fr_tr hFx39_ (ai_fr_aI rfl)
        refine sm_T_go 5 (c1 := (81, [some (.inr (.inr (some (13, 0)))), some (.inl wd_), some (.inl vx6_)], [.inl 1, .inl (Sx35_.1 13 0 34), .inr (.inr (some (138, 0)))], sm_aI Sx35_ 139 0 (8 * (Sx35_.1 13 0 34)).toNat (Sx35_.2.2.1 139 0 (8 * (Sx35_.1 13 0 34) + (Sx35_.2.2.1 121 0 vx6_.toNat)).toNat))) rfl ?_
        refine sm_T_iast (n := 1024) rfl rfl (by omega) (by omega) ?_
        have hIx52_ : gi (sm_aI (sm_aI Sx35_ 139 0 (8 * (Sx35_.1 13 0 34)).toNat (Sx35_.2.2.1 139 0 (8 * (Sx35_.1 13 0 34) + (Sx35_.2.2.1 121 0 vx6_.toNat)).toNat)) 138 0 (Sx35_.1 13 0 34).toNat 1) := gi_aI hIx50_ (show (-2147483648) ≤ 1 ∧ 1 ≤ 2147483647 from ⟨by omega, by omega⟩)
        have hFx53_ : ai_fr (sx_W vw_325) S0_ (sm_aI (sm_aI Sx35_ 139 0 (8 * (Sx35_.1 13 0 34)).toNat (Sx35_.2.2.1 139 0 (8 * (Sx35_.1 13 0 34) + (Sx35_.2.2.1 121 0 vx6_.toNat)).toNat)) 138 0 (Sx35_.1 13 0 34).toNat 1) := ai_fr_tr hFx51_ (ai_fr_aI rfl)
        refine sm_T_rv rfl ⟨_, _, rfl, rfl, hIx52_, hFx53_, ?_⟩
        first | (exfalso; omega) | (have gq_ : rg b_ n_ T_ (pb x_ (p_bp b_ n_ wd_)) _ := (by first | (rw [cw3_]; rw [hx4b] at g51_; exact g51_) | (rw [crv_]; rw [hx4b] at g51_; exact g51_)); refine ⟨gq_, fun r9_ hr_ l_ hl_ hs_ => ?_⟩; first | (exfalso; rw [hr_] at gq_; exact hz5_ gq_.1) | (exact stk_pu (by omega) rfl (stk_ot (by rw [w51_]; exact hs_) (by decide))))
    · have cx34_ : ¬ ((Sx1_.2.2.1 121 0 vx6_.toNat) < wd_) := of_decide_eq_false cx34_
      have crv_ := cr.2
      rw [if_pos (by omega)] at crv_
      refine sm_T_go 3 (c1 := (27, [some (.inr (.inr (some (13, 0)))), some (.inl wd_), some (.inl vx6_)], [.inl vx6_, .inl 12, .inr (.inr (some (13, 0)))], Sx1_)) rfl ?_
      refine sm_T_cal (d1 := 0) (Q1 := vq_293 12 vx6_ Sx1_) rfl rfl (by decide) (vc_293 12 vx6_ Sx1_ hIx2_ (by decide) (by omega)) (fun u_ Sx54_ px57_ => ?_)
      obtain ⟨rfl, hIx55_, hFx56_, px57_⟩ := px57_
      have hFx58_ : ai_fr (sx_W vw_325) S0_ Sx54_ := ai_fr_tr hFx5_ (fr_le hFx56_ rfl)
      have g47_ : rg b_ n_ T_ (.inl (12, r_)) Sx54_ := by rcases px57_ with z_ | z_; (exact absurd hz_ z_.1); (exact ⟨z_.2.1.trans (if_neg nv_.2.2), z_.2.2.trans nv_.2.1, by show (12 : Int) ≠ 0; decide⟩)
      obtain ⟨x4_, hx4_, hx4b⟩ : ∃ x4_ : pE Nat, rg b_ n_ T_ x4_ Sx54_ ∧ x4_ = .inl (12, r_) := ⟨_, g47_, rfl⟩
      have t50_ := rtab_fr t17_ hFx56_ rfl rfl rfl rfl rfl
      have w50_ := (fr_arr (t := 138) (i := 0) hFx56_ rfl).trans w17_
      refine sm_T_go 1 (c1 := (31, [some (.inr (.inr (some (13, 0)))), some (.inl wd_), some (.inl vx6_)], [.inr (.inr (some (13, 0)))], Sx54_)) rfl ?_
      refine sm_T_cal (d1 := 2) (Q1 := vq_297 b_ n_ T_ x4_ Sx54_) rfl rfl (by decide) (vc_297 b_ n_ T_ x4_ Sx54_ hIx55_ (by exact t50_) (by exact hx4_) (by (intro q_ e_; rw [hx4b] at e_; first | (cases e_; done) | (cases e_; rw [cr.1]; decide)))) (fun u_ Sx59_ px62_ => ?_)
      obtain ⟨rfl, hIx60_, hFx61_, px62_⟩ := px62_
      have hFx63_ : ai_fr (sx_W vw_325) S0_ Sx59_ := ai_fr_tr hFx58_ (fr_le hFx61_ rfl)
      have g51_ := px62_.1
      have nn51_ := fr_arr (t := 121) (i := 0) hFx61_ rfl
      have vl51_ : Sx59_.1 13 0 34 = (gl_ : Int) := (hFx63_.1 13 0 34 rfl).trans hv_.1
      have w51_ := (fr_arr (t := 138) (i := 0) hFx61_ rfl).trans w50_
      refine sm_T_go 1 (c1 := (35, [some (.inr (.inr (some (13, 0)))), some (.inl wd_), some (.inl vx6_)], [.inr (.inr (some (13, 0)))], Sx59_)) rfl ?_
      refine sm_T_cal (d1 := 0) (Q1 := vq_292  Sx59_) rfl rfl (by decide) (vc_292  Sx59_ hIx60_ ) (fun u_ Sx64_ px67_ => ?_)
      obtain ⟨rfl, vx69_, rfl, px67_⟩ := px67_
      have e55_ := px67_
      first | (have v55_ : vx69_ = 0 := (by rw [hx4b] at g51_; rw [e55_, if_neg (fun z_ => g51_.2.2 (g51_.1.symm.trans z_))])) | skip
      refine sm_T_b0 (a := 0) (z := 44) rfl (fun cx70_ => ?_) (fun cx70_ => ?_)
      · have cx70_ : vx69_ = 0 := of_decide_eq_true cx70_
        have hz5_ := wr_if e55_ (by omega)
        refine sm_T_rv rfl ⟨_, _, rfl, rfl, hIx60_, hFx63_, ?_⟩
        first | (exfalso; omega) | (have gq_ : rg b_ n_ T_ (pb x_ (p_bp b_ n_ wd_)) _ := (by first | (rw [cw3_]; rw [hx4b] at g51_; exact g51_) | (rw [crv_]; rw [hx4b] at g51_; exact g51_)); refine ⟨gq_, fun r9_ hr_ l_ hl_ hs_ => ?_⟩; first | (exfalso; rw [hr_] at gq_; exact hz5_ gq_.1) | (exact stk_pu (by omega) rfl (stk_ot (by rw [w51_]; exact hs_) (by decide))))
      · have cx70_ : ¬ (vx69_ = 0) := of_decide_eq_false cx70_
        first | (have hz5_ := rt_if e55_ (by omega); have nv51_ := (congrFun nn51_ _).trans nv_.1; have n51_ : 0 ≤ lx_vl b_ n_ r_ ∧ lx_vl b_ n_ r_ < 8 := (by omega)) | skip
        have bx71_ : 0 ≤ Sx59_.1 13 0 34 ∧ Sx59_.1 13 0 34 ≤ 1023 := hIx60_.1 13 0 34 rfl
        refine sm_T_go 5 (c1 := (51, [some (.inr (.inr (some (13, 0)))), some (.inl wd_), some (.inl vx6_)], [.inl (Sx59_.1 13 0 34), .inl 8, .inr (.inr (some (139, 0)))], Sx59_)) rfl ?_
        refine sm_T_bin (w := 8 * (Sx59_.1 13 0 34)) rfl (bi_mul (by omega) (by omega) (by omega)) ?_
        refine sm_T_go 5 (c1 := (62, [some (.inr (.inr (some (13, 0)))), some (.inl wd_), some (.inl vx6_)], [.inl (Sx59_.1 13 0 34), .inl 8, .inr (.inr (some (139, 0))), .inl (8 * (Sx59_.1 13 0 34)), .inr (.inr (some (139, 0)))], Sx59_)) rfl ?_
        refine sm_T_bin (w := 8 * (Sx59_.1 13 0 34)) rfl (bi_mul (by omega) (by omega) (by omega)) ?_
        refine sm_T_go 3 (c1 := (68, [some (.inr (.inr (some (13, 0)))), some (.inl wd_), some (.inl vx6_)], [.inl vx6_, .inr (.inr (some (121, 0))), .inl (8 * (Sx59_.1 13 0 34)), .inr (.inr (some (139, 0))), .inl (8 * (Sx59_.1 13 0 34)), .inr (.inr (some (139, 0)))], Sx59_)) rfl ?_
        refine sm_T_iald (n := 65537) rfl rfl (by omega) (by omega) ?_
        have bx72_ : (-2147483648) ≤ Sx59_.2.2.1 121 0 vx6_.toNat ∧ Sx59_.2.2.1 121 0 vx6_.toNat ≤ 2147483647 := hIx60_.2 121 0 _
        refine sm_T_bin (w := 8 * (Sx59_.1 13 0 34) + (Sx59_.2.2.1 121 0 vx6_.toNat)) rfl (bi_add (by omega) (by omega) (by omega)) ?_
        refine sm_T_iald (n := 8192) rfl rfl (by omega) (by omega) ?_
        have bx73_ : 0 ≤ Sx59_.2.2.1 139 0 (8 * (Sx59_.1 13 0 34) + (Sx59_.2.2.1 121 0 vx6_.toNat)).toNat ∧ Sx59_.2.2.1 139 0 (8 * (Sx59_.1 13 0 34) + (Sx59_.2.2.1 121 0 vx6_.toNat)).toNat ≤ 2047 := hIx60_.2 139 0 _
        refine sm_T_iast (n := 8192) rfl rfl (by omega) (by omega) ?_
        have hIx74_ : gi (sm_aI Sx59_ 139 0 (8 * (Sx59_.1 13 0 34)).toNat (Sx59_.2.2.1 139 0 (8 * (Sx59_.1 13 0 34) + (Sx59_.2.2.1 121 0 vx6_.toNat)).toNat)) := gi_aI hIx60_ (show 0 ≤ (Sx59_.2.2.1 139 0 (8 * (Sx59_.1 13 0 34) + (Sx59_.2.2.1 121 0 vx6_.toNat)).toNat) ∧ (Sx59_.2.2.1 139 0 (8 * (Sx59_.1 13 0 34) + (Sx59_.2.2.1 121 0 vx6_.toNat)).toNat) ≤ 2047 from ⟨by omega, by omega⟩)
        have hFx75_ : ai_fr (sx_W vw_325) S0_ (sm_aI Sx59_ 139 0 (8 * (Sx59_.1 13 0 34)).toNat (Sx59_.2.2.1 139 0 (8 * (Sx59_.1 13 0 34) + (Sx59_.2.2.1 121 0 vx6_.toNat)).toNat)) := ai_fr_tr hFx63_ (ai_fr_aI rfl)
        refine sm_T_go 5 (c1 := (81, [some (.inr (.inr (some (13, 0)))), some (.inl wd_), some (.inl vx6_)], [.inl 1, .inl (Sx59_.1 13 0 34), .inr (.inr (some (138, 0)))], sm_aI Sx59_ 139 0 (8 * (Sx59_.1 13 0 34)).toNat (Sx59_.2.2.1 139 0 (8 * (Sx59_.1 13 0 34) + (Sx59_.2.2.1 121 0 vx6_.toNat)).toNat))) rfl ?_
        refine sm_T_iast (n := 1024) rfl rfl (by omega) (by omega) ?_
        have hIx76_ : gi (sm_aI (sm_aI Sx59_ 139 0 (8 * (Sx59_.1 13 0 34)).toNat (Sx59_.2.2.1 139 0 (8 * (Sx59_.1 13 0 34) + (Sx59_.2.2.1 121 0 vx6_.toNat)).toNat)) 138 0 (Sx59_.1 13 0 34).toNat 1) := gi_aI hIx74_ (show (-2147483648) ≤ 1 ∧ 1 ≤ 2147483647 from ⟨by omega, by omega⟩)
        have hFx77_ : ai_fr (sx_W vw_325) S0_ (sm_aI (sm_aI Sx59_ 139 0 (8 * (Sx59_.1 13 0 34)).toNat (Sx59_.2.2.1 139 0 (8 * (Sx59_.1 13 0 34) + (Sx59_.2.2.1 121 0 vx6_.toNat)).toNat)) 138 0 (Sx59_.1 13 0 34).toNat 1) := ai_fr_tr hFx75_ (ai_fr_aI rfl)
        refine sm_T_rv rfl ⟨_, _, rfl, rfl, hIx76_, hFx77_, ?_⟩
        first | (exfalso; omega) | (have gq_ : rg b_ n_ T_ (pb x_ (p_bp b_ n_ wd_)) _ := (by first | (rw [cw3_]; rw [hx4b] at g51_; exact g51_) | (rw [crv_]; rw [hx4b] at g51_; exact g51_)); refine ⟨gq_, fun r9_ hr_ l_ hl_ hs_ => ?_⟩; first | (exfalso; rw [hr_] at gq_; exact hz5_ gq_.1) | (exact stk_pu (by omega) rfl (stk_ot (by rw [w51_]; exact hs_) (by decide))))
end
/-! 99.yba -/
section
/-! the reference: parts of instances; written by wip/p55/gen/vg -/

/-! parts of_ instances -/
theorem pa_pl {b_ : Nat → Int} {n_ d_ p_ : Nat} {A_ : pA} {s_ : Int} (h_ : ¬ (p_fn b_ n_ A_ d_ p_ = -1 ∨ A_.2.2.1 (40 * d_ + (p_fn b_ n_ A_ d_ p_).toNat) ≠ 1)) : pb (p_pa b_ n_ A_ s_ d_ p_) (fun r_ => .inr r_.1) = pb (p_ad b_ n_ p_) fun q_ => if lx_kd b_ n_ q_ = 46 then pb (p_ad b_ n_ q_) (p_bp b_ n_ (A_.2.2.2.1 (40 * d_ + (p_fn b_ n_ A_ d_ p_).toNat))) else .inr q_ := by
  cases h1_ : p_ad b_ n_ p_ with
  | inl e_ => rw [pa_2 h_ h1_]; rfl
  | inr q_ =>
    rw [pb_r (x_ := (.inr q_ : pE Nat)) rfl]
    by_cases g_ : lx_kd b_ n_ q_ = 46
    · rw [if_pos g_]
      cases h2_ : p_ad b_ n_ q_ with
      | inl e_ => rw [pa_4 h_ h1_ g_ h2_]; rfl
      | inr r_ =>
        rw [pa_5 h_ h1_ g_ h2_, bp_bi, pb_r (x_ := (.inr r_ : pE Nat)) rfl]
        cases p_bp b_ n_ (A_.2.2.2.1 (40 * d_ + (p_fn b_ n_ A_ d_ p_).toNat)) r_ <;> rfl
    · rw [if_neg g_, pa_3 h_ h1_ g_]
      rfl
theorem pa_w {b_ : Nat → Int} {n_ d_ p_ : Nat} {A_ : pA} {s_ : Int} {r_ : Nat × Int × List Int} (h_ : ¬ (p_fn b_ n_ A_ d_ p_ = -1 ∨ A_.2.2.1 (40 * d_ + (p_fn b_ n_ A_ d_ p_).toNat) ≠ 1)) (hr_ : p_pa b_ n_ A_ s_ d_ p_ = .inr r_) : ∃ q_, p_ad b_ n_ p_ = .inr q_ ∧ r_.2.1 = if lx_kd b_ n_ q_ = 46 then 1 else A_.2.2.2.1 (40 * d_ + (p_fn b_ n_ A_ d_ p_).toNat) := by
  unfold p_pa at hr_
  rw [if_neg h_] at hr_
  obtain ⟨q_, h1_, h2_⟩ := pb_inr hr_
  refine ⟨q_, h1_, ?_⟩
  split at h2_
  · rename_i g_
    rw [if_pos g_]
    obtain ⟨u_, h3_, h4_⟩ := pb_inr h2_
    rw [bp_bi] at h4_
    obtain ⟨v_, h5_, h6_⟩ := pb_inr h4_
    cases h6_
    rfl
  · rename_i g_
    rw [if_neg g_]
    cases h2_
    rfl
theorem r_s2_b {k_ : Int} (h_ : 0 ≤ k_ ∧ k_ ≤ 5) : (r_s2 k_ = 2 ↔ k_ = 1) ∧ (r_s2 k_ = 5 ↔ k_ = 5) ∧ (r_s2 k_ = 4 ↔ k_ = 3 ∨ k_ = 4) ∧ (r_s2 k_ = 1 ↔ k_ = 0) ∧ 1 ≤ r_s2 k_ ∧ r_s2 k_ ≤ 5 := by
  unfold r_s2
  split
  · omega
  · split <;> omega
theorem rp_rtk {b_ : Nat → Int} {n_ T_ i_ p_ : Nat} {S_ : sm_S} (ht_ : rtab b_ n_ T_ S_) (h_ : rp b_ n_ T_ i_ p_) (hk_ : lx_kd b_ n_ p_ = 1) : rtk b_ n_ T_ (i_ : Int) p_ ∧ i_ < T_ := by
  have h1_ := rp_at ht_ h_
  have h2_ : p_ < n_ := by
    by_cases g_ : p_ < n_
    · exact g_
    · exfalso
      rw [show p_ = n_ by have := h1_.2.2.2.1; omega, lx_kd_n] at hk_
      omega
  exact ⟨⟨i_, rfl, h1_.2.2.2.2.1.mpr h2_, h_.2.1, by omega, hk_⟩, h1_.2.2.2.2.1.mpr h2_⟩
/-! M_.ofInstance -/
def vw_326 : sx_Wl := ([(13, 9), (13, 10), (13, 11)], [138, 139], [])
def vq_326 (s_ : Int) (b_ : Nat → Int) (n_ : Nat) (T_ : Nat) (mo_ : Int) (p_ : Nat) (i_ : Nat) (gl_ : Nat) (A_ : pA) (M_ : Nat) (s9_ : Nat) (S0_ : sm_S) (u_ : Option sm_V) (S1_ : sm_S) : Prop := u_ = none ∧ gi S1_ ∧ ai_fr (sx_W vw_326) S0_ S1_ ∧ (rg b_ n_ T_ (pb (p_pa b_ n_ A_ s_ (A_.2.2.2.2 (40 * M_ + s9_)).toNat p_) fun r_ => .inr r_.1) S1_ ∧ ∀ r_, p_pa b_ n_ A_ s_ (A_.2.2.2.2 (40 * M_ + s9_)).toNat p_ = .inr r_ → ∀ l_ : List Int, l_.length = gl_ → stk (S0_.2.2.1 138 0) l_ → stk (S1_.2.2.1 138 0) (r_.2.1 :: l_))
set_option maxHeartbeats 1500000 in
theorem vc_326 {sc_ : Nat × (Nat → Int)} (s_ : Int) (b_ : Nat → Int) (n_ : Nat) (T_ : Nat) (mo_ : Int) (p_ : Nat) (i_ : Nat) (gl_ : Nat) (A_ : pA) (M_ : Nat) (s9_ : Nat) (S0_ : sm_S) (hI_ : gi S0_) (ht_ : rtab b_ n_ T_ S0_) (hf_ : (S0_.1 13 0 10) = 0) (hi_ : (S0_.1 13 0 9) = (i_ : Int) ∧ rp b_ n_ T_ i_ p_) (hv_ : (S0_.1 13 0 34) = (gl_ : Int) ∧ gl_ ≤ 1000) (hmo_ : (S0_.1 13 0 27) = mo_) (hw_ : (S0_.1 13 0 32) ≤ 800) (hA_ : a_ok b_ n_ A_ M_) (hmd_ : (S0_.1 13 0 28) = (M_ : Int)) (hre_ : ∀ m_, m_ ≤ M_ → re1 b_ n_ T_ A_ m_ S0_) (hk_ : lx_kd b_ n_ p_ = 1) (hm1_ : mo_ ≠ 1) (hs9_ : s_ = (s9_ : Int) ∧ s9_ < A_.1 M_) (h5_ : A_.2.2.1 (40 * M_ + s9_) = 5) : sm_T (mt_P sc_) 4 326 (0, [some (.inr (.inr (some (13, 0)))), some (.inl s_), none, none, none], [], S0_) (fun r_ => ∃ u_ S1_, r_ = (.inl u_, S1_, 0) ∧ vq_326 s_ b_ n_ T_ mo_ p_ i_ gl_ A_ M_ s9_ S0_ u_ S1_) := by
  have hF_ : ai_fr (sx_W vw_326) S0_ S0_ := ai_fr_rf
  have hx_ : rg b_ n_ T_ (.inr p_) S0_ := ⟨hf_, i_, hi_.1, hi_.2⟩
  have hi9_ := hi_.2.1
  have hT_ := ht_.2.1
  have rt1_ := rp_rtk ht_ hi_.2 hk_
  have ra_ := rp_at ht_ hi_.2
  have rk_ := r_st_3 (lx_kd_r hi_.2.2.2.1)
  have e4_ : (S0_.1 13 0 9).toNat = i_ := by omega
  have hM1_ := hA_.1
  have aM_ := hA_.2 M_ (Nat.le_refl _)
  have aM1_ := aM_.1
  have d5_ := (aM_.2 s9_ hs9_.2).2.2.2.2.1 h5_
  have e13_ : S0_.2.2.1 130 0 (40 * (S0_.1 13 0 28) + s_).toNat = A_.2.2.2.2 (40 * M_ + s9_) := by rw [show (40 * (S0_.1 13 0 28) + s_).toNat = 40 * M_ + s9_ by omega]; exact ((hre_ M_ (Nat.le_refl _)).2 s9_ hs9_.2).2.2.2.1
  have bx1_ : 0 ≤ S0_.1 13 0 28 ∧ S0_.1 13 0 28 ≤ 15 := hI_.1 13 0 28 rfl
  refine sm_T_go 5 (c1 := (10, [some (.inr (.inr (some (13, 0)))), some (.inl s_), none, none, none], [.inl (S0_.1 13 0 28), .inl 40, .inr (.inr (some (130, 0)))], S0_)) rfl ?_
  refine sm_T_bin (w := 40 * (S0_.1 13 0 28)) rfl (bi_mul (by omega) (by omega) (by omega)) ?_
  refine sm_T_go 1 (c1 := (12, [some (.inr (.inr (some (13, 0)))), some (.inl s_), none, none, none], [.inl s_, .inl (40 * (S0_.1 13 0 28)), .inr (.inr (some (130, 0)))], S0_)) rfl ?_
  refine sm_T_bin (w := 40 * (S0_.1 13 0 28) + s_) rfl (bi_add (by omega) (by omega) (by omega)) ?_
  refine sm_T_iald (n := 640) rfl rfl (by omega) (by omega) ?_
  have bx2_ : 0 ≤ S0_.2.2.1 130 0 (40 * (S0_.1 13 0 28) + s_).toNat ∧ S0_.2.2.1 130 0 (40 * (S0_.1 13 0 28) + s_).toNat ≤ 2147483647 := hI_.2 130 0 _
  have bx3_ : 0 ≤ S0_.1 13 0 9 ∧ S0_.1 13 0 9 ≤ 1280 := hI_.1 13 0 9 rfl
  refine sm_T_go 5 (c1 := (21, [some (.inr (.inr (some (13, 0)))), some (.inl s_), some (.inl (S0_.2.2.1 130 0 (40 * (S0_.1 13 0 28) + s_).toNat)), none, none], [.inl (S0_.1 13 0 9), .inl (S0_.2.2.1 130 0 (40 * (S0_.1 13 0 28) + s_).toNat), .inr (.inr (some (13, 0)))], S0_)) rfl ?_
  refine sm_T_cal (d1 := 1) (Q1 := vq_302 (S0_.2.2.1 130 0 (40 * (S0_.1 13 0 28) + s_).toNat) (S0_.1 13 0 9) b_ n_ T_ A_ (A_.2.2.2.2 (40 * M_ + s9_)).toNat p_ S0_) rfl rfl (by decide) (vc_302 (S0_.2.2.1 130 0 (40 * (S0_.1 13 0 28) + s_).toNat) (S0_.1 13 0 9) b_ n_ T_ A_ (A_.2.2.2.2 (40 * M_ + s9_)).toNat p_ S0_ hI_ (by exact ht_) (by exact ⟨by rw [e13_]; omega, by omega⟩) (by exact hre_ _ (by omega)) (by exact (hA_.2 _ (by omega)).1) (by rw [hi_.1]; exact rt1_.1)) (fun u_ Sx4_ px7_ => ?_)
  obtain ⟨rfl, vx9_, rfl, px7_⟩ := px7_
  have e21_ := px7_
  have hfb_ := p_fd_b (f_ := fun s_ => nm_q b_ n_ (A_.2.1 (40 * (A_.2.2.2.2 (40 * M_ + s9_)).toNat + s_)) p_) (A_.1 (A_.2.2.2.2 (40 * M_ + s9_)).toNat)
  have hf0_ : p_fn b_ n_ A_ (A_.2.2.2.2 (40 * M_ + s9_)).toNat p_ = p_fd (fun s_ => nm_q b_ n_ (A_.2.1 (40 * (A_.2.2.2.2 (40 * M_ + s9_)).toNat + s_)) p_) (A_.1 (A_.2.2.2.2 (40 * M_ + s9_)).toNat) := rfl
  have hix_ : vx9_ ≠ -1 → ∃ o9_ : Nat, vx9_ = (o9_ : Int) ∧ o9_ < A_.1 (A_.2.2.2.2 (40 * M_ + s9_)).toNat ∧ (p_fn b_ n_ A_ (A_.2.2.2.2 (40 * M_ + s9_)).toNat p_).toNat = o9_ ∧ (40 * S0_.2.2.1 130 0 (40 * (S0_.1 13 0 28) + s_).toNat + vx9_).toNat = 40 * (A_.2.2.2.2 (40 * M_ + s9_)).toNat + o9_ := fun z_ => by obtain ⟨o9_, q1_, q2_, q3_, -⟩ := p_fn_b (b_ := b_) (n_ := n_) (A_ := A_) (m_ := (A_.2.2.2.2 (40 * M_ + s9_)).toNat) (p_ := p_) (by omega); exact ⟨o9_, by omega, q2_, q3_, by omega⟩
  have hA9_ := (hA_.2 (A_.2.2.2.2 (40 * M_ + s9_)).toNat (by omega)).1
  refine sm_T_go 3 (c1 := (27, [some (.inr (.inr (some (13, 0)))), some (.inl s_), some (.inl (S0_.2.2.1 130 0 (40 * (S0_.1 13 0 28) + s_).toNat)), some (.inl vx9_), none], [.inl (-1), .inl vx9_], S0_)) rfl ?_
  refine sm_T_br (a := 0) (z := 18) rfl (fun cx10_ => ?_) (fun cx10_ => ?_)
  · have cx10_ : vx9_ = (-1) := of_decide_eq_true cx10_
    refine sm_T_go 4 (c1 := (52, [some (.inr (.inr (some (13, 0)))), some (.inl s_), some (.inl (S0_.2.2.1 130 0 (40 * (S0_.1 13 0 28) + s_).toNat)), some (.inl vx9_), none], [.inl (S0_.1 13 0 9), .inl 11, .inr (.inr (some (13, 0)))], S0_)) rfl ?_
    refine sm_T_cal (d1 := 0) (Q1 := vq_293 11 (S0_.1 13 0 9) S0_) rfl rfl (by decide) (vc_293 11 (S0_.1 13 0 9) S0_ hI_ (by decide) (by omega)) (fun u_ Sx11_ px14_ => ?_)
    obtain ⟨rfl, hIx12_, hFx13_, px14_⟩ := px14_
    have hFx15_ : ai_fr (sx_W vw_326) S0_ Sx11_ := ai_fr_tr hF_ (fr_le hFx13_ rfl)
    have ex16_ : Sx11_.1 13 0 9 = S0_.1 13 0 9 := hFx13_.1 13 0 9 rfl
    have ex17_ : Sx11_.1 13 0 28 = S0_.1 13 0 28 := hFx13_.1 13 0 28 rfl
    have e52_ := px14_
    refine sm_T_rv rfl ⟨_, _, rfl, rfl, hIx12_, hFx15_, ?_⟩
    have hbad : p_fn b_ n_ A_ (A_.2.2.2.2 (40 * M_ + s9_)).toNat p_ = -1 ∨ A_.2.2.1 (40 * (A_.2.2.2.2 (40 * M_ + s9_)).toNat + (p_fn b_ n_ A_ (A_.2.2.2.2 (40 * M_ + s9_)).toNat p_).toNat) ≠ 1 := by first | (left; omega) | (right; rw [otn_]; intro z_; have := sb_.mpr z_; omega)
    have hp_ : p_pa b_ n_ A_ s_ (A_.2.2.2.2 (40 * M_ + s9_)).toNat p_ = .inl (11, p_) := pa_1 hbad
    refine ⟨?_, fun r_ hr_ => by rw [hp_] at hr_; cases hr_⟩
    rw [hp_]
    rcases e52_ with z_ | z_
    · exact absurd hf_ z_.1
    · refine ⟨z_.2.1.trans (if_neg ?_), ?_, by show (11 : Int) ≠ 0; decide⟩
      · rw [e4_, ra_.1]; exact rk_.2.2.2.2.2
      · rw [z_.2.2, e4_]; exact ra_.2.1
  · have cx10_ : ¬ (vx9_ = (-1)) := of_decide_eq_false cx10_
    obtain ⟨o9_, ov_, olt_, otn_, oix_⟩ := hix_ (by omega)
    have ro_ := (hre_ (A_.2.2.2.2 (40 * M_ + s9_)).toNat (by omega)).2 o9_ olt_
    have ao_ := (hA_.2 (A_.2.2.2.2 (40 * M_ + s9_)).toNat (by omega)).2 o9_ olt_
    have sb_ := (r_s2_b ao_.2.1).1
    have so9_ := (congrArg (S0_.2.2.1 128 0) oix_).trans ro_.2.1
    refine sm_T_go 4 (c1 := (37, [some (.inr (.inr (some (13, 0)))), some (.inl s_), some (.inl (S0_.2.2.1 130 0 (40 * (S0_.1 13 0 28) + s_).toNat)), some (.inl vx9_), none], [.inl (S0_.2.2.1 130 0 (40 * (S0_.1 13 0 28) + s_).toNat), .inl 40, .inr (.inr (some (128, 0)))], S0_)) rfl ?_
    refine sm_T_bin (w := 40 * (S0_.2.2.1 130 0 (40 * (S0_.1 13 0 28) + s_).toNat)) rfl (bi_mul (by omega) (by omega) (by omega)) ?_
    refine sm_T_go 1 (c1 := (39, [some (.inr (.inr (some (13, 0)))), some (.inl s_), some (.inl (S0_.2.2.1 130 0 (40 * (S0_.1 13 0 28) + s_).toNat)), some (.inl vx9_), none], [.inl vx9_, .inl (40 * (S0_.2.2.1 130 0 (40 * (S0_.1 13 0 28) + s_).toNat)), .inr (.inr (some (128, 0)))], S0_)) rfl ?_
    refine sm_T_bin (w := 40 * (S0_.2.2.1 130 0 (40 * (S0_.1 13 0 28) + s_).toNat) + vx9_) rfl (bi_add (by omega) (by omega) (by omega)) ?_
    refine sm_T_iald (n := 640) rfl rfl (by omega) (by omega) ?_
    have bx18_ : 0 ≤ S0_.2.2.1 128 0 (40 * (S0_.2.2.1 130 0 (40 * (S0_.1 13 0 28) + s_).toNat) + vx9_).toNat ∧ S0_.2.2.1 128 0 (40 * (S0_.2.2.1 130 0 (40 * (S0_.1 13 0 28) + s_).toNat) + vx9_).toNat ≤ 5 := hI_.2 128 0 _
    refine sm_T_go 1 (c1 := (42, [some (.inr (.inr (some (13, 0)))), some (.inl s_), some (.inl (S0_.2.2.1 130 0 (40 * (S0_.1 13 0 28) + s_).toNat)), some (.inl vx9_), none], [.inl 2, .inl (S0_.2.2.1 128 0 (40 * (S0_.2.2.1 130 0 (40 * (S0_.1 13 0 28) + s_).toNat) + vx9_).toNat)], S0_)) rfl ?_
    refine sm_T_br (a := 0) (z := 14) rfl (fun cx19_ => ?_) (fun cx19_ => ?_)
    · have cx19_ : (S0_.2.2.1 128 0 (40 * (S0_.2.2.1 130 0 (40 * (S0_.1 13 0 28) + s_).toNat) + vx9_).toNat) = 2 := of_decide_eq_true cx19_
      have hng_ : ¬ (p_fn b_ n_ A_ (A_.2.2.2.2 (40 * M_ + s9_)).toNat p_ = -1 ∨ A_.2.2.1 (40 * (A_.2.2.2.2 (40 * M_ + s9_)).toNat + (p_fn b_ n_ A_ (A_.2.2.2.2 (40 * M_ + s9_)).toNat p_).toNat) ≠ 1) := by rintro (z_ | z_); omega; (rw [otn_] at z_; exact z_ (sb_.mp (by omega)))
      refine sm_T_go 1 (c1 := (57, [some (.inr (.inr (some (13, 0)))), some (.inl s_), some (.inl (S0_.2.2.1 130 0 (40 * (S0_.1 13 0 28) + s_).toNat)), some (.inl vx9_), none], [.inr (.inr (some (13, 0)))], S0_)) rfl ?_
      refine sm_T_cal (d1 := 2) (Q1 := vq_297 b_ n_ T_ (.inr p_) S0_) rfl rfl (by decide) (vc_297 b_ n_ T_ (.inr p_) S0_ hI_ (by exact ht_) (by exact hx_) (by (intro q_ e_; cases e_; omega))) (fun u_ Sx20_ px23_ => ?_)
      obtain ⟨rfl, hIx21_, hFx22_, px23_⟩ := px23_
      have hFx24_ : ai_fr (sx_W vw_326) S0_ Sx20_ := ai_fr_tr hF_ (fr_le hFx22_ rfl)
      have ex25_ : Sx20_.1 13 0 28 = S0_.1 13 0 28 := hFx22_.1 13 0 28 rfl
      have g57_ := px23_.1
      rw [pb_r rfl] at g57_
      have t57_ := rtab_fr ht_ hFx22_ rfl rfl rfl rfl rfl
      have w57_ := fr_arr (t := 138) (i := 0) hFx22_ rfl
      have nw57_ := fr_arr (t := 129) (i := 0) hFx22_ rfl
      have v57_ : Sx20_.1 13 0 34 = (gl_ : Int) := (hFx24_.1 13 0 34 rfl).trans hv_.1
      have m57_ : Sx20_.1 13 0 27 = mo_ := (hFx24_.1 13 0 27 rfl).trans hmo_
      have wb_ := ao_.2.2.1
      have wdx_ : A_.2.2.2.1 (40 * (A_.2.2.2.2 (40 * M_ + s9_)).toNat + (p_fn b_ n_ A_ (A_.2.2.2.2 (40 * M_ + s9_)).toNat p_).toNat) = A_.2.2.2.1 (40 * (A_.2.2.2.2 (40 * M_ + s9_)).toNat + o9_) := by rw [otn_]
      have wd57_ := (congrFun nw57_ _).trans ((congrArg (S0_.2.2.1 129 0) oix_).trans (ro_.2.2.1.trans wdx_.symm))
      have wb2_ := wb_
      rw [← wdx_] at wb2_
      refine sm_T_go 4 (c1 := (67, [some (.inr (.inr (some (13, 0)))), some (.inl s_), some (.inl (S0_.2.2.1 130 0 (40 * (S0_.1 13 0 28) + s_).toNat)), some (.inl vx9_), none], [.inl (S0_.2.2.1 130 0 (40 * (S0_.1 13 0 28) + s_).toNat), .inl 40, .inr (.inr (some (129, 0)))], Sx20_)) rfl ?_
      refine sm_T_bin (w := 40 * (S0_.2.2.1 130 0 (40 * (S0_.1 13 0 28) + s_).toNat)) rfl (bi_mul (by omega) (by omega) (by omega)) ?_
      refine sm_T_go 1 (c1 := (69, [some (.inr (.inr (some (13, 0)))), some (.inl s_), some (.inl (S0_.2.2.1 130 0 (40 * (S0_.1 13 0 28) + s_).toNat)), some (.inl vx9_), none], [.inl vx9_, .inl (40 * (S0_.2.2.1 130 0 (40 * (S0_.1 13 0 28) + s_).toNat)), .inr (.inr (some (129, 0)))], Sx20_)) rfl ?_
      refine sm_T_bin (w := 40 * (S0_.2.2.1 130 0 (40 * (S0_.1 13 0 28) + s_).toNat) + vx9_) rfl (bi_add (by omega) (by omega) (by omega)) ?_
      refine sm_T_iald (n := 640) rfl rfl (by omega) (by omega) ?_
      have bx26_ : 0 ≤ Sx20_.2.2.1 129 0 (40 * (S0_.2.2.1 130 0 (40 * (S0_.1 13 0 28) + s_).toNat) + vx9_).toNat ∧ Sx20_.2.2.1 129 0 (40 * (S0_.2.2.1 130 0 (40 * (S0_.1 13 0 28) + s_).toNat) + vx9_).toNat ≤ 8 := hIx21_.2 129 0 _
      have bx27_ : 0 ≤ Sx20_.1 13 0 29 ∧ Sx20_.1 13 0 29 ≤ 16 := hIx21_.1 13 0 29 rfl
      refine sm_T_go 9 (c1 := (87, [some (.inr (.inr (some (13, 0)))), some (.inl s_), some (.inl (S0_.2.2.1 130 0 (40 * (S0_.1 13 0 28) + s_).toNat)), some (.inl vx9_), some (.inl (Sx20_.2.2.1 129 0 (40 * (S0_.2.2.1 130 0 (40 * (S0_.1 13 0 28) + s_).toNat) + vx9_).toNat))], [.inl (Sx20_.1 13 0 29), .inl 40, .inl 40, .inl 8, .inl 1, .inl (Sx20_.2.2.1 129 0 (40 * (S0_.2.2.1 130 0 (40 * (S0_.1 13 0 28) + s_).toNat) + vx9_).toNat), .inr (.inr (some (13, 0)))], Sx20_)) rfl ?_
      refine sm_T_bin (w := 40 * (Sx20_.1 13 0 29)) rfl (bi_mul (by omega) (by omega) (by omega)) ?_
      refine sm_T_go 1 (c1 := (89, [some (.inr (.inr (some (13, 0)))), some (.inl s_), some (.inl (S0_.2.2.1 130 0 (40 * (S0_.1 13 0 28) + s_).toNat)), some (.inl vx9_), some (.inl (Sx20_.2.2.1 129 0 (40 * (S0_.2.2.1 130 0 (40 * (S0_.1 13 0 28) + s_).toNat) + vx9_).toNat))], [.inl s_, .inl (40 * (Sx20_.1 13 0 29)), .inl 40, .inl 8, .inl 1, .inl (Sx20_.2.2.1 129 0 (40 * (S0_.2.2.1 130 0 (40 * (S0_.1 13 0 28) + s_).toNat) + vx9_).toNat), .inr (.inr (some (13, 0)))], Sx20_)) rfl ?_
      refine sm_T_bin (w := 40 * (Sx20_.1 13 0 29) + s_) rfl (bi_add (by omega) (by omega) (by omega)) ?_
      refine sm_T_bin (w := 1600 * (Sx20_.1 13 0 29) + 40 * s_) rfl (bi_mul (by omega) (by omega) (by omega)) ?_
      refine sm_T_go 1 (c1 := (92, [some (.inr (.inr (some (13, 0)))), some (.inl s_), some (.inl (S0_.2.2.1 130 0 (40 * (S0_.1 13 0 28) + s_).toNat)), some (.inl vx9_), some (.inl (Sx20_.2.2.1 129 0 (40 * (S0_.2.2.1 130 0 (40 * (S0_.1 13 0 28) + s_).toNat) + vx9_).toNat))], [.inl vx9_, .inl (1600 * (Sx20_.1 13 0 29) + 40 * s_), .inl 8, .inl 1, .inl (Sx20_.2.2.1 129 0 (40 * (S0_.2.2.1 130 0 (40 * (S0_.1 13 0 28) + s_).toNat) + vx9_).toNat), .inr (.inr (some (13, 0)))], Sx20_)) rfl ?_
      refine sm_T_bin (w := 1600 * (Sx20_.1 13 0 29) + 40 * s_ + vx9_) rfl (bi_add (by omega) (by omega) (by omega)) ?_
      refine sm_T_bin (w := 12800 * (Sx20_.1 13 0 29) + 320 * s_ + 8 * vx9_) rfl (bi_mul (by omega) (by omega) (by omega)) ?_
      refine sm_T_cal (d1 := 0) (Q1 := vq_333 (Sx20_.2.2.1 129 0 (40 * (S0_.2.2.1 130 0 (40 * (S0_.1 13 0 28) + s_).toNat) + vx9_).toNat) 1 (12800 * (Sx20_.1 13 0 29) + 320 * s_ + 8 * vx9_) mo_ gl_ Sx20_) rfl rfl (by decide) (vc_333 (Sx20_.2.2.1 129 0 (40 * (S0_.2.2.1 130 0 (40 * (S0_.1 13 0 28) + s_).toNat) + vx9_).toNat) 1 (12800 * (Sx20_.1 13 0 29) + 320 * s_ + 8 * vx9_) mo_ gl_ Sx20_ hIx21_ (by exact ⟨v57_, hv_.2⟩) (by exact m57_) (by exact hm1_) (by omega)) (fun u_ Sx28_ px31_ => ?_)
      obtain ⟨rfl, hIx29_, hFx30_, px31_⟩ := px31_
      have hFx32_ : ai_fr (sx_W vw_326) S0_ Sx28_ := ai_fr_tr hFx24_ (fr_le hFx30_ rfl)
      have ex33_ : Sx28_.1 13 0 29 = Sx20_.1 13 0 29 := hFx30_.1 13 0 29 rfl
      have c94_ := px31_
      have g94_ := rg_fr g57_ hFx30_ rfl rfl rfl
      have t94_ := rtab_fr t57_ hFx30_ rfl rfl rfl rfl rfl
      have v94_ : Sx28_.1 13 0 34 = (gl_ : Int) := (hFx32_.1 13 0 34 rfl).trans hv_.1
      refine sm_T_go 2 (c1 := (100, [some (.inr (.inr (some (13, 0)))), some (.inl s_), some (.inl (S0_.2.2.1 130 0 (40 * (S0_.1 13 0 28) + s_).toNat)), some (.inl vx9_), some (.inl (Sx20_.2.2.1 129 0 (40 * (S0_.2.2.1 130 0 (40 * (S0_.1 13 0 28) + s_).toNat) + vx9_).toNat))], [.inl 46, .inr (.inr (some (13, 0)))], Sx28_)) rfl ?_
      refine sm_T_cal (d1 := 0) (Q1 := vq_295 46 b_ n_ T_ (p_ad b_ n_ p_) Sx28_) rfl rfl (by decide) (vc_295 46 b_ n_ T_ (p_ad b_ n_ p_) Sx28_ hIx29_ (by exact t94_) (by exact g94_) (by decide)) (fun u_ Sx34_ px37_ => ?_)
      obtain ⟨rfl, vx39_, rfl, px37_⟩ := px37_
      have e100_ := px37_.2
      refine sm_T_b0 (a := 0) (z := 13) rfl (fun cx40_ => ?_) (fun cx40_ => ?_)
      · have cx40_ : vx39_ = 0 := of_decide_eq_true cx40_
        refine sm_T_rv rfl ⟨_, _, rfl, rfl, hIx29_, hFx32_, ?_⟩
        rw [wd57_] at c94_
        cases hq_ : p_ad b_ n_ p_ with
        | inl e_ =>
          have hp_ : p_pa b_ n_ A_ s_ (A_.2.2.2.2 (40 * M_ + s9_)).toNat p_ = .inl e_ := pa_2 hng_ hq_
          refine ⟨?_, fun r_ hr_ => by rw [hp_] at hr_; cases hr_⟩
          rw [hp_]
          first | (have e114_ := e113_.1; rw [hq_] at e114_; exact e114_) | (rw [hq_] at g94_; exact g94_)
        | inr q_ =>
          have hk46_ := e100_ q_ hq_
          refine ⟨?_, fun r_ hr_ l_ hl_ hs_ => ?_⟩
          · rw [pa_pl hng_, hq_, pb_r rfl]
            first | (rw [if_pos (hk46_.mp (by omega))]; have e114_ := e113_.1; rw [hq_, pb_r rfl] at e114_; exact e114_) | (rw [if_neg (fun z_ => by have := hk46_.mpr z_; omega)]; rw [hq_] at g94_; exact g94_)
          · obtain ⟨q9_, hq9_, hw9_⟩ := pa_w hng_ hr_
            rw [hq_] at hq9_
            cases hq9_
            rw [hw9_]
            have hs2_ := hs_
            rw [← w57_] at hs2_
            first | (rw [if_pos (hk46_.mp (by omega))]; have hr2_ := pa_pl (s_ := s_) hng_; rw [hr_, hq_, pb_r rfl, pb_r rfl, if_pos (hk46_.mp (by omega))] at hr2_; refine e113_.2 _ (by rw [hq_, pb_r rfl]; exact hr2_.symm) l_ hl_ ?_; rw [w107_]; exact (c94_ l_ hl_ hs2_).2) | (rw [if_neg (fun z_ => by have := hk46_.mpr z_; omega)]; exact c94_ l_ hl_ hs2_)
      · have cx40_ : ¬ (vx39_ = 0) := of_decide_eq_false cx40_
        refine sm_T_go 1 (c1 := (107, [some (.inr (.inr (some (13, 0)))), some (.inl s_), some (.inl (S0_.2.2.1 130 0 (40 * (S0_.1 13 0 28) + s_).toNat)), some (.inl vx9_), some (.inl (Sx20_.2.2.1 129 0 (40 * (S0_.2.2.1 130 0 (40 * (S0_.1 13 0 28) + s_).toNat) + vx9_).toNat))], [.inr (.inr (some (13, 0)))], Sx28_)) rfl ?_
        refine sm_T_cal (d1 := 2) (Q1 := vq_297 b_ n_ T_ (p_ad b_ n_ p_) Sx28_) rfl rfl (by decide) (vc_297 b_ n_ T_ (p_ad b_ n_ p_) Sx28_ hIx29_ (by exact t94_) (by exact g94_) (by (intro q_ e_; have := (e100_ q_ e_).mp (by omega); omega))) (fun u_ Sx41_ px44_ => ?_)
        obtain ⟨rfl, hIx42_, hFx43_, px44_⟩ := px44_
        have hFx45_ : ai_fr (sx_W vw_326) S0_ Sx41_ := ai_fr_tr hFx32_ (fr_le hFx43_ rfl)
        have g107_ := px44_.1
        have t107_ := rtab_fr t94_ hFx43_ rfl rfl rfl rfl rfl
        have w107_ := fr_arr (t := 138) (i := 0) hFx43_ rfl
        have v107_ : Sx41_.1 13 0 34 = (gl_ : Int) := (hFx45_.1 13 0 34 rfl).trans hv_.1
        refine sm_T_go 2 (c1 := (113, [some (.inr (.inr (some (13, 0)))), some (.inl s_), some (.inl (S0_.2.2.1 130 0 (40 * (S0_.1 13 0 28) + s_).toNat)), some (.inl vx9_), some (.inl (Sx20_.2.2.1 129 0 (40 * (S0_.2.2.1 130 0 (40 * (S0_.1 13 0 28) + s_).toNat) + vx9_).toNat))], [.inl (Sx20_.2.2.1 129 0 (40 * (S0_.2.2.1 130 0 (40 * (S0_.1 13 0 28) + s_).toNat) + vx9_).toNat), .inr (.inr (some (13, 0)))], Sx41_)) rfl ?_
        refine sm_T_cal (d1 := 3) (Q1 := vq_325 (Sx20_.2.2.1 129 0 (40 * (S0_.2.2.1 130 0 (40 * (S0_.1 13 0 28) + s_).toNat) + vx9_).toNat) b_ n_ T_ (pb (p_ad b_ n_ p_) (p_ad b_ n_)) mo_ gl_ Sx41_) rfl rfl (by decide) (vc_325 (Sx20_.2.2.1 129 0 (40 * (S0_.2.2.1 130 0 (40 * (S0_.1 13 0 28) + s_).toNat) + vx9_).toNat) b_ n_ T_ (pb (p_ad b_ n_ p_) (p_ad b_ n_)) mo_ gl_ Sx41_ hIx42_ (by exact t107_) (by exact g107_) (by exact ⟨v107_, hv_.2⟩) (by omega)) (fun u_ Sx46_ px49_ => ?_)
        obtain ⟨rfl, hIx47_, hFx48_, px49_⟩ := px49_
        have hFx50_ : ai_fr (sx_W vw_326) S0_ Sx46_ := ai_fr_tr hFx45_ (fr_le hFx48_ rfl)
        have e113_ := px49_
        rw [wd57_] at e113_
        refine sm_T_rv rfl ⟨_, _, rfl, rfl, hIx47_, hFx50_, ?_⟩
        rw [wd57_] at c94_
        cases hq_ : p_ad b_ n_ p_ with
        | inl e_ =>
          have hp_ : p_pa b_ n_ A_ s_ (A_.2.2.2.2 (40 * M_ + s9_)).toNat p_ = .inl e_ := pa_2 hng_ hq_
          refine ⟨?_, fun r_ hr_ => by rw [hp_] at hr_; cases hr_⟩
          rw [hp_]
          first | (have e114_ := e113_.1; rw [hq_] at e114_; exact e114_) | (rw [hq_] at g94_; exact g94_)
        | inr q_ =>
          have hk46_ := e100_ q_ hq_
          refine ⟨?_, fun r_ hr_ l_ hl_ hs_ => ?_⟩
          · rw [pa_pl hng_, hq_, pb_r rfl]
            first | (rw [if_pos (hk46_.mp (by omega))]; have e114_ := e113_.1; rw [hq_, pb_r rfl] at e114_; exact e114_) | (rw [if_neg (fun z_ => by have := hk46_.mpr z_; omega)]; rw [hq_] at g94_; exact g94_)
          · obtain ⟨q9_, hq9_, hw9_⟩ := pa_w hng_ hr_
            rw [hq_] at hq9_
            cases hq9_
            rw [hw9_]
            have hs2_ := hs_
            rw [← w57_] at hs2_
            first | (rw [if_pos (hk46_.mp (by omega))]; have hr2_ := pa_pl (s_ := s_) hng_; rw [hr_, hq_, pb_r rfl, pb_r rfl, if_pos (hk46_.mp (by omega))] at hr2_; refine e113_.2 _ (by rw [hq_, pb_r rfl]; exact hr2_.symm) l_ hl_ ?_; rw [w107_]; exact (c94_ l_ hl_ hs2_).2) | (rw [if_neg (fun z_ => by have := hk46_.mpr z_; omega)]; exact c94_ l_ hl_ hs2_)
    · have cx19_ : ¬ ((S0_.2.2.1 128 0 (40 * (S0_.2.2.1 130 0 (40 * (S0_.1 13 0 28) + s_).toNat) + vx9_).toNat) = 2) := of_decide_eq_false cx19_
      refine sm_T_go 4 (c1 := (52, [some (.inr (.inr (some (13, 0)))), some (.inl s_), some (.inl (S0_.2.2.1 130 0 (40 * (S0_.1 13 0 28) + s_).toNat)), some (.inl vx9_), none], [.inl (S0_.1 13 0 9), .inl 11, .inr (.inr (some (13, 0)))], S0_)) rfl ?_
      refine sm_T_cal (d1 := 0) (Q1 := vq_293 11 (S0_.1 13 0 9) S0_) rfl rfl (by decide) (vc_293 11 (S0_.1 13 0 9) S0_ hI_ (by decide) (by omega)) (fun u_ Sx51_ px54_ => ?_)
      obtain ⟨rfl, hIx52_, hFx53_, px54_⟩ := px54_
      have hFx55_ : ai_fr (sx_W vw_326) S0_ Sx51_ := ai_fr_tr hF_ (fr_le hFx53_ rfl)
      have ex56_ : Sx51_.1 13 0 9 = S0_.1 13 0 9 := hFx53_.1 13 0 9 rfl
      have ex57_ : Sx51_.1 13 0 28 = S0_.1 13 0 28 := hFx53_.1 13 0 28 rfl
      have e52_ := px54_
      refine sm_T_rv rfl ⟨_, _, rfl, rfl, hIx52_, hFx55_, ?_⟩
      have hbad : p_fn b_ n_ A_ (A_.2.2.2.2 (40 * M_ + s9_)).toNat p_ = -1 ∨ A_.2.2.1 (40 * (A_.2.2.2.2 (40 * M_ + s9_)).toNat + (p_fn b_ n_ A_ (A_.2.2.2.2 (40 * M_ + s9_)).toNat p_).toNat) ≠ 1 := by first | (left; omega) | (right; rw [otn_]; intro z_; have := sb_.mpr z_; omega)
      have hp_ : p_pa b_ n_ A_ s_ (A_.2.2.2.2 (40 * M_ + s9_)).toNat p_ = .inl (11, p_) := pa_1 hbad
      refine ⟨?_, fun r_ hr_ => by rw [hp_] at hr_; cases hr_⟩
      rw [hp_]
      rcases e52_ with z_ | z_
      · exact absurd hf_ z_.1
      · refine ⟨z_.2.1.trans (if_neg ?_), ?_, by show (11 : Int) ≠ 0; decide⟩
        · rw [e4_, ra_.1]; exact rk_.2.2.2.2.2
        · rw [z_.2.2, e4_]; exact ra_.2.1
end
/-! 99.yca -/
section
/-! the reference: names; written by wip/p55/gen/vg -/

/-! named values -/
theorem rg_e2 {b_ : Nat → Int} {n_ T_ : Nat} {e_ : Int × Nat} {S_ S'_ : sm_S} (h_ : rg b_ n_ T_ (.inl e_) S_) (h1_ : S'_.1 13 0 10 = S_.1 13 0 10) (h2_ : S'_.1 13 0 11 = S_.1 13 0 11) : rg b_ n_ T_ (.inl e_) S'_ := ⟨h1_.trans h_.1, h2_.trans h_.2.1, h_.2.2⟩
theorem bi_pl {b_ : Nat → Int} {n_ p_ : Nat} {wd_ : Int} {l_ : List Int} : pb (p_bi b_ n_ wd_ l_ p_) (fun r_ => .inr r_.1) = p_bp b_ n_ wd_ p_ := by
  rw [bp_bi]
  cases p_bp b_ n_ wd_ p_ <;> rfl
theorem bi_1 {b_ : Nat → Int} {n_ p_ : Nat} {wd_ : Int} {l_ : List Int} {r_ : Nat × Int × List Int} (h_ : p_bi b_ n_ wd_ l_ p_ = .inr r_) : r_.2.1 = 1 ∧ p_bp b_ n_ wd_ p_ = .inr r_.1 := by
  rw [bp_bi] at h_
  obtain ⟨q_, h1_, h2_⟩ := pb_inr h_
  cases h2_
  exact ⟨rfl, h1_⟩
/-! M_.isValue -/
def vw_323 : sx_Wl := ([], [], [])
def vq_323 (s_ : Int) (S0_ : sm_S) (u_ : Option sm_V) (S1_ : sm_S) : Prop := S0_ = S1_ ∧ ∃ v_ : Int, u_ = some (.inl v_) ∧ ((v_ = 0 ∨ v_ = 1) ∧ (v_ = 1 ↔ 1 ≤ s_ ∧ s_ ≤ 4))
set_option maxHeartbeats 400000 in
theorem vc_323 {sc_ : Nat × (Nat → Int)} (s_ : Int) (S0_ : sm_S) (hI_ : gi S0_)  : sm_T (mt_P sc_) 0 323 (0, [some (.inl s_)], [], S0_) (fun r_ => ∃ u_ S1_, r_ = (.inl u_, S1_, 0) ∧ vq_323 s_ S0_ u_ S1_) := by
  have hF_ : ai_fr (sx_W vw_323) S0_ S0_ := ai_fr_rf
  refine sm_T_go 2 (c1 := (2, [some (.inl s_)], [.inl 1, .inl s_], S0_)) rfl ?_
  refine sm_T_br (a := 0) (z := 18) rfl (fun cx1_ => ?_) (fun cx1_ => ?_)
  · have cx1_ : s_ = 1 := of_decide_eq_true cx1_
    refine sm_T_go 2 (c1 := (25, [some (.inl s_)], [.inl 1], S0_)) rfl ?_
    refine sm_T_rz rfl (by omega) ⟨_, _, rfl, rfl, _, rfl, ?_⟩
    omega
  · have cx1_ : ¬ (s_ = 1) := of_decide_eq_false cx1_
    refine sm_T_go 2 (c1 := (7, [some (.inl s_)], [.inl 2, .inl s_], S0_)) rfl ?_
    refine sm_T_br (a := 0) (z := 13) rfl (fun cx2_ => ?_) (fun cx2_ => ?_)
    · have cx2_ : s_ = 2 := of_decide_eq_true cx2_
      refine sm_T_go 2 (c1 := (25, [some (.inl s_)], [.inl 1], S0_)) rfl ?_
      refine sm_T_rz rfl (by omega) ⟨_, _, rfl, rfl, _, rfl, ?_⟩
      omega
    · have cx2_ : ¬ (s_ = 2) := of_decide_eq_false cx2_
      refine sm_T_go 2 (c1 := (12, [some (.inl s_)], [.inl 3, .inl s_], S0_)) rfl ?_
      refine sm_T_br (a := 0) (z := 8) rfl (fun cx3_ => ?_) (fun cx3_ => ?_)
      · have cx3_ : s_ = 3 := of_decide_eq_true cx3_
        refine sm_T_go 2 (c1 := (25, [some (.inl s_)], [.inl 1], S0_)) rfl ?_
        refine sm_T_rz rfl (by omega) ⟨_, _, rfl, rfl, _, rfl, ?_⟩
        omega
      · have cx3_ : ¬ (s_ = 3) := of_decide_eq_false cx3_
        refine sm_T_go 2 (c1 := (17, [some (.inl s_)], [.inl 4, .inl s_], S0_)) rfl ?_
        refine sm_T_br (a := 1) (z := 7) rfl (fun cx4_ => ?_) (fun cx4_ => ?_)
        · have cx4_ : s_ ≠ 4 := of_decide_eq_true cx4_
          refine sm_T_go 1 (c1 := (25, [some (.inl s_)], [.inl 0], S0_)) rfl ?_
          refine sm_T_rz rfl (by omega) ⟨_, _, rfl, rfl, _, rfl, ?_⟩
          omega
        · have cx4_ : ¬ (s_ ≠ 4) := of_decide_eq_false cx4_
          refine sm_T_go 2 (c1 := (25, [some (.inl s_)], [.inl 1], S0_)) rfl ?_
          refine sm_T_rz rfl (by omega) ⟨_, _, rfl, rfl, _, rfl, ?_⟩
          omega
theorem re1_fr {w_ : sx_Wl} {S_ S'_ : sm_S} {b_ : Nat → Int} {n_ T_ m_ : Nat} {A_ : pA} (x_ : re1 b_ n_ T_ A_ m_ S_) (g_ : ai_fr (sx_W w_) S_ S'_) (h0_ : (sx_W w_).2.1 126 = false) (h1_ : (sx_W w_).2.1 127 = false) (h2_ : (sx_W w_).2.1 128 = false) (h3_ : (sx_W w_).2.1 129 = false) (h4_ : (sx_W w_).2.1 130 = false) (h5_ : (sx_W w_).2.1 131 = false) : re1 b_ n_ T_ A_ m_ S'_ := by
  unfold re1 at x_ ⊢
  rw [fr_arr g_ h0_, fr_arr g_ h1_, fr_arr g_ h2_, fr_arr g_ h3_, fr_arr g_ h4_, fr_arr g_ h5_]
  exact x_
end
/-! 99.ycb -/
section
/-! M_.named -/
def vw_324 : sx_Wl := ([(13, 9), (13, 10), (13, 11)], [138, 139], [])
def vq_324 (b_ : Nat → Int) (n_ : Nat) (T_ : Nat) (mo_ : Int) (p_ : Nat) (i_ : Nat) (gl_ : Nat) (A_ : pA) (M_ : Nat) (S0_ : sm_S) (u_ : Option sm_V) (S1_ : sm_S) : Prop := u_ = none ∧ gi S1_ ∧ ai_fr (sx_W vw_324) S0_ S1_ ∧ (rg b_ n_ T_ (pb (p_na b_ n_ A_ M_ p_) fun r_ => .inr r_.1) S1_ ∧ ∀ r_, p_na b_ n_ A_ M_ p_ = .inr r_ → ∀ l_ : List Int, l_.length = gl_ → stk (S0_.2.2.1 138 0) l_ → stk (S1_.2.2.1 138 0) (r_.2.1 :: l_))
set_option maxHeartbeats 2500000 in
set_option maxRecDepth 20000 in
theorem vc_324 {sc_ : Nat × (Nat → Int)} (b_ : Nat → Int) (n_ : Nat) (T_ : Nat) (mo_ : Int) (p_ : Nat) (i_ : Nat) (gl_ : Nat) (A_ : pA) (M_ : Nat) (S0_ : sm_S) (hI_ : gi S0_) (ht_ : rtab b_ n_ T_ S0_) (hf_ : (S0_.1 13 0 10) = 0) (hi_ : (S0_.1 13 0 9) = (i_ : Int) ∧ rp b_ n_ T_ i_ p_) (hv_ : (S0_.1 13 0 34) = (gl_ : Int) ∧ gl_ ≤ 1000) (hmo_ : (S0_.1 13 0 27) = mo_) (hw_ : (S0_.1 13 0 32) ≤ 800) (hA_ : a_ok b_ n_ A_ M_) (hmd_ : (S0_.1 13 0 28) = (M_ : Int)) (hre_ : ∀ m_, m_ ≤ M_ → re1 b_ n_ T_ A_ m_ S0_) (hk_ : lx_kd b_ n_ p_ = 1) (hm0_ : mo_ = 0) : sm_T (mt_P sc_) 5 324 (0, [some (.inr (.inr (some (13, 0)))), none, none, none, none], [], S0_) (fun r_ => ∃ u_ S1_, r_ = (.inl u_, S1_, 0) ∧ vq_324 b_ n_ T_ mo_ p_ i_ gl_ A_ M_ S0_ u_ S1_) := by
  have hF_ : ai_fr (sx_W vw_324) S0_ S0_ := ai_fr_rf
  have hx_ : rg b_ n_ T_ (.inr p_) S0_ := ⟨hf_, i_, hi_.1, hi_.2⟩
  have hi9_ := hi_.2.1
  have hT_ := ht_.2.1
  have rt1_ := rp_rtk ht_ hi_.2 hk_
  have ra_ := rp_at ht_ hi_.2
  have rk_ := r_st_3 (lx_kd_r hi_.2.2.2.1)
  have e4_ : (S0_.1 13 0 9).toNat = i_ := by omega
  have hM1_ := hA_.1
  have aM_ := hA_.2 M_ (Nat.le_refl _)
  have aM1_ := aM_.1
  have hfb_ := p_fd_b (f_ := fun s_ => nm_q b_ n_ (A_.2.1 (40 * M_ + s_)) p_) (A_.1 M_)
  have hf0_ : p_fn b_ n_ A_ M_ p_ = p_fd (fun s_ => nm_q b_ n_ (A_.2.1 (40 * M_ + s_)) p_) (A_.1 M_) := rfl
  have bx1_ : 0 ≤ S0_.1 13 0 9 ∧ S0_.1 13 0 9 ≤ 1280 := hI_.1 13 0 9 rfl
  have bx2_ : 0 ≤ S0_.1 13 0 28 ∧ S0_.1 13 0 28 ≤ 15 := hI_.1 13 0 28 rfl
  refine sm_T_go 7 (c1 := (11, [some (.inr (.inr (some (13, 0)))), some (.inl (S0_.1 13 0 9)), none, none, none], [.inl (S0_.1 13 0 9), .inl (S0_.1 13 0 28), .inr (.inr (some (13, 0)))], S0_)) rfl ?_
  refine sm_T_cal (d1 := 1) (Q1 := vq_302 (S0_.1 13 0 28) (S0_.1 13 0 9) b_ n_ T_ A_ M_ p_ S0_) rfl rfl (by decide) (vc_302 (S0_.1 13 0 28) (S0_.1 13 0 9) b_ n_ T_ A_ M_ p_ S0_ hI_ (by exact ht_) (by exact ⟨hmd_, hM1_⟩) (by exact hre_ M_ (Nat.le_refl _)) (by exact aM1_) (by rw [hi_.1]; exact rt1_.1)) (fun u_ Sx3_ px6_ => ?_)
  obtain ⟨rfl, vx8_, rfl, px6_⟩ := px6_
  have e11_ := px6_
  have kx0_ : ∀ (s_ : Nat) (z_ : Int), vx8_ = (s_ : Int) → z_ = (M_ : Int) → (40 * z_ + vx8_).toNat = 40 * M_ + s_ := by intro s_ z_ q1_ q2_; omega
  refine sm_T_go 3 (c1 := (17, [some (.inr (.inr (some (13, 0)))), some (.inl (S0_.1 13 0 9)), some (.inl vx8_), none, none], [.inl (-1), .inl vx8_], S0_)) rfl ?_
  refine sm_T_br (a := 1) (z := 11) rfl (fun cx9_ => ?_) (fun cx9_ => ?_)
  · have cx9_ : vx8_ ≠ (-1) := of_decide_eq_true cx9_
    obtain ⟨s9_, q1_, q2_, q3_, -⟩ := p_fn_b (b_ := b_) (n_ := n_) (A_ := A_) (m_ := M_) (p_ := p_) (by omega)
    have ro_ := (hre_ M_ (Nat.le_refl _)).2 s9_ q2_
    have ao_ := aM_.2 s9_ q2_
    have sb_ := r_s2_b ao_.2.1
    have kx1_ := fun z_ => kx0_ s9_ z_ (e11_.trans q1_)
    refine sm_T_go 1 (c1 := (29, [some (.inr (.inr (some (13, 0)))), some (.inl (S0_.1 13 0 9)), some (.inl vx8_), none, none], [.inr (.inr (some (13, 0)))], S0_)) rfl ?_
    refine sm_T_cal (d1 := 2) (Q1 := vq_297 b_ n_ T_ (.inr p_) S0_) rfl rfl (by decide) (vc_297 b_ n_ T_ (.inr p_) S0_ hI_ (by exact ht_) (by exact hx_) (by (intro q_ e_; cases e_; omega))) (fun u_ Sx10_ px13_ => ?_)
    obtain ⟨rfl, hIx11_, hFx12_, px13_⟩ := px13_
    have hFx14_ : ai_fr (sx_W vw_324) S0_ Sx10_ := ai_fr_tr hF_ (fr_le hFx12_ rfl)
    have ex15_ : Sx10_.1 13 0 28 = S0_.1 13 0 28 := hFx12_.1 13 0 28 rfl
    have g29_ := px13_.1
    rw [pb_r rfl] at g29_
    have s29_ := fun e_ => px13_.2 p_ e_ rfl
    have t29_ := rtab_fr ht_ hFx12_ rfl rfl rfl rfl rfl
    have w29_ := fr_arr (t := 138) (i := 0) hFx12_ rfl
    have p29_ : Sx10_.2.2.1 120 0 (S0_.1 13 0 9).toNat = (p_ : Int) := by rw [e4_]; exact (rp_at t29_ hi_.2).2.1
    have sx_ := fr_arr (t := 128) (i := 0) hFx14_ rfl
    have wx_ := fr_arr (t := 129) (i := 0) hFx14_ rfl
    have mx_ : Sx10_.1 13 0 28 = (M_ : Int) := (hFx14_.1 13 0 28 rfl).trans hmd_
    have kx_ := kx1_ _ mx_
    have sk_ := (congrFun sx_ _).trans ((congrArg (S0_.2.2.1 128 0) kx_).trans ro_.2.1)
    have wk_ := (congrFun wx_ _).trans ((congrArg (S0_.2.2.1 129 0) kx_).trans ro_.2.2.1)
    have vl9_ : Sx10_.1 13 0 34 = (gl_ : Int) := (hFx14_.1 13 0 34 rfl).trans hv_.1
    have mo9_ : Sx10_.1 13 0 27 = mo_ := (hFx14_.1 13 0 27 rfl).trans hmo_
    have wt9_ : Sx10_.1 13 0 32 ≤ 800 := by rw [hFx14_.1 13 0 32 rfl]; exact hw_
    have re9_ : ∀ m_, m_ ≤ M_ → re1 b_ n_ T_ A_ m_ Sx10_ := fun m_ hm_ => re1_fr (hre_ m_ hm_) hFx14_ rfl rfl rfl rfl rfl rfl
    refine sm_T_go 2 (c1 := (35, [some (.inr (.inr (some (13, 0)))), some (.inl (S0_.1 13 0 9)), some (.inl vx8_), none, none], [.inl 46, .inr (.inr (some (13, 0)))], Sx10_)) rfl ?_
    refine sm_T_cal (d1 := 0) (Q1 := vq_295 46 b_ n_ T_ (p_ad b_ n_ p_) Sx10_) rfl rfl (by decide) (vc_295 46 b_ n_ T_ (p_ad b_ n_ p_) Sx10_ hIx11_ (by exact t29_) (by exact g29_) (by decide)) (fun u_ Sx16_ px19_ => ?_)
    obtain ⟨rfl, vx21_, rfl, px19_⟩ := px19_
    have e35_ := px19_.2
    have r35_ := px19_.1
    refine sm_T_go 2 (c1 := (40, [some (.inr (.inr (some (13, 0)))), some (.inl (S0_.1 13 0 9)), some (.inl vx8_), some (.inl vx21_), none], [.inl vx21_], Sx10_)) rfl ?_
    refine sm_T_b0 (a := 0) (z := 43) rfl (fun cx22_ => ?_) (fun cx22_ => ?_)
    · have cx22_ : vx21_ = 0 := of_decide_eq_true cx22_
      have bx23_ : 0 ≤ Sx10_.1 13 0 28 ∧ Sx10_.1 13 0 28 ≤ 15 := hIx11_.1 13 0 28 rfl
      refine sm_T_go 3 (c1 := (89, [some (.inr (.inr (some (13, 0)))), some (.inl (S0_.1 13 0 9)), some (.inl vx8_), some (.inl vx21_), none], [.inl (Sx10_.1 13 0 28), .inl 40], Sx10_)) rfl ?_
      refine sm_T_bin (w := 40 * (Sx10_.1 13 0 28)) rfl (bi_mul (by omega) (by omega) (by omega)) ?_
      refine sm_T_go 1 (c1 := (91, [some (.inr (.inr (some (13, 0)))), some (.inl (S0_.1 13 0 9)), some (.inl vx8_), some (.inl vx21_), none], [.inl vx8_, .inl (40 * (Sx10_.1 13 0 28))], Sx10_)) rfl ?_
      refine sm_T_bin (w := 40 * (Sx10_.1 13 0 28) + vx8_) rfl (bi_add (by omega) (by omega) (by omega)) ?_
      refine sm_T_go 2 (c1 := (95, [some (.inr (.inr (some (13, 0)))), some (.inl (S0_.1 13 0 9)), some (.inl vx8_), some (.inl vx21_), some (.inl (40 * (Sx10_.1 13 0 28) + vx8_))], [.inl vx21_], Sx10_)) rfl ?_
      refine sm_T_b0 (a := 0) (z := 41) rfl (fun cx24_ => ?_) (fun cx24_ => ?_)
      · have cx24_ : vx21_ = 0 := of_decide_eq_true cx24_
        refine sm_T_go 3 (c1 := (142, [some (.inr (.inr (some (13, 0)))), some (.inl (S0_.1 13 0 9)), some (.inl vx8_), some (.inl vx21_), some (.inl (40 * (Sx10_.1 13 0 28) + vx8_))], [.inl (40 * (Sx10_.1 13 0 28) + vx8_), .inr (.inr (some (128, 0)))], Sx10_)) rfl ?_
        refine sm_T_iald (n := 640) rfl rfl (by omega) (by omega) ?_
        have bx25_ : 0 ≤ Sx10_.2.2.1 128 0 (40 * (Sx10_.1 13 0 28) + vx8_).toNat ∧ Sx10_.2.2.1 128 0 (40 * (Sx10_.1 13 0 28) + vx8_).toNat ≤ 5 := hIx11_.2 128 0 _
        refine sm_T_cal (d1 := 0) (Q1 := vq_323 (Sx10_.2.2.1 128 0 (40 * (Sx10_.1 13 0 28) + vx8_).toNat) Sx10_) rfl rfl (by decide) (vc_323 (Sx10_.2.2.1 128 0 (40 * (Sx10_.1 13 0 28) + vx8_).toNat) Sx10_ hIx11_ ) (fun u_ Sx26_ px29_ => ?_)
        obtain ⟨rfl, vx31_, rfl, px29_⟩ := px29_
        have e143_ := px29_
        refine sm_T_b0 (a := 1) (z := 11) rfl (fun cx32_ => ?_) (fun cx32_ => ?_)
        · have cx32_ : vx31_ ≠ 0 := of_decide_eq_true cx32_
          refine sm_T_go 4 (c1 := (164, [some (.inr (.inr (some (13, 0)))), some (.inl (S0_.1 13 0 9)), some (.inl vx8_), some (.inl vx21_), some (.inl (40 * (Sx10_.1 13 0 28) + vx8_))], [.inl (40 * (Sx10_.1 13 0 28) + vx8_), .inr (.inr (some (129, 0))), .inr (.inr (some (13, 0)))], Sx10_)) rfl ?_
          refine sm_T_iald (n := 640) rfl rfl (by omega) (by omega) ?_
          have bx33_ : 0 ≤ Sx10_.2.2.1 129 0 (40 * (Sx10_.1 13 0 28) + vx8_).toNat ∧ Sx10_.2.2.1 129 0 (40 * (Sx10_.1 13 0 28) + vx8_).toNat ≤ 8 := hIx11_.2 129 0 _
          have bx34_ : 0 ≤ Sx10_.1 13 0 29 ∧ Sx10_.1 13 0 29 ≤ 16 := hIx11_.1 13 0 29 rfl
          refine sm_T_go 5 (c1 := (174, [some (.inr (.inr (some (13, 0)))), some (.inl (S0_.1 13 0 9)), some (.inl vx8_), some (.inl vx21_), some (.inl (40 * (Sx10_.1 13 0 28) + vx8_))], [.inl (Sx10_.1 13 0 29), .inl 40, .inl 8, .inl 0, .inl (Sx10_.2.2.1 129 0 (40 * (Sx10_.1 13 0 28) + vx8_).toNat), .inr (.inr (some (13, 0)))], Sx10_)) rfl ?_
          refine sm_T_bin (w := 40 * (Sx10_.1 13 0 29)) rfl (bi_mul (by omega) (by omega) (by omega)) ?_
          refine sm_T_go 1 (c1 := (176, [some (.inr (.inr (some (13, 0)))), some (.inl (S0_.1 13 0 9)), some (.inl vx8_), some (.inl vx21_), some (.inl (40 * (Sx10_.1 13 0 28) + vx8_))], [.inl vx8_, .inl (40 * (Sx10_.1 13 0 29)), .inl 8, .inl 0, .inl (Sx10_.2.2.1 129 0 (40 * (Sx10_.1 13 0 28) + vx8_).toNat), .inr (.inr (some (13, 0)))], Sx10_)) rfl ?_
          refine sm_T_bin (w := 40 * (Sx10_.1 13 0 29) + vx8_) rfl (bi_add (by omega) (by omega) (by omega)) ?_
          refine sm_T_bin (w := 320 * (Sx10_.1 13 0 29) + 8 * vx8_) rfl (bi_mul (by omega) (by omega) (by omega)) ?_
          refine sm_T_cal (d1 := 0) (Q1 := vq_333 (Sx10_.2.2.1 129 0 (40 * (Sx10_.1 13 0 28) + vx8_).toNat) 0 (320 * (Sx10_.1 13 0 29) + 8 * vx8_) mo_ gl_ Sx10_) rfl rfl (by decide) (vc_333 (Sx10_.2.2.1 129 0 (40 * (Sx10_.1 13 0 28) + vx8_).toNat) 0 (320 * (Sx10_.1 13 0 29) + 8 * vx8_) mo_ gl_ Sx10_ hIx11_ (by exact ⟨vl9_, hv_.2⟩) (by exact mo9_) (by omega) (by (have := ao_.2.2.1; omega))) (fun u_ Sx35_ px38_ => ?_)
          obtain ⟨rfl, hIx36_, hFx37_, px38_⟩ := px38_
          have hFx39_ : ai_fr (sx_W vw_324) S0_ Sx35_ := ai_fr_tr hFx14_ (fr_le hFx37_ rfl)
          have ex40_ : Sx35_.1 13 0 28 = Sx10_.1 13 0 28 := hFx37_.1 13 0 28 rfl
          have ex41_ : Sx35_.1 13 0 29 = Sx10_.1 13 0 29 := hFx37_.1 13 0 29 rfl
          have c178_ := px38_
          rw [wk_] at c178_
          first | (have g178_ := rg_fr g44_ hFx37_ rfl rfl rfl; have t178_ := rtab_fr t44_ hFx37_ rfl rfl rfl rfl rfl) | (have g178_ := rg_fr g29_ hFx37_ rfl rfl rfl; have t178_ := rtab_fr t29_ hFx37_ rfl rfl rfl rfl rfl)
          have vl8_ : Sx35_.1 13 0 34 = (gl_ : Int) := (hFx39_.1 13 0 34 rfl).trans hv_.1
          have wx8_ := fr_arr (t := 129) (i := 0) hFx39_ rfl
          have wk8_ := (congrFun wx8_ _).trans ((congrArg (S0_.2.2.1 129 0) kx_).trans ro_.2.2.1)
          have nso_ : ¬ A_.2.2.1 (40 * M_ + s9_) = 5 := fun z_ => by have z1_ := e143_.2; have z2_ := sb_.2.1.mpr z_; omega
          refine sm_T_go 1 (c1 := (182, [some (.inr (.inr (some (13, 0)))), some (.inl (S0_.1 13 0 9)), some (.inl vx8_), some (.inl vx21_), some (.inl (40 * (Sx10_.1 13 0 28) + vx8_))], [.inl vx21_], Sx35_)) rfl ?_
          refine sm_T_b0 (a := 0) (z := 14) rfl (fun cx42_ => ?_) (fun cx42_ => ?_)
          · have cx42_ : vx21_ = 0 := of_decide_eq_true cx42_
            refine sm_T_rv rfl ⟨_, _, rfl, rfl, hIx36_, hFx39_, ?_⟩
            first | (have hp_ : p_na b_ n_ A_ M_ p_ = p_bi b_ n_ (A_.2.2.2.1 (40 * M_ + s9_)) [cw 9 s9_ 0] r_ := (by rw [na_5 q1_ hq_ k46_ hr44_ k2r]; exact if_neg nso_); rw [hp_]; refine ⟨by rw [bi_pl]; exact e193_.1, fun r9_ hr_ l_ hl_ hs_ => ?_⟩; obtain ⟨b1_, b2_⟩ := bi_1 hr_; rw [b1_]; exact e193_.2 _ b2_ l_ hl_ (c178_ l_ hl_ (by rw [w44_]; exact hs_)).2) | (cases hq_ : p_ad b_ n_ p_ with | inl e_ => (have hp_ := na_1 (A_ := A_) (M_ := M_) q1_ hq_; refine ⟨?_, fun r_ hr_ => by rw [hp_] at hr_; cases hr_⟩; rw [hp_]; rw [hq_] at g178_; exact g178_) | inr q_ => (have hp_ : p_na b_ n_ A_ M_ p_ = .inr (q_, A_.2.2.2.1 (40 * M_ + s9_), [cw 9 s9_ 0]) := (by rw [na_2 q1_ hq_ (fun z_ => by have := (e35_ q_ hq_).mpr z_; omega)]; exact if_neg nso_); rw [hp_]; refine ⟨by rw [hq_] at g178_; exact g178_, fun r9_ hr_ l_ hl_ hs_ => ?_⟩; cases hr_; exact c178_ l_ hl_ (by rw [w29_]; exact hs_)))
          · have cx42_ : ¬ (vx21_ = 0) := of_decide_eq_false cx42_
            exfalso; omega
        · have cx32_ : ¬ (vx31_ ≠ 0) := of_decide_eq_false cx32_
          refine sm_T_go 3 (c1 := (153, [some (.inr (.inr (some (13, 0)))), some (.inl (S0_.1 13 0 9)), some (.inl vx8_), some (.inl vx21_), some (.inl (40 * (Sx10_.1 13 0 28) + vx8_))], [.inl (S0_.1 13 0 9), .inl 11, .inr (.inr (some (13, 0)))], Sx10_)) rfl ?_
          refine sm_T_cal (d1 := 0) (Q1 := vq_294 11 (S0_.1 13 0 9) Sx10_) rfl rfl (by decide) (vc_294 11 (S0_.1 13 0 9) Sx10_ hIx11_ (by decide) (by omega)) (fun u_ Sx43_ px46_ => ?_)
          obtain ⟨rfl, hIx44_, hFx45_, px46_⟩ := px46_
          have hFx47_ : ai_fr (sx_W vw_324) S0_ Sx43_ := ai_fr_tr hFx14_ (fr_le hFx45_ rfl)
          have ex48_ : Sx43_.1 13 0 28 = Sx10_.1 13 0 28 := hFx45_.1 13 0 28 rfl
          have e153_ := px46_
          refine sm_T_rv rfl ⟨_, _, rfl, rfl, hIx44_, hFx47_, ?_⟩
          have so5_ : A_.2.2.1 (40 * M_ + s9_) = 5 := sb_.2.1.mp (by have z1_ := e143_.2; have z2_ := sb_.2.2.2.2; omega)
          first | (have hp_ : p_na b_ n_ A_ M_ p_ = .inl (11, p_) := (by rw [na_5 q1_ hq_ k46_ hr44_ k2r]; exact if_pos so5_); refine ⟨?_, fun r_ hr_ => by rw [hp_] at hr_; cases hr_⟩; rw [hp_]; rcases e153_ with z_ | z_; (exact absurd g44_.1 z_.1); (exact ⟨z_.2.1, z_.2.2.trans p44_, by show (11 : Int) ≠ 0; decide⟩)) | (cases hq_ : p_ad b_ n_ p_ with | inl e_ => (have hp_ := na_1 (A_ := A_) (M_ := M_) q1_ hq_; refine ⟨?_, fun r_ hr_ => by rw [hp_] at hr_; cases hr_⟩; rw [hp_]; rw [hq_] at g29_; rcases e153_ with z_ | z_; (exact rg_e2 g29_ z_.2.1 z_.2.2); (exact absurd (g29_.1.symm.trans z_.1) g29_.2.2)) | inr q_ => (have hp_ : p_na b_ n_ A_ M_ p_ = .inl (11, p_) := (by rw [na_2 q1_ hq_ (fun z_ => by have := (e35_ q_ hq_).mpr z_; omega)]; exact if_pos so5_); refine ⟨?_, fun r_ hr_ => by rw [hp_] at hr_; cases hr_⟩; rw [hp_]; rw [hq_] at g29_; rcases e153_ with z_ | z_; (exact absurd g29_.1 z_.1); (exact ⟨z_.2.1, z_.2.2.trans p29_, by show (11 : Int) ≠ 0; decide⟩)))
      · have cx24_ : ¬ (vx21_ = 0) := of_decide_eq_false cx24_
        exfalso; omega
    · have cx22_ : ¬ (vx21_ = 0) := of_decide_eq_false cx22_
      obtain ⟨q_, hq_⟩ : ∃ q_, p_ad b_ n_ p_ = .inr q_ := by cases hq_ : p_ad b_ n_ p_ with | inl e_ => (exfalso; have z1_ := s29_ e_ hq_; have z2_ := r35_.2 (by omega); omega) | inr q_ => exact ⟨q_, rfl⟩
      have k46_ := (e35_ q_ hq_).mp (by omega)
      rw [hq_] at g29_
      refine sm_T_go 1 (c1 := (44, [some (.inr (.inr (some (13, 0)))), some (.inl (S0_.1 13 0 9)), some (.inl vx8_), some (.inl vx21_), none], [.inr (.inr (some (13, 0)))], Sx10_)) rfl ?_
      refine sm_T_cal (d1 := 2) (Q1 := vq_297 b_ n_ T_ (.inr q_) Sx10_) rfl rfl (by decide) (vc_297 b_ n_ T_ (.inr q_) Sx10_ hIx11_ (by exact t29_) (by exact g29_) (by (intro z_ e_; cases e_; omega))) (fun u_ Sx49_ px52_ => ?_)
      obtain ⟨rfl, hIx50_, hFx51_, px52_⟩ := px52_
      have hFx53_ : ai_fr (sx_W vw_324) S0_ Sx49_ := ai_fr_tr hFx14_ (fr_le hFx51_ rfl)
      have g44_ := px52_.1
      rw [pb_r rfl] at g44_
      have s44_ := fun e_ => px52_.2 q_ e_ rfl
      have t44_ := rtab_fr t29_ hFx51_ rfl rfl rfl rfl rfl
      have w44_ := (fr_arr (t := 138) (i := 0) hFx51_ rfl).trans w29_
      have p44_ : Sx49_.2.2.1 120 0 (S0_.1 13 0 9).toNat = (p_ : Int) := by rw [e4_]; exact (rp_at t44_ hi_.2).2.1
      have r44_ : ∀ r_, p_ad b_ n_ q_ = .inr r_ → ∃ j_ : Nat, Sx49_.1 13 0 9 = (j_ : Int) ∧ rp b_ n_ T_ j_ r_ ∧ Sx49_.2.2.1 119 0 (Sx49_.1 13 0 9).toNat = r_st (lx_kd b_ n_ r_) ∧ Sx49_.2.2.1 120 0 (Sx49_.1 13 0 9).toNat = (r_ : Int) := fun r_ hr_ => by rw [hr_] at g44_; obtain ⟨j_, j1_, j2_⟩ := g44_.2; have j3_ := rp_at t44_ j2_; rw [show (Sx49_.1 13 0 9).toNat = j_ by omega]; exact ⟨j_, j1_, j2_, j3_.1, j3_.2.1⟩
      have sx_ := fr_arr (t := 128) (i := 0) hFx53_ rfl
      have wx_ := fr_arr (t := 129) (i := 0) hFx53_ rfl
      have mx_ : Sx49_.1 13 0 28 = (M_ : Int) := (hFx53_.1 13 0 28 rfl).trans hmd_
      have kx_ := kx1_ _ mx_
      have sk_ := (congrFun sx_ _).trans ((congrArg (S0_.2.2.1 128 0) kx_).trans ro_.2.1)
      have wk_ := (congrFun wx_ _).trans ((congrArg (S0_.2.2.1 129 0) kx_).trans ro_.2.2.1)
      have vl9_ : Sx49_.1 13 0 34 = (gl_ : Int) := (hFx53_.1 13 0 34 rfl).trans hv_.1
      have mo9_ : Sx49_.1 13 0 27 = mo_ := (hFx53_.1 13 0 27 rfl).trans hmo_
      have wt9_ : Sx49_.1 13 0 32 ≤ 800 := by rw [hFx53_.1 13 0 32 rfl]; exact hw_
      have re9_ : ∀ m_, m_ ≤ M_ → re1 b_ n_ T_ A_ m_ Sx49_ := fun m_ hm_ => re1_fr (hre_ m_ hm_) hFx53_ rfl rfl rfl rfl rfl rfl
      have bx54_ : 0 ≤ Sx49_.1 13 0 9 ∧ Sx49_.1 13 0 9 ≤ 1280 := hIx50_.1 13 0 9 rfl
      refine sm_T_go 4 (c1 := (55, [some (.inr (.inr (some (13, 0)))), some (.inl (S0_.1 13 0 9)), some (.inl vx8_), some (.inl vx21_), none], [.inl (Sx49_.1 13 0 9), .inr (.inr (some (119, 0)))], Sx49_)) rfl ?_
      refine sm_T_bald (n := 65537) rfl rfl (by omega) (by omega) ?_
      have bx55_ : (-128) ≤ Sx49_.2.2.1 119 0 (Sx49_.1 13 0 9).toNat ∧ Sx49_.2.2.1 119 0 (Sx49_.1 13 0 9).toNat ≤ 127 := hIx50_.2 119 0 _
      refine sm_T_go 1 (c1 := (57, [some (.inr (.inr (some (13, 0)))), some (.inl (S0_.1 13 0 9)), some (.inl vx8_), some (.inl vx21_), none], [.inl 2, .inl (Sx49_.2.2.1 119 0 (Sx49_.1 13 0 9).toNat)], Sx49_)) rfl ?_
      refine sm_T_br (a := 0) (z := 26) rfl (fun cx56_ => ?_) (fun cx56_ => ?_)
      · have cx56_ : (Sx49_.2.2.1 119 0 (Sx49_.1 13 0 9).toNat) = 2 := of_decide_eq_true cx56_
        have bx57_ : 0 ≤ Sx49_.1 13 0 28 ∧ Sx49_.1 13 0 28 ≤ 15 := hIx50_.1 13 0 28 rfl
        refine sm_T_go 3 (c1 := (89, [some (.inr (.inr (some (13, 0)))), some (.inl (S0_.1 13 0 9)), some (.inl vx8_), some (.inl vx21_), none], [.inl (Sx49_.1 13 0 28), .inl 40], Sx49_)) rfl ?_
        refine sm_T_bin (w := 40 * (Sx49_.1 13 0 28)) rfl (bi_mul (by omega) (by omega) (by omega)) ?_
        refine sm_T_go 1 (c1 := (91, [some (.inr (.inr (some (13, 0)))), some (.inl (S0_.1 13 0 9)), some (.inl vx8_), some (.inl vx21_), none], [.inl vx8_, .inl (40 * (Sx49_.1 13 0 28))], Sx49_)) rfl ?_
        refine sm_T_bin (w := 40 * (Sx49_.1 13 0 28) + vx8_) rfl (bi_add (by omega) (by omega) (by omega)) ?_
        refine sm_T_go 2 (c1 := (95, [some (.inr (.inr (some (13, 0)))), some (.inl (S0_.1 13 0 9)), some (.inl vx8_), some (.inl vx21_), some (.inl (40 * (Sx49_.1 13 0 28) + vx8_))], [.inl vx21_], Sx49_)) rfl ?_
        refine sm_T_b0 (a := 0) (z := 41) rfl (fun cx58_ => ?_) (fun cx58_ => ?_)
        · have cx58_ : vx21_ = 0 := of_decide_eq_true cx58_
          exfalso; omega
        · have cx58_ : ¬ (vx21_ = 0) := of_decide_eq_false cx58_
          refine sm_T_go 4 (c1 := (106, [some (.inr (.inr (some (13, 0)))), some (.inl (S0_.1 13 0 9)), some (.inl vx8_), some (.inl vx21_), some (.inl (40 * (Sx49_.1 13 0 28) + vx8_))], [.inl (Sx49_.1 13 0 9), .inr (.inr (some (119, 0)))], Sx49_)) rfl ?_
          refine sm_T_bald (n := 65537) rfl rfl (by omega) (by omega) ?_
          refine sm_T_go 1 (c1 := (108, [some (.inr (.inr (some (13, 0)))), some (.inl (S0_.1 13 0 9)), some (.inl vx8_), some (.inl vx21_), some (.inl (40 * (Sx49_.1 13 0 28) + vx8_))], [.inl 1, .inl (Sx49_.2.2.1 119 0 (Sx49_.1 13 0 9).toNat)], Sx49_)) rfl ?_
          refine sm_T_br (a := 1) (z := 28) rfl (fun cx59_ => ?_) (fun cx59_ => ?_)
          · have cx59_ : (Sx49_.2.2.1 119 0 (Sx49_.1 13 0 9).toNat) ≠ 1 := of_decide_eq_true cx59_
            obtain ⟨r_, hr44_⟩ : ∃ r_, p_ad b_ n_ q_ = .inr r_ := by cases hr_ : p_ad b_ n_ q_ with | inl e_ => (exfalso; have z1_ := s44_ e_ hr_; omega) | inr r_ => exact ⟨r_, rfl⟩
            obtain ⟨j_, j1_, j2_, j3_, j4_⟩ := r44_ r_ hr44_
            have j5_ := r_st_3 (lx_kd_r j2_.2.2.1)
            have k2r : lx_kd b_ n_ r_ = 2 := j5_.2.2.1.mp (by omega)
            rw [hr44_] at g44_
            refine sm_T_go 3 (c1 := (142, [some (.inr (.inr (some (13, 0)))), some (.inl (S0_.1 13 0 9)), some (.inl vx8_), some (.inl vx21_), some (.inl (40 * (Sx49_.1 13 0 28) + vx8_))], [.inl (40 * (Sx49_.1 13 0 28) + vx8_), .inr (.inr (some (128, 0)))], Sx49_)) rfl ?_
            refine sm_T_iald (n := 640) rfl rfl (by omega) (by omega) ?_
            have bx60_ : 0 ≤ Sx49_.2.2.1 128 0 (40 * (Sx49_.1 13 0 28) + vx8_).toNat ∧ Sx49_.2.2.1 128 0 (40 * (Sx49_.1 13 0 28) + vx8_).toNat ≤ 5 := hIx50_.2 128 0 _
            refine sm_T_cal (d1 := 0) (Q1 := vq_323 (Sx49_.2.2.1 128 0 (40 * (Sx49_.1 13 0 28) + vx8_).toNat) Sx49_) rfl rfl (by decide) (vc_323 (Sx49_.2.2.1 128 0 (40 * (Sx49_.1 13 0 28) + vx8_).toNat) Sx49_ hIx50_ ) (fun u_ Sx61_ px64_ => ?_)
            obtain ⟨rfl, vx66_, rfl, px64_⟩ := px64_
            have e143_ := px64_
            refine sm_T_b0 (a := 1) (z := 11) rfl (fun cx67_ => ?_) (fun cx67_ => ?_)
            · have cx67_ : vx66_ ≠ 0 := of_decide_eq_true cx67_
              refine sm_T_go 4 (c1 := (164, [some (.inr (.inr (some (13, 0)))), some (.inl (S0_.1 13 0 9)), some (.inl vx8_), some (.inl vx21_), some (.inl (40 * (Sx49_.1 13 0 28) + vx8_))], [.inl (40 * (Sx49_.1 13 0 28) + vx8_), .inr (.inr (some (129, 0))), .inr (.inr (some (13, 0)))], Sx49_)) rfl ?_
              refine sm_T_iald (n := 640) rfl rfl (by omega) (by omega) ?_
              have bx68_ : 0 ≤ Sx49_.2.2.1 129 0 (40 * (Sx49_.1 13 0 28) + vx8_).toNat ∧ Sx49_.2.2.1 129 0 (40 * (Sx49_.1 13 0 28) + vx8_).toNat ≤ 8 := hIx50_.2 129 0 _
              have bx69_ : 0 ≤ Sx49_.1 13 0 29 ∧ Sx49_.1 13 0 29 ≤ 16 := hIx50_.1 13 0 29 rfl
              refine sm_T_go 5 (c1 := (174, [some (.inr (.inr (some (13, 0)))), some (.inl (S0_.1 13 0 9)), some (.inl vx8_), some (.inl vx21_), some (.inl (40 * (Sx49_.1 13 0 28) + vx8_))], [.inl (Sx49_.1 13 0 29), .inl 40, .inl 8, .inl 0, .inl (Sx49_.2.2.1 129 0 (40 * (Sx49_.1 13 0 28) + vx8_).toNat), .inr (.inr (some (13, 0)))], Sx49_)) rfl ?_
              refine sm_T_bin (w := 40 * (Sx49_.1 13 0 29)) rfl (bi_mul (by omega) (by omega) (by omega)) ?_
              refine sm_T_go 1 (c1 := (176, [some (.inr (.inr (some (13, 0)))), some (.inl (S0_.1 13 0 9)), some (.inl vx8_), some (.inl vx21_), some (.inl (40 * (Sx49_.1 13 0 28) + vx8_))], [.inl vx8_, .inl (40 * (Sx49_.1 13 0 29)), .inl 8, .inl 0, .inl (Sx49_.2.2.1 129 0 (40 * (Sx49_.1 13 0 28) + vx8_).toNat), .inr (.inr (some (13, 0)))], Sx49_)) rfl ?_
              refine sm_T_bin (w := 40 * (Sx49_.1 13 0 29) + vx8_) rfl (bi_add (by omega) (by omega) (by omega)) ?_
              refine sm_T_bin (w := 320 * (Sx49_.1 13 0 29) + 8 * vx8_) rfl (bi_mul (by omega) (by omega) (by omega)) ?_
              refine sm_T_cal (d1 := 0) (Q1 := vq_333 (Sx49_.2.2.1 129 0 (40 * (Sx49_.1 13 0 28) + vx8_).toNat) 0 (320 * (Sx49_.1 13 0 29) + 8 * vx8_) mo_ gl_ Sx49_) rfl rfl (by decide) (vc_333 (Sx49_.2.2.1 129 0 (40 * (Sx49_.1 13 0 28) + vx8_).toNat) 0 (320 * (Sx49_.1 13 0 29) + 8 * vx8_) mo_ gl_ Sx49_ hIx50_ (by exact ⟨vl9_, hv_.2⟩) (by exact mo9_) (by omega) (by (have := ao_.2.2.1; omega))) (fun u_ Sx70_ px73_ => ?_)
              obtain ⟨rfl, hIx71_, hFx72_, px73_⟩ := px73_
              have hFx74_ : ai_fr (sx_W vw_324) S0_ Sx70_ := ai_fr_tr hFx53_ (fr_le hFx72_ rfl)
              have ex75_ : Sx70_.1 13 0 28 = Sx49_.1 13 0 28 := hFx72_.1 13 0 28 rfl
              have ex76_ : Sx70_.1 13 0 9 = Sx49_.1 13 0 9 := hFx72_.1 13 0 9 rfl
              have ex77_ : Sx70_.1 13 0 29 = Sx49_.1 13 0 29 := hFx72_.1 13 0 29 rfl
              have c178_ := px73_
              rw [wk_] at c178_
              first | (have g178_ := rg_fr g44_ hFx72_ rfl rfl rfl; have t178_ := rtab_fr t44_ hFx72_ rfl rfl rfl rfl rfl) | (have g178_ := rg_fr g29_ hFx72_ rfl rfl rfl; have t178_ := rtab_fr t29_ hFx72_ rfl rfl rfl rfl rfl)
              have vl8_ : Sx70_.1 13 0 34 = (gl_ : Int) := (hFx74_.1 13 0 34 rfl).trans hv_.1
              have wx8_ := fr_arr (t := 129) (i := 0) hFx74_ rfl
              have wk8_ := (congrFun wx8_ _).trans ((congrArg (S0_.2.2.1 129 0) kx_).trans ro_.2.2.1)
              have nso_ : ¬ A_.2.2.1 (40 * M_ + s9_) = 5 := fun z_ => by have z1_ := e143_.2; have z2_ := sb_.2.1.mpr z_; omega
              refine sm_T_go 1 (c1 := (182, [some (.inr (.inr (some (13, 0)))), some (.inl (S0_.1 13 0 9)), some (.inl vx8_), some (.inl vx21_), some (.inl (40 * (Sx49_.1 13 0 28) + vx8_))], [.inl vx21_], Sx70_)) rfl ?_
              refine sm_T_b0 (a := 0) (z := 14) rfl (fun cx78_ => ?_) (fun cx78_ => ?_)
              · have cx78_ : vx21_ = 0 := of_decide_eq_true cx78_
                exfalso; omega
              · have cx78_ : ¬ (vx21_ = 0) := of_decide_eq_false cx78_
                refine sm_T_go 4 (c1 := (192, [some (.inr (.inr (some (13, 0)))), some (.inl (S0_.1 13 0 9)), some (.inl vx8_), some (.inl vx21_), some (.inl (40 * (Sx49_.1 13 0 28) + vx8_))], [.inl (40 * (Sx49_.1 13 0 28) + vx8_), .inr (.inr (some (129, 0))), .inr (.inr (some (13, 0)))], Sx70_)) rfl ?_
                refine sm_T_iald (n := 640) rfl rfl (by omega) (by omega) ?_
                have bx79_ : 0 ≤ Sx70_.2.2.1 129 0 (40 * (Sx49_.1 13 0 28) + vx8_).toNat ∧ Sx70_.2.2.1 129 0 (40 * (Sx49_.1 13 0 28) + vx8_).toNat ≤ 8 := hIx71_.2 129 0 _
                refine sm_T_cal (d1 := 3) (Q1 := vq_325 (Sx70_.2.2.1 129 0 (40 * (Sx49_.1 13 0 28) + vx8_).toNat) b_ n_ T_ (.inr r_) mo_ gl_ Sx70_) rfl rfl (by decide) (vc_325 (Sx70_.2.2.1 129 0 (40 * (Sx49_.1 13 0 28) + vx8_).toNat) b_ n_ T_ (.inr r_) mo_ gl_ Sx70_ hIx71_ (by exact t178_) (by exact g178_) (by exact ⟨vl8_, hv_.2⟩) (by (have := ao_.2.2.1; omega))) (fun u_ Sx80_ px83_ => ?_)
                obtain ⟨rfl, hIx81_, hFx82_, px83_⟩ := px83_
                have hFx84_ : ai_fr (sx_W vw_324) S0_ Sx80_ := ai_fr_tr hFx74_ (fr_le hFx82_ rfl)
                have e193_ := px83_
                rw [wk8_, pb_r rfl] at e193_
                refine sm_T_rv rfl ⟨_, _, rfl, rfl, hIx81_, hFx84_, ?_⟩
                first | (have hp_ : p_na b_ n_ A_ M_ p_ = p_bi b_ n_ (A_.2.2.2.1 (40 * M_ + s9_)) [cw 9 s9_ 0] r_ := (by rw [na_5 q1_ hq_ k46_ hr44_ k2r]; exact if_neg nso_); rw [hp_]; refine ⟨by rw [bi_pl]; exact e193_.1, fun r9_ hr_ l_ hl_ hs_ => ?_⟩; obtain ⟨b1_, b2_⟩ := bi_1 hr_; rw [b1_]; exact e193_.2 _ b2_ l_ hl_ (c178_ l_ hl_ (by rw [w44_]; exact hs_)).2) | (cases hq_ : p_ad b_ n_ p_ with | inl e_ => (have hp_ := na_1 (A_ := A_) (M_ := M_) q1_ hq_; refine ⟨?_, fun r_ hr_ => by rw [hp_] at hr_; cases hr_⟩; rw [hp_]; rw [hq_] at g178_; exact g178_) | inr q_ => (have hp_ : p_na b_ n_ A_ M_ p_ = .inr (q_, A_.2.2.2.1 (40 * M_ + s9_), [cw 9 s9_ 0]) := (by rw [na_2 q1_ hq_ (fun z_ => by have := (e35_ q_ hq_).mpr z_; omega)]; exact if_neg nso_); rw [hp_]; refine ⟨by rw [hq_] at g178_; exact g178_, fun r9_ hr_ l_ hl_ hs_ => ?_⟩; cases hr_; exact c178_ l_ hl_ (by rw [w29_]; exact hs_)))
            · have cx67_ : ¬ (vx66_ ≠ 0) := of_decide_eq_false cx67_
              refine sm_T_go 3 (c1 := (153, [some (.inr (.inr (some (13, 0)))), some (.inl (S0_.1 13 0 9)), some (.inl vx8_), some (.inl vx21_), some (.inl (40 * (Sx49_.1 13 0 28) + vx8_))], [.inl (S0_.1 13 0 9), .inl 11, .inr (.inr (some (13, 0)))], Sx49_)) rfl ?_
              refine sm_T_cal (d1 := 0) (Q1 := vq_294 11 (S0_.1 13 0 9) Sx49_) rfl rfl (by decide) (vc_294 11 (S0_.1 13 0 9) Sx49_ hIx50_ (by decide) (by omega)) (fun u_ Sx85_ px88_ => ?_)
              obtain ⟨rfl, hIx86_, hFx87_, px88_⟩ := px88_
              have hFx89_ : ai_fr (sx_W vw_324) S0_ Sx85_ := ai_fr_tr hFx53_ (fr_le hFx87_ rfl)
              have ex90_ : Sx85_.1 13 0 9 = Sx49_.1 13 0 9 := hFx87_.1 13 0 9 rfl
              have ex91_ : Sx85_.1 13 0 28 = Sx49_.1 13 0 28 := hFx87_.1 13 0 28 rfl
              have e153_ := px88_
              refine sm_T_rv rfl ⟨_, _, rfl, rfl, hIx86_, hFx89_, ?_⟩
              have so5_ : A_.2.2.1 (40 * M_ + s9_) = 5 := sb_.2.1.mp (by have z1_ := e143_.2; have z2_ := sb_.2.2.2.2; omega)
              first | (have hp_ : p_na b_ n_ A_ M_ p_ = .inl (11, p_) := (by rw [na_5 q1_ hq_ k46_ hr44_ k2r]; exact if_pos so5_); refine ⟨?_, fun r_ hr_ => by rw [hp_] at hr_; cases hr_⟩; rw [hp_]; rcases e153_ with z_ | z_; (exact absurd g44_.1 z_.1); (exact ⟨z_.2.1, z_.2.2.trans p44_, by show (11 : Int) ≠ 0; decide⟩)) | (cases hq_ : p_ad b_ n_ p_ with | inl e_ => (have hp_ := na_1 (A_ := A_) (M_ := M_) q1_ hq_; refine ⟨?_, fun r_ hr_ => by rw [hp_] at hr_; cases hr_⟩; rw [hp_]; rw [hq_] at g29_; rcases e153_ with z_ | z_; (exact rg_e2 g29_ z_.2.1 z_.2.2); (exact absurd (g29_.1.symm.trans z_.1) g29_.2.2)) | inr q_ => (have hp_ : p_na b_ n_ A_ M_ p_ = .inl (11, p_) := (by rw [na_2 q1_ hq_ (fun z_ => by have := (e35_ q_ hq_).mpr z_; omega)]; exact if_pos so5_); refine ⟨?_, fun r_ hr_ => by rw [hp_] at hr_; cases hr_⟩; rw [hp_]; rw [hq_] at g29_; rcases e153_ with z_ | z_; (exact absurd g29_.1 z_.1); (exact ⟨z_.2.1, z_.2.2.trans p29_, by show (11 : Int) ≠ 0; decide⟩)))
          · have cx59_ : ¬ ((Sx49_.2.2.1 119 0 (Sx49_.1 13 0 9).toNat) ≠ 1) := of_decide_eq_false cx59_
            exfalso; omega
      · have cx56_ : ¬ ((Sx49_.2.2.1 119 0 (Sx49_.1 13 0 9).toNat) = 2) := of_decide_eq_false cx56_
        refine sm_T_go 4 (c1 := (68, [some (.inr (.inr (some (13, 0)))), some (.inl (S0_.1 13 0 9)), some (.inl vx8_), some (.inl vx21_), none], [.inl (Sx49_.1 13 0 9), .inr (.inr (some (119, 0)))], Sx49_)) rfl ?_
        refine sm_T_bald (n := 65537) rfl rfl (by omega) (by omega) ?_
        refine sm_T_go 1 (c1 := (70, [some (.inr (.inr (some (13, 0)))), some (.inl (S0_.1 13 0 9)), some (.inl vx8_), some (.inl vx21_), none], [.inl 1, .inl (Sx49_.2.2.1 119 0 (Sx49_.1 13 0 9).toNat)], Sx49_)) rfl ?_
        refine sm_T_br (a := 0) (z := 13) rfl (fun cx92_ => ?_) (fun cx92_ => ?_)
        · have cx92_ : (Sx49_.2.2.1 119 0 (Sx49_.1 13 0 9).toNat) = 1 := of_decide_eq_true cx92_
          have bx93_ : 0 ≤ Sx49_.1 13 0 28 ∧ Sx49_.1 13 0 28 ≤ 15 := hIx50_.1 13 0 28 rfl
          refine sm_T_go 3 (c1 := (89, [some (.inr (.inr (some (13, 0)))), some (.inl (S0_.1 13 0 9)), some (.inl vx8_), some (.inl vx21_), none], [.inl (Sx49_.1 13 0 28), .inl 40], Sx49_)) rfl ?_
          refine sm_T_bin (w := 40 * (Sx49_.1 13 0 28)) rfl (bi_mul (by omega) (by omega) (by omega)) ?_
          refine sm_T_go 1 (c1 := (91, [some (.inr (.inr (some (13, 0)))), some (.inl (S0_.1 13 0 9)), some (.inl vx8_), some (.inl vx21_), none], [.inl vx8_, .inl (40 * (Sx49_.1 13 0 28))], Sx49_)) rfl ?_
          refine sm_T_bin (w := 40 * (Sx49_.1 13 0 28) + vx8_) rfl (bi_add (by omega) (by omega) (by omega)) ?_
          refine sm_T_go 2 (c1 := (95, [some (.inr (.inr (some (13, 0)))), some (.inl (S0_.1 13 0 9)), some (.inl vx8_), some (.inl vx21_), some (.inl (40 * (Sx49_.1 13 0 28) + vx8_))], [.inl vx21_], Sx49_)) rfl ?_
          refine sm_T_b0 (a := 0) (z := 41) rfl (fun cx94_ => ?_) (fun cx94_ => ?_)
          · have cx94_ : vx21_ = 0 := of_decide_eq_true cx94_
            exfalso; omega
          · have cx94_ : ¬ (vx21_ = 0) := of_decide_eq_false cx94_
            refine sm_T_go 4 (c1 := (106, [some (.inr (.inr (some (13, 0)))), some (.inl (S0_.1 13 0 9)), some (.inl vx8_), some (.inl vx21_), some (.inl (40 * (Sx49_.1 13 0 28) + vx8_))], [.inl (Sx49_.1 13 0 9), .inr (.inr (some (119, 0)))], Sx49_)) rfl ?_
            refine sm_T_bald (n := 65537) rfl rfl (by omega) (by omega) ?_
            refine sm_T_go 1 (c1 := (108, [some (.inr (.inr (some (13, 0)))), some (.inl (S0_.1 13 0 9)), some (.inl vx8_), some (.inl vx21_), some (.inl (40 * (Sx49_.1 13 0 28) + vx8_))], [.inl 1, .inl (Sx49_.2.2.1 119 0 (Sx49_.1 13 0 9).toNat)], Sx49_)) rfl ?_
            refine sm_T_br (a := 1) (z := 28) rfl (fun cx95_ => ?_) (fun cx95_ => ?_)
            · have cx95_ : (Sx49_.2.2.1 119 0 (Sx49_.1 13 0 9).toNat) ≠ 1 := of_decide_eq_true cx95_
              exfalso; omega
            · have cx95_ : ¬ ((Sx49_.2.2.1 119 0 (Sx49_.1 13 0 9).toNat) ≠ 1) := of_decide_eq_false cx95_
              obtain ⟨r_, hr44_⟩ : ∃ r_, p_ad b_ n_ q_ = .inr r_ := by cases hr_ : p_ad b_ n_ q_ with | inl e_ => (exfalso; have z1_ := s44_ e_ hr_; omega) | inr r_ => exact ⟨r_, rfl⟩
              obtain ⟨j_, j1_, j2_, j3_, j4_⟩ := r44_ r_ hr44_
              have j5_ := r_st_3 (lx_kd_r j2_.2.2.1)
              have k1r : lx_kd b_ n_ r_ = 1 := j5_.2.1.mp (by omega)
              rw [hr44_] at g44_
              refine sm_T_go 3 (c1 := (117, [some (.inr (.inr (some (13, 0)))), some (.inl (S0_.1 13 0 9)), some (.inl vx8_), some (.inl vx21_), some (.inl (40 * (Sx49_.1 13 0 28) + vx8_))], [.inl (40 * (Sx49_.1 13 0 28) + vx8_), .inr (.inr (some (128, 0)))], Sx49_)) rfl ?_
              refine sm_T_iald (n := 640) rfl rfl (by omega) (by omega) ?_
              have bx96_ : 0 ≤ Sx49_.2.2.1 128 0 (40 * (Sx49_.1 13 0 28) + vx8_).toNat ∧ Sx49_.2.2.1 128 0 (40 * (Sx49_.1 13 0 28) + vx8_).toNat ≤ 5 := hIx50_.2 128 0 _
              refine sm_T_go 1 (c1 := (119, [some (.inr (.inr (some (13, 0)))), some (.inl (S0_.1 13 0 9)), some (.inl vx8_), some (.inl vx21_), some (.inl (40 * (Sx49_.1 13 0 28) + vx8_))], [.inl 5, .inl (Sx49_.2.2.1 128 0 (40 * (Sx49_.1 13 0 28) + vx8_).toNat)], Sx49_)) rfl ?_
              refine sm_T_br (a := 0) (z := 11) rfl (fun cx97_ => ?_) (fun cx97_ => ?_)
              · have cx97_ : (Sx49_.2.2.1 128 0 (40 * (Sx49_.1 13 0 28) + vx8_).toNat) = 5 := of_decide_eq_true cx97_
                refine sm_T_go 2 (c1 := (132, [some (.inr (.inr (some (13, 0)))), some (.inl (S0_.1 13 0 9)), some (.inl vx8_), some (.inl vx21_), some (.inl (40 * (Sx49_.1 13 0 28) + vx8_))], [.inl vx8_, .inr (.inr (some (13, 0)))], Sx49_)) rfl ?_
                refine sm_T_cal (d1 := 4) (Q1 := vq_326 vx8_ b_ n_ T_ mo_ r_ j_ gl_ A_ M_ s9_ Sx49_) rfl rfl (by decide) (vc_326 vx8_ b_ n_ T_ mo_ r_ j_ gl_ A_ M_ s9_ Sx49_ hIx50_ (by exact t44_) (by exact g44_.1) (by exact ⟨j1_, j2_⟩) (by exact ⟨vl9_, hv_.2⟩) (by exact mo9_) (by exact wt9_) (by exact hA_) (by exact mx_) (by exact re9_) (by exact k1r) (by omega) (by exact ⟨e11_.trans q1_, q2_⟩) (by exact sb_.2.1.mp (by omega))) (fun u_ Sx98_ px101_ => ?_)
                obtain ⟨rfl, hIx99_, hFx100_, px101_⟩ := px101_
                have hFx102_ : ai_fr (sx_W vw_324) S0_ Sx98_ := ai_fr_tr hFx53_ (fr_le hFx100_ rfl)
                have ex103_ : Sx98_.1 13 0 28 = Sx49_.1 13 0 28 := hFx100_.1 13 0 28 rfl
                have e132_ := px101_
                have h5s : A_.2.2.1 (40 * M_ + s9_) = 5 := sb_.2.1.mp (by omega)
                refine sm_T_rv rfl ⟨_, _, rfl, rfl, hIx99_, hFx102_, ?_⟩
                rw [e11_, q1_] at e132_
                have hp_ : p_na b_ n_ A_ M_ p_ = p_pa b_ n_ A_ s9_ (A_.2.2.2.2 (40 * M_ + s9_)).toNat r_ := by rw [na_4 q1_ hq_ k46_ hr44_ k1r]; exact if_pos h5s
                rw [hp_]
                refine ⟨e132_.1, fun r9_ hr_ l_ hl_ hs_ => e132_.2 r9_ hr_ l_ hl_ ?_⟩
                rw [w44_]; exact hs_
              · have cx97_ : ¬ ((Sx49_.2.2.1 128 0 (40 * (Sx49_.1 13 0 28) + vx8_).toNat) = 5) := of_decide_eq_false cx97_
                refine sm_T_go 3 (c1 := (126, [some (.inr (.inr (some (13, 0)))), some (.inl (S0_.1 13 0 9)), some (.inl vx8_), some (.inl vx21_), some (.inl (40 * (Sx49_.1 13 0 28) + vx8_))], [.inl (S0_.1 13 0 9), .inl 11, .inr (.inr (some (13, 0)))], Sx49_)) rfl ?_
                refine sm_T_cal (d1 := 0) (Q1 := vq_294 11 (S0_.1 13 0 9) Sx49_) rfl rfl (by decide) (vc_294 11 (S0_.1 13 0 9) Sx49_ hIx50_ (by decide) (by omega)) (fun u_ Sx104_ px107_ => ?_)
                obtain ⟨rfl, hIx105_, hFx106_, px107_⟩ := px107_
                have hFx108_ : ai_fr (sx_W vw_324) S0_ Sx104_ := ai_fr_tr hFx53_ (fr_le hFx106_ rfl)
                have ex109_ : Sx104_.1 13 0 9 = Sx49_.1 13 0 9 := hFx106_.1 13 0 9 rfl
                have ex110_ : Sx104_.1 13 0 28 = Sx49_.1 13 0 28 := hFx106_.1 13 0 28 rfl
                have e126_ := px107_
                refine sm_T_rv rfl ⟨_, _, rfl, rfl, hIx105_, hFx108_, ?_⟩
                have hp_ : p_na b_ n_ A_ M_ p_ = .inl (11, p_) := by rw [na_4 q1_ hq_ k46_ hr44_ k1r]; exact if_neg (fun z_ => by have := sb_.2.1.mpr z_; omega)
                refine ⟨?_, fun r_ hr_ => by rw [hp_] at hr_; cases hr_⟩
                rw [hp_]
                rcases e126_ with z_ | z_
                · exact absurd g44_.1 z_.1
                · exact ⟨z_.2.1, z_.2.2.trans p44_, by show (11 : Int) ≠ 0; decide⟩
        · have cx92_ : ¬ ((Sx49_.2.2.1 119 0 (Sx49_.1 13 0 9).toNat) = 1) := of_decide_eq_false cx92_
          refine sm_T_go 4 (c1 := (79, [some (.inr (.inr (some (13, 0)))), some (.inl (S0_.1 13 0 9)), some (.inl vx8_), some (.inl vx21_), none], [.inl (Sx49_.1 13 0 9), .inl 2, .inr (.inr (some (13, 0)))], Sx49_)) rfl ?_
          refine sm_T_cal (d1 := 0) (Q1 := vq_293 2 (Sx49_.1 13 0 9) Sx49_) rfl rfl (by decide) (vc_293 2 (Sx49_.1 13 0 9) Sx49_ hIx50_ (by decide) (by omega)) (fun u_ Sx111_ px114_ => ?_)
          obtain ⟨rfl, hIx112_, hFx113_, px114_⟩ := px114_
          have hFx115_ : ai_fr (sx_W vw_324) S0_ Sx111_ := ai_fr_tr hFx53_ (fr_le hFx113_ rfl)
          have ex116_ : Sx111_.1 13 0 9 = Sx49_.1 13 0 9 := hFx113_.1 13 0 9 rfl
          have e79_ := px114_
          refine sm_T_rv rfl ⟨_, _, rfl, rfl, hIx112_, hFx115_, ?_⟩
          cases hr44_ : p_ad b_ n_ q_ with
          | inl e_ =>
            have hp_ : p_na b_ n_ A_ M_ p_ = .inl e_ := na_3 q1_ hq_ k46_ hr44_
            refine ⟨?_, fun r_ hr_ => by rw [hp_] at hr_; cases hr_⟩
            rw [hp_]
            rw [hr44_] at g44_
            rcases e79_ with z_ | z_
            · exact rg_e2 g44_ z_.2.1 z_.2.2
            · exact absurd (g44_.1.symm.trans z_.1) g44_.2.2
          | inr r_ =>
            obtain ⟨j_, j1_, j2_, j3_, j4_⟩ := r44_ r_ hr44_
            have j5_ := r_st_3 (lx_kd_r j2_.2.2.1)
            have hp_ : p_na b_ n_ A_ M_ p_ = .inl (2, r_) := na_6 q1_ hq_ k46_ hr44_ (fun z_ => by have := j5_.2.1.mpr z_; omega) (fun z_ => by have := j5_.2.2.1.mpr z_; omega)
            refine ⟨?_, fun r_ hr_ => by rw [hp_] at hr_; cases hr_⟩
            rw [hp_]
            rw [hr44_] at g44_
            rcases e79_ with z_ | z_
            · exact absurd g44_.1 z_.1
            · exact ⟨z_.2.1.trans (if_neg (by rw [j3_]; exact j5_.2.2.2.2.2)), z_.2.2.trans j4_, by show (2 : Int) ≠ 0; decide⟩
  · have cx9_ : ¬ (vx8_ ≠ (-1)) := of_decide_eq_false cx9_
    refine sm_T_go 3 (c1 := (24, [some (.inr (.inr (some (13, 0)))), some (.inl (S0_.1 13 0 9)), some (.inl vx8_), none, none], [.inl (S0_.1 13 0 9), .inl 11, .inr (.inr (some (13, 0)))], S0_)) rfl ?_
    refine sm_T_cal (d1 := 0) (Q1 := vq_293 11 (S0_.1 13 0 9) S0_) rfl rfl (by decide) (vc_293 11 (S0_.1 13 0 9) S0_ hI_ (by decide) (by omega)) (fun u_ Sx117_ px120_ => ?_)
    obtain ⟨rfl, hIx118_, hFx119_, px120_⟩ := px120_
    have hFx121_ : ai_fr (sx_W vw_324) S0_ Sx117_ := ai_fr_tr hF_ (fr_le hFx119_ rfl)
    have ex122_ : Sx117_.1 13 0 28 = S0_.1 13 0 28 := hFx119_.1 13 0 28 rfl
    have ex123_ : Sx117_.1 13 0 9 = S0_.1 13 0 9 := hFx119_.1 13 0 9 rfl
    have e24_ := px120_
    refine sm_T_rv rfl ⟨_, _, rfl, rfl, hIx118_, hFx121_, ?_⟩
    have hp_ : p_na b_ n_ A_ M_ p_ = .inl (11, p_) := na_0 (by omega)
    refine ⟨?_, fun r_ hr_ => by rw [hp_] at hr_; cases hr_⟩
    rw [hp_]
    rcases e24_ with z_ | z_
    · exact absurd hf_ z_.1
    · refine ⟨z_.2.1.trans (if_neg ?_), ?_, by show (11 : Int) ≠ 0; decide⟩
      · rw [e4_, ra_.1]; exact rk_.2.2.2.2.2
      · rw [z_.2.2, e4_]; exact ra_.2.1
end
/-! 99.yda -/
section
/-! the reference: inputs of cells; written by wip/p55/gen/vg -/

/-! inputs of_ cells -/
theorem nm_q_2 {b_ : Nat → Int} {n_ p_ a_ c_ : Nat} (h1_ : nm_q b_ n_ a_ p_ = true) (h2_ : nm_q b_ n_ c_ p_ = true) : nm_q b_ n_ a_ c_ = true := by
  rw [nm_q_t] at h1_ h2_ ⊢
  exact ⟨h1_.1.trans h2_.1.symm, fun k_ hk_ => (h1_.2 k_ hk_).trans (h2_.2 k_ (by rw [h2_.1, ← h1_.1]; exact hk_)).symm⟩
def inr_ (b_ : Nat → Int) (n_ T_ K_ : Nat) (f_ : Nat → Nat) (S_ : sm_S) : Prop := S_.1 13 0 80 = (K_ : Int) ∧ K_ ≤ 3 ∧ (∀ j_, j_ < K_ → rtk b_ n_ T_ (S_.2.2.1 177 0 j_) (f_ j_)) ∧ ∀ i_ j_, i_ < j_ → j_ < K_ → nm_q b_ n_ (f_ i_) (f_ j_) = false
theorem fd_u {g_ : Nat → Bool} {k_ : Nat} (h_ : g_ k_ = true) (hu_ : ∀ i_, i_ < k_ → g_ i_ = false) : p_fd g_ (k_ + 1) = (k_ : Int) := by
  have h1_ : p_fd g_ k_ = -1 := by
    by_cases z_ : p_fd g_ k_ = -1
    · exact z_
    · exfalso
      have h2_ := p_fd_b (f_ := g_) k_
      obtain ⟨s_, hs_⟩ : ∃ s_ : Nat, p_fd g_ k_ = (s_ : Int) := ⟨(p_fd g_ k_).toNat, by omega⟩
      have h3_ := p_fd_f hs_
      rw [hu_ s_ h3_.2] at h3_
      exact absurd h3_.1 (by decide)
  rw [p_fd, if_pos h1_, if_pos h_]
theorem fd_n {g_ : Nat → Bool} {k_ : Nat} (h_ : g_ k_ = false) : p_fd g_ (k_ + 1) = p_fd g_ k_ := by
  rw [p_fd]
  split
  · rename_i z_
    rw [if_neg (by rw [h_]; decide), z_]
  · rfl
/-! M_.cellInput -/
def vw_327 : sx_Wl := ([(13, 9), (13, 10), (13, 11)], [138, 139], [])
def vq_327 (b_ : Nat → Int) (n_ : Nat) (T_ : Nat) (mo_ : Int) (p_ : Nat) (i_ : Nat) (gl_ : Nat) (K_ : Nat) (f_ : Nat → Nat) (S0_ : sm_S) (u_ : Option sm_V) (S1_ : sm_S) : Prop := u_ = none ∧ gi S1_ ∧ ai_fr (sx_W vw_327) S0_ S1_ ∧ (rg b_ n_ T_ (pb (p_pl b_ n_ K_ f_ p_) fun r_ => .inr r_.1) S1_ ∧ ∀ r_, p_pl b_ n_ K_ f_ p_ = .inr r_ → ∀ l_ : List Int, l_.length = gl_ → stk (fun j_ => S0_.2.2.1 139 0 (8 * j_)) l_ → stk (fun j_ => S1_.2.2.1 139 0 (8 * j_)) (r_.2.1 :: l_))
set_option maxHeartbeats 1500000 in
theorem vl_327 {sc_ : Nat × (Nat → Int)} (b_ : Nat → Int) (n_ : Nat) (T_ : Nat) (mo_ : Int) (p_ : Nat) (i_ : Nat) (gl_ : Nat) (K_ : Nat) (f_ : Nat → Nat) (S0_ : sm_S) (ht_ : rtab b_ n_ T_ S0_) (hf_ : (S0_.1 13 0 10) = 0) (hi_ : (S0_.1 13 0 9) = (i_ : Int) ∧ rp b_ n_ T_ i_ p_) (hv_ : (S0_.1 13 0 34) = (gl_ : Int) ∧ gl_ ≤ 1000) (hmo_ : (S0_.1 13 0 27) = mo_) (hw_ : (S0_.1 13 0 32) ≤ 800) (hr_ : inr_ b_ n_ T_ K_ f_ S0_) : ∀ nn_ : Nat, (∀ (k_ : Int) (i2_ : Int) (S_ : sm_S), gi S_ → ai_fr (sx_W vw_327) S0_ S_ → ((0 ≤ i2_ ∧ i2_ ≤ (K_ : Int)) ∧ (k_ = p_fd (fun s_ => nm_q b_ n_ (f_ s_) p_) i2_.toNat) ∧ (lx_kd b_ n_ p_ = 1) ∧ (S_ = S0_) ∧ True) → (((K_ : Int) - i2_).toNat) < nn_ → sm_T (mt_P sc_) 3 327 (27, [some (.inr (.inr (some (13, 0)))), some (.inl k_), some (.inl i2_)], [], S_) (fun r_ => ∃ u_ S1_, r_ = (.inl u_, S1_, 0) ∧ vq_327 b_ n_ T_ mo_ p_ i_ gl_ K_ f_ S0_ u_ S1_)) := by
  intro nn_
  induction nn_ with
  | zero => exact fun _ _ _ _ _ _ h_ => absurd h_ (Nat.not_lt_zero _)
  | succ nn_ ih_ =>
    rintro k_ i2_ S_ hI_ hF_ ⟨h0_, h1_, h9_, hS_, -⟩ hm_
    have ht1_ : rtab b_ n_ T_ S_ := by rw [hS_]; exact ht_
    have hx_ : rg b_ n_ T_ (.inr p_) S0_ := ⟨hf_, i_, hi_.1, hi_.2⟩
    have hi9_ := hi_.2.1
    have hT_ := ht_.2.1
    have ra_ := rp_at ht_ hi_.2
    have rk_ := r_st_3 (lx_kd_r hi_.2.2.2.1)
    have e4_ : (S0_.1 13 0 9).toNat = i_ := by omega
    have hK_ : S_.1 13 0 80 = (K_ : Int) := by rw [hS_]; exact hr_.1
    have hK3_ := hr_.2.1
    have fdb_ := p_fd_b (f_ := fun s_ => nm_q b_ n_ (f_ s_) p_) i2_.toNat
    have hat_ : S_.1 13 0 9 = (i_ : Int) := by rw [hS_]; exact hi_.1
    have hvl_ : S_.1 13 0 34 = (gl_ : Int) := by rw [hS_]; exact hv_.1
    have eK_ : ¬ i2_ < (K_ : Int) → i2_.toNat = K_ := fun z_ => by omega
    have bx1_ : 0 ≤ S_.1 13 0 80 ∧ S_.1 13 0 80 ≤ 3 := hI_.1 13 0 80 rfl
    refine sm_T_go 3 (c1 := (32, [some (.inr (.inr (some (13, 0)))), some (.inl k_), some (.inl i2_)], [.inl (S_.1 13 0 80), .inl i2_], S_)) rfl ?_
    refine sm_T_br (a := 3) (z := 32) rfl (fun cx2_ => ?_) (fun cx2_ => ?_)
    · have cx2_ : (S_.1 13 0 80) ≤ i2_ := of_decide_eq_true cx2_
      have eK2_ : i2_.toNat = K_ := by omega
      rw [eK2_] at h1_ fdb_
      refine sm_T_go 2 (c1 := (66, [some (.inr (.inr (some (13, 0)))), some (.inl k_), some (.inl i2_)], [.inl (-1), .inl k_], S_)) rfl ?_
      refine sm_T_br (a := 1) (z := 14) rfl (fun cx3_ => ?_) (fun cx3_ => ?_)
      · have cx3_ : k_ ≠ (-1) := of_decide_eq_true cx3_
        have bx4_ : 0 ≤ S_.1 13 0 34 ∧ S_.1 13 0 34 ≤ 1023 := hI_.1 13 0 34 rfl
        refine sm_T_go 5 (c1 := (90, [some (.inr (.inr (some (13, 0)))), some (.inl k_), some (.inl i2_)], [.inl (S_.1 13 0 34), .inl 8, .inr (.inr (some (139, 0)))], S_)) rfl ?_
        refine sm_T_bin (w := 8 * (S_.1 13 0 34)) rfl (bi_mul (by omega) (by omega) (by omega)) ?_
        refine sm_T_go 1 (c1 := (92, [some (.inr (.inr (some (13, 0)))), some (.inl k_), some (.inl i2_)], [.inl k_, .inl (8 * (S_.1 13 0 34)), .inr (.inr (some (139, 0)))], S_)) rfl ?_
        refine sm_T_b0 (a := 1) (z := 9) rfl (fun cx5_ => ?_) (fun cx5_ => ?_)
        · have cx5_ : k_ ≠ 0 := of_decide_eq_true cx5_
          refine sm_T_go 2 (c1 := (103, [some (.inr (.inr (some (13, 0)))), some (.inl k_), some (.inl i2_)], [.inl 1, .inl k_, .inl (8 * (S_.1 13 0 34)), .inr (.inr (some (139, 0)))], S_)) rfl ?_
          refine sm_T_br (a := 1) (z := 9) rfl (fun cx6_ => ?_) (fun cx6_ => ?_)
          · have cx6_ : k_ ≠ 1 := of_decide_eq_true cx6_
            refine sm_T_go 1 (c1 := (115, [some (.inr (.inr (some (13, 0)))), some (.inl k_), some (.inl i2_)], [.inl 240, .inl (8 * (S_.1 13 0 34)), .inr (.inr (some (139, 0)))], S_)) rfl ?_
            refine sm_T_iast (n := 8192) rfl rfl (by omega) (by omega) ?_
            have hIx7_ : gi (sm_aI S_ 139 0 (8 * (S_.1 13 0 34)).toNat 240) := gi_aI hI_ (show 0 ≤ 240 ∧ 240 ≤ 2047 from ⟨by omega, by omega⟩)
            have hFx8_ : ai_fr (sx_W vw_327) S0_ (sm_aI S_ 139 0 (8 * (S_.1 13 0 34)).toNat 240) := ai_fr_tr hF_ (ai_fr_aI rfl)
            refine sm_T_go 5 (c1 := (125, [some (.inr (.inr (some (13, 0)))), some (.inl k_), some (.inl i2_)], [.inl 1, .inl (S_.1 13 0 34), .inr (.inr (some (138, 0)))], sm_aI S_ 139 0 (8 * (S_.1 13 0 34)).toNat 240)) rfl ?_
            refine sm_T_iast (n := 1024) rfl rfl (by omega) (by omega) ?_
            have hIx9_ : gi (sm_aI (sm_aI S_ 139 0 (8 * (S_.1 13 0 34)).toNat 240) 138 0 (S_.1 13 0 34).toNat 1) := gi_aI hIx7_ (show (-2147483648) ≤ 1 ∧ 1 ≤ 2147483647 from ⟨by omega, by omega⟩)
            have hFx10_ : ai_fr (sx_W vw_327) S0_ (sm_aI (sm_aI S_ 139 0 (8 * (S_.1 13 0 34)).toNat 240) 138 0 (S_.1 13 0 34).toNat 1) := ai_fr_tr hFx8_ (ai_fr_aI rfl)
            refine sm_T_go 1 (c1 := (127, [some (.inr (.inr (some (13, 0)))), some (.inl k_), some (.inl i2_)], [.inr (.inr (some (13, 0)))], sm_aI (sm_aI S_ 139 0 (8 * (S_.1 13 0 34)).toNat 240) 138 0 (S_.1 13 0 34).toNat 1)) rfl ?_
            refine sm_T_cal (d1 := 2) (Q1 := vq_297 b_ n_ T_ (.inr p_) (sm_aI (sm_aI S_ 139 0 (8 * (S_.1 13 0 34)).toNat 240) 138 0 (S_.1 13 0 34).toNat 1)) rfl rfl (by decide) (vc_297 b_ n_ T_ (.inr p_) (sm_aI (sm_aI S_ 139 0 (8 * (S_.1 13 0 34)).toNat 240) 138 0 (S_.1 13 0 34).toNat 1) hIx9_ (by exact rtab_fr ht_ hFx10_ rfl rfl rfl rfl rfl) (by (rw [hS_]; exact hx_)) (by (intro q_ e_; cases e_; omega))) (fun u_ Sx11_ px14_ => ?_)
            obtain ⟨rfl, hIx12_, hFx13_, px14_⟩ := px14_
            have hFx15_ : ai_fr (sx_W vw_327) S0_ Sx11_ := ai_fr_tr hFx10_ (fr_le hFx13_ rfl)
            have g127_ := px14_.1
            rw [pb_r rfl] at g127_
            have l127_ := fr_arr (t := 139) (i := 0) hFx13_ rfl
            refine sm_T_rv rfl ⟨_, _, rfl, rfl, hIx12_, hFx15_, ?_⟩
            subst hS_
            have hp_ : p_pl b_ n_ K_ f_ p_ = pb (p_ad b_ n_ p_) fun q_ => .inr (q_, if p_fd (fun s_ => nm_q b_ n_ (f_ s_) p_) K_ = 0 then 170 else if p_fd (fun s_ => nm_q b_ n_ (f_ s_) p_) K_ = 1 then 204 else 240, []) := by unfold p_pl; rw [if_pos h9_, if_neg (by omega)]
            refine ⟨?_, fun r_ hr_ l_ hl_ hs_ => ?_⟩
            · rw [hp_]
              cases hq_ : p_ad b_ n_ p_ with
              | inl e_ => rw [hq_] at g127_; exact g127_
              | inr q_ => rw [hq_] at g127_; exact g127_
            · rw [hp_] at hr_
              obtain ⟨q_, z1_, z2_⟩ := pb_inr hr_
              cases z2_
              rw [l127_]
              refine stk_8o (stk_8p (by omega) ?_ hs_) (by decide)
              first | (rw [if_pos (by omega)]) | (rw [if_neg (by omega), if_pos (by omega)]) | (rw [if_neg (by omega), if_neg (by omega)])
          · have cx6_ : ¬ (k_ ≠ 1) := of_decide_eq_false cx6_
            refine sm_T_go 2 (c1 := (115, [some (.inr (.inr (some (13, 0)))), some (.inl k_), some (.inl i2_)], [.inl 204, .inl (8 * (S_.1 13 0 34)), .inr (.inr (some (139, 0)))], S_)) rfl ?_
            refine sm_T_iast (n := 8192) rfl rfl (by omega) (by omega) ?_
            have hIx16_ : gi (sm_aI S_ 139 0 (8 * (S_.1 13 0 34)).toNat 204) := gi_aI hI_ (show 0 ≤ 204 ∧ 204 ≤ 2047 from ⟨by omega, by omega⟩)
            have hFx17_ : ai_fr (sx_W vw_327) S0_ (sm_aI S_ 139 0 (8 * (S_.1 13 0 34)).toNat 204) := ai_fr_tr hF_ (ai_fr_aI rfl)
            refine sm_T_go 5 (c1 := (125, [some (.inr (.inr (some (13, 0)))), some (.inl k_), some (.inl i2_)], [.inl 1, .inl (S_.1 13 0 34), .inr (.inr (some (138, 0)))], sm_aI S_ 139 0 (8 * (S_.1 13 0 34)).toNat 204)) rfl ?_
            refine sm_T_iast (n := 1024) rfl rfl (by omega) (by omega) ?_
            have hIx18_ : gi (sm_aI (sm_aI S_ 139 0 (8 * (S_.1 13 0 34)).toNat 204) 138 0 (S_.1 13 0 34).toNat 1) := gi_aI hIx16_ (show (-2147483648) ≤ 1 ∧ 1 ≤ 2147483647 from ⟨by omega, by omega⟩)
            have hFx19_ : ai_fr (sx_W vw_327) S0_ (sm_aI (sm_aI S_ 139 0 (8 * (S_.1 13 0 34)).toNat 204) 138 0 (S_.1 13 0 34).toNat 1) := ai_fr_tr hFx17_ (ai_fr_aI rfl)
            refine sm_T_go 1 (c1 := (127, [some (.inr (.inr (some (13, 0)))), some (.inl k_), some (.inl i2_)], [.inr (.inr (some (13, 0)))], sm_aI (sm_aI S_ 139 0 (8 * (S_.1 13 0 34)).toNat 204) 138 0 (S_.1 13 0 34).toNat 1)) rfl ?_
            refine sm_T_cal (d1 := 2) (Q1 := vq_297 b_ n_ T_ (.inr p_) (sm_aI (sm_aI S_ 139 0 (8 * (S_.1 13 0 34)).toNat 204) 138 0 (S_.1 13 0 34).toNat 1)) rfl rfl (by decide) (vc_297 b_ n_ T_ (.inr p_) (sm_aI (sm_aI S_ 139 0 (8 * (S_.1 13 0 34)).toNat 204) 138 0 (S_.1 13 0 34).toNat 1) hIx18_ (by exact rtab_fr ht_ hFx19_ rfl rfl rfl rfl rfl) (by (rw [hS_]; exact hx_)) (by (intro q_ e_; cases e_; omega))) (fun u_ Sx20_ px23_ => ?_)
            obtain ⟨rfl, hIx21_, hFx22_, px23_⟩ := px23_
            have hFx24_ : ai_fr (sx_W vw_327) S0_ Sx20_ := ai_fr_tr hFx19_ (fr_le hFx22_ rfl)
            have g127_ := px23_.1
            rw [pb_r rfl] at g127_
            have l127_ := fr_arr (t := 139) (i := 0) hFx22_ rfl
            refine sm_T_rv rfl ⟨_, _, rfl, rfl, hIx21_, hFx24_, ?_⟩
            subst hS_
            have hp_ : p_pl b_ n_ K_ f_ p_ = pb (p_ad b_ n_ p_) fun q_ => .inr (q_, if p_fd (fun s_ => nm_q b_ n_ (f_ s_) p_) K_ = 0 then 170 else if p_fd (fun s_ => nm_q b_ n_ (f_ s_) p_) K_ = 1 then 204 else 240, []) := by unfold p_pl; rw [if_pos h9_, if_neg (by omega)]
            refine ⟨?_, fun r_ hr_ l_ hl_ hs_ => ?_⟩
            · rw [hp_]
              cases hq_ : p_ad b_ n_ p_ with
              | inl e_ => rw [hq_] at g127_; exact g127_
              | inr q_ => rw [hq_] at g127_; exact g127_
            · rw [hp_] at hr_
              obtain ⟨q_, z1_, z2_⟩ := pb_inr hr_
              cases z2_
              rw [l127_]
              refine stk_8o (stk_8p (by omega) ?_ hs_) (by decide)
              first | (rw [if_pos (by omega)]) | (rw [if_neg (by omega), if_pos (by omega)]) | (rw [if_neg (by omega), if_neg (by omega)])
        · have cx5_ : ¬ (k_ ≠ 0) := of_decide_eq_false cx5_
          refine sm_T_go 2 (c1 := (115, [some (.inr (.inr (some (13, 0)))), some (.inl k_), some (.inl i2_)], [.inl 170, .inl (8 * (S_.1 13 0 34)), .inr (.inr (some (139, 0)))], S_)) rfl ?_
          refine sm_T_iast (n := 8192) rfl rfl (by omega) (by omega) ?_
          have hIx25_ : gi (sm_aI S_ 139 0 (8 * (S_.1 13 0 34)).toNat 170) := gi_aI hI_ (show 0 ≤ 170 ∧ 170 ≤ 2047 from ⟨by omega, by omega⟩)
          have hFx26_ : ai_fr (sx_W vw_327) S0_ (sm_aI S_ 139 0 (8 * (S_.1 13 0 34)).toNat 170) := ai_fr_tr hF_ (ai_fr_aI rfl)
          refine sm_T_go 5 (c1 := (125, [some (.inr (.inr (some (13, 0)))), some (.inl k_), some (.inl i2_)], [.inl 1, .inl (S_.1 13 0 34), .inr (.inr (some (138, 0)))], sm_aI S_ 139 0 (8 * (S_.1 13 0 34)).toNat 170)) rfl ?_
          refine sm_T_iast (n := 1024) rfl rfl (by omega) (by omega) ?_
          have hIx27_ : gi (sm_aI (sm_aI S_ 139 0 (8 * (S_.1 13 0 34)).toNat 170) 138 0 (S_.1 13 0 34).toNat 1) := gi_aI hIx25_ (show (-2147483648) ≤ 1 ∧ 1 ≤ 2147483647 from ⟨by omega, by omega⟩)
          have hFx28_ : ai_fr (sx_W vw_327) S0_ (sm_aI (sm_aI S_ 139 0 (8 * (S_.1 13 0 34)).toNat 170) 138 0 (S_.1 13 0 34).toNat 1) := ai_fr_tr hFx26_ (ai_fr_aI rfl)
          refine sm_T_go 1 (c1 := (127, [some (.inr (.inr (some (13, 0)))), some (.inl k_), some (.inl i2_)], [.inr (.inr (some (13, 0)))], sm_aI (sm_aI S_ 139 0 (8 * (S_.1 13 0 34)).toNat 170) 138 0 (S_.1 13 0 34).toNat 1)) rfl ?_
          refine sm_T_cal (d1 := 2) (Q1 := vq_297 b_ n_ T_ (.inr p_) (sm_aI (sm_aI S_ 139 0 (8 * (S_.1 13 0 34)).toNat 170) 138 0 (S_.1 13 0 34).toNat 1)) rfl rfl (by decide) (vc_297 b_ n_ T_ (.inr p_) (sm_aI (sm_aI S_ 139 0 (8 * (S_.1 13 0 34)).toNat 170) 138 0 (S_.1 13 0 34).toNat 1) hIx27_ (by exact rtab_fr ht_ hFx28_ rfl rfl rfl rfl rfl) (by (rw [hS_]; exact hx_)) (by (intro q_ e_; cases e_; omega))) (fun u_ Sx29_ px32_ => ?_)
          obtain ⟨rfl, hIx30_, hFx31_, px32_⟩ := px32_
          have hFx33_ : ai_fr (sx_W vw_327) S0_ Sx29_ := ai_fr_tr hFx28_ (fr_le hFx31_ rfl)
          have g127_ := px32_.1
          rw [pb_r rfl] at g127_
          have l127_ := fr_arr (t := 139) (i := 0) hFx31_ rfl
          refine sm_T_rv rfl ⟨_, _, rfl, rfl, hIx30_, hFx33_, ?_⟩
          subst hS_
          have hp_ : p_pl b_ n_ K_ f_ p_ = pb (p_ad b_ n_ p_) fun q_ => .inr (q_, if p_fd (fun s_ => nm_q b_ n_ (f_ s_) p_) K_ = 0 then 170 else if p_fd (fun s_ => nm_q b_ n_ (f_ s_) p_) K_ = 1 then 204 else 240, []) := by unfold p_pl; rw [if_pos h9_, if_neg (by omega)]
          refine ⟨?_, fun r_ hr_ l_ hl_ hs_ => ?_⟩
          · rw [hp_]
            cases hq_ : p_ad b_ n_ p_ with
            | inl e_ => rw [hq_] at g127_; exact g127_
            | inr q_ => rw [hq_] at g127_; exact g127_
          · rw [hp_] at hr_
            obtain ⟨q_, z1_, z2_⟩ := pb_inr hr_
            cases z2_
            rw [l127_]
            refine stk_8o (stk_8p (by omega) ?_ hs_) (by decide)
            first | (rw [if_pos (by omega)]) | (rw [if_neg (by omega), if_pos (by omega)]) | (rw [if_neg (by omega), if_neg (by omega)])
      · have cx3_ : ¬ (k_ ≠ (-1)) := of_decide_eq_false cx3_
        have bx34_ : 0 ≤ S_.1 13 0 9 ∧ S_.1 13 0 9 ≤ 1280 := hI_.1 13 0 9 rfl
        refine sm_T_go 4 (c1 := (76, [some (.inr (.inr (some (13, 0)))), some (.inl k_), some (.inl i2_)], [.inl (S_.1 13 0 9), .inl 11, .inr (.inr (some (13, 0)))], S_)) rfl ?_
        refine sm_T_cal (d1 := 0) (Q1 := vq_293 11 (S_.1 13 0 9) S_) rfl rfl (by decide) (vc_293 11 (S_.1 13 0 9) S_ hI_ (by decide) (by omega)) (fun u_ Sx35_ px38_ => ?_)
        obtain ⟨rfl, hIx36_, hFx37_, px38_⟩ := px38_
        have hFx39_ : ai_fr (sx_W vw_327) S0_ Sx35_ := ai_fr_tr hF_ (fr_le hFx37_ rfl)
        have ex40_ : Sx35_.1 13 0 80 = S_.1 13 0 80 := hFx37_.1 13 0 80 rfl
        have ex41_ : Sx35_.1 13 0 9 = S_.1 13 0 9 := hFx37_.1 13 0 9 rfl
        have e76_ := px38_
        refine sm_T_rv rfl ⟨_, _, rfl, rfl, hIx36_, hFx39_, ?_⟩
        have hp_ : p_pl b_ n_ K_ f_ p_ = .inl (11, p_) := by unfold p_pl; rw [if_pos h9_, if_pos (by omega)]
        refine ⟨?_, fun r_ hr_ => by rw [hp_] at hr_; cases hr_⟩
        rw [hp_]
        rw [hS_] at e76_
        rcases e76_ with z_ | z_
        · exact absurd hf_ z_.1
        · refine ⟨z_.2.1.trans (if_neg ?_), ?_, by show (11 : Int) ≠ 0; decide⟩
          · rw [e4_, ra_.1]; exact rk_.2.2.2.2.2
          · rw [z_.2.2, e4_]; exact ra_.2.1
    · have cx2_ : ¬ ((S_.1 13 0 80) ≤ i2_) := of_decide_eq_false cx2_
      refine sm_T_go 4 (c1 := (41, [some (.inr (.inr (some (13, 0)))), some (.inl k_), some (.inl i2_)], [.inl i2_, .inr (.inr (some (177, 0))), .inr (.inr (some (13, 0)))], S_)) rfl ?_
      refine sm_T_iald (n := 3) rfl rfl (by omega) (by omega) ?_
      have bx42_ : 0 ≤ S_.2.2.1 177 0 i2_.toNat ∧ S_.2.2.1 177 0 i2_.toNat ≤ 1280 := hI_.2 177 0 _
      have bx43_ : 0 ≤ S_.1 13 0 9 ∧ S_.1 13 0 9 ≤ 1280 := hI_.1 13 0 9 rfl
      refine sm_T_go 2 (c1 := (46, [some (.inr (.inr (some (13, 0)))), some (.inl k_), some (.inl i2_)], [.inl (S_.1 13 0 9), .inl (S_.2.2.1 177 0 i2_.toNat), .inr (.inr (some (13, 0)))], S_)) rfl ?_
      refine sm_T_cal (d1 := 0) (Q1 := vq_301 (S_.2.2.1 177 0 i2_.toNat) (S_.1 13 0 9) b_ n_ T_ (f_ i2_.toNat) p_ S_) rfl rfl (by decide) (vc_301 (S_.2.2.1 177 0 i2_.toNat) (S_.1 13 0 9) b_ n_ T_ (f_ i2_.toNat) p_ S_ hI_ (by exact ht1_) (by rw [hS_]; exact hr_.2.2.1 i2_.toNat (by omega)) (by rw [hS_, hi_.1]; exact (rp_rtk ht_ hi_.2 h9_).1)) (fun u_ Sx44_ px47_ => ?_)
      obtain ⟨rfl, vx49_, rfl, px47_⟩ := px47_
      have e46_ := px47_
      refine sm_T_b0 (a := 0) (z := 7) rfl (fun cx50_ => ?_) (fun cx50_ => ?_)
      · have cx50_ : vx49_ = 0 := of_decide_eq_true cx50_
        refine sm_T_go 2 (c1 := (58, [some (.inr (.inr (some (13, 0)))), some (.inl k_), some (.inl i2_)], [], S_)) rfl ?_
        refine sm_T_inc (a := 2) (z := 1) (v := i2_) (w := i2_ + 1) rfl rfl (by omega) (by omega) (by omega) ?_
        refine sm_T_go 1 (c1 := (27, [some (.inr (.inr (some (13, 0)))), some (.inl k_), some (.inl (i2_ + 1))], [], S_)) rfl ?_
        refine ih_ k_ (i2_ + 1) S_ hI_ hF_ ⟨?_, ?_, ?_, ?_, trivial⟩ ?_
        · omega
        · rw [show (i2_ + 1).toNat = i2_.toNat + 1 by omega]
          by_cases g_ : nm_q b_ n_ (f_ i2_.toNat) p_ = true
          · rw [if_pos g_] at e46_
            first | (exfalso; omega) | (rw [fd_u (g_ := fun s_ => nm_q b_ n_ (f_ s_) p_) g_ (fun j_ hj_ => (by by_cases z_ : nm_q b_ n_ (f_ j_) p_ = true; (exact absurd (nm_q_2 z_ g_) (by rw [hr_.2.2.2 j_ i2_.toNat hj_ (by omega)]; decide)); (exact Bool.eq_false_iff.mpr z_)))]; omega)
          · rw [if_neg g_] at e46_
            first | (exfalso; omega) | (rw [fd_n (g_ := fun s_ => nm_q b_ n_ (f_ s_) p_) (Bool.eq_false_iff.mpr g_)]; exact h1_)
        · exact h9_
        · exact hS_
        · omega
      · have cx50_ : ¬ (vx49_ = 0) := of_decide_eq_false cx50_
        refine sm_T_go 3 (c1 := (58, [some (.inr (.inr (some (13, 0)))), some (.inl i2_), some (.inl i2_)], [], S_)) rfl ?_
        refine sm_T_inc (a := 2) (z := 1) (v := i2_) (w := i2_ + 1) rfl rfl (by omega) (by omega) (by omega) ?_
        refine sm_T_go 1 (c1 := (27, [some (.inr (.inr (some (13, 0)))), some (.inl i2_), some (.inl (i2_ + 1))], [], S_)) rfl ?_
        refine ih_ i2_ (i2_ + 1) S_ hI_ hF_ ⟨?_, ?_, ?_, ?_, trivial⟩ ?_
        · omega
        · rw [show (i2_ + 1).toNat = i2_.toNat + 1 by omega]
          by_cases g_ : nm_q b_ n_ (f_ i2_.toNat) p_ = true
          · rw [if_pos g_] at e46_
            first | (exfalso; omega) | (rw [fd_u (g_ := fun s_ => nm_q b_ n_ (f_ s_) p_) g_ (fun j_ hj_ => (by by_cases z_ : nm_q b_ n_ (f_ j_) p_ = true; (exact absurd (nm_q_2 z_ g_) (by rw [hr_.2.2.2 j_ i2_.toNat hj_ (by omega)]; decide)); (exact Bool.eq_false_iff.mpr z_)))]; omega)
          · rw [if_neg g_] at e46_
            first | (exfalso; omega) | (rw [fd_n (g_ := fun s_ => nm_q b_ n_ (f_ s_) p_) (Bool.eq_false_iff.mpr g_)]; exact h1_)
        · exact h9_
        · exact hS_
        · omega
set_option maxHeartbeats 1500000 in
theorem vc_327 {sc_ : Nat × (Nat → Int)} (b_ : Nat → Int) (n_ : Nat) (T_ : Nat) (mo_ : Int) (p_ : Nat) (i_ : Nat) (gl_ : Nat) (K_ : Nat) (f_ : Nat → Nat) (S0_ : sm_S) (hI_ : gi S0_) (ht_ : rtab b_ n_ T_ S0_) (hf_ : (S0_.1 13 0 10) = 0) (hi_ : (S0_.1 13 0 9) = (i_ : Int) ∧ rp b_ n_ T_ i_ p_) (hv_ : (S0_.1 13 0 34) = (gl_ : Int) ∧ gl_ ≤ 1000) (hmo_ : (S0_.1 13 0 27) = mo_) (hw_ : (S0_.1 13 0 32) ≤ 800) (hr_ : inr_ b_ n_ T_ K_ f_ S0_) : sm_T (mt_P sc_) 3 327 (0, [some (.inr (.inr (some (13, 0)))), none, none], [], S0_) (fun r_ => ∃ u_ S1_, r_ = (.inl u_, S1_, 0) ∧ vq_327 b_ n_ T_ mo_ p_ i_ gl_ K_ f_ S0_ u_ S1_) := by
  have hF_ : ai_fr (sx_W vw_327) S0_ S0_ := ai_fr_rf
  have hx_ : rg b_ n_ T_ (.inr p_) S0_ := ⟨hf_, i_, hi_.1, hi_.2⟩
  have hi9_ := hi_.2.1
  have hT_ := ht_.2.1
  have ra_ := rp_at ht_ hi_.2
  have rk_ := r_st_3 (lx_kd_r hi_.2.2.2.1)
  have e4_ : (S0_.1 13 0 9).toNat = i_ := by omega
  have so4_ : S0_.2.2.1 119 0 (S0_.1 13 0 9).toNat = r_st (lx_kd b_ n_ p_) := by rw [e4_]; exact ra_.1
  have bx1_ : 0 ≤ S0_.1 13 0 9 ∧ S0_.1 13 0 9 ≤ 1280 := hI_.1 13 0 9 rfl
  refine sm_T_go 4 (c1 := (8, [some (.inr (.inr (some (13, 0)))), none, none], [.inl (S0_.1 13 0 9), .inr (.inr (some (119, 0)))], S0_)) rfl ?_
  refine sm_T_bald (n := 65537) rfl rfl (by omega) (by omega) ?_
  have bx2_ : (-128) ≤ S0_.2.2.1 119 0 (S0_.1 13 0 9).toNat ∧ S0_.2.2.1 119 0 (S0_.1 13 0 9).toNat ≤ 127 := hI_.2 119 0 _
  refine sm_T_go 1 (c1 := (10, [some (.inr (.inr (some (13, 0)))), none, none], [.inl 1, .inl (S0_.2.2.1 119 0 (S0_.1 13 0 9).toNat)], S0_)) rfl ?_
  refine sm_T_br (a := 0) (z := 13) rfl (fun cx3_ => ?_) (fun cx3_ => ?_)
  · have cx3_ : (S0_.2.2.1 119 0 (S0_.1 13 0 9).toNat) = 1 := of_decide_eq_true cx3_
    refine sm_T_go 4 (c1 := (27, [some (.inr (.inr (some (13, 0)))), some (.inl (-1)), some (.inl 0)], [], S0_)) rfl ?_
    refine (vl_327 b_ n_ T_ mo_ p_ i_ gl_ K_ f_ S0_ ht_ hf_ hi_ hv_ hmo_ hw_ hr_ _) (-1) 0 S0_ hI_ hF_ ⟨?_, ?_, ?_, ?_, trivial⟩ (Nat.lt_succ_self _)
    · (have := hr_.2.1); omega
    · rfl
    · exact rk_.2.1.mp (by omega)
    · rfl
  · have cx3_ : ¬ ((S0_.2.2.1 119 0 (S0_.1 13 0 9).toNat) = 1) := of_decide_eq_false cx3_
    refine sm_T_go 4 (c1 := (19, [some (.inr (.inr (some (13, 0)))), none, none], [.inl (S0_.1 13 0 9), .inl 2, .inr (.inr (some (13, 0)))], S0_)) rfl ?_
    refine sm_T_cal (d1 := 0) (Q1 := vq_293 2 (S0_.1 13 0 9) S0_) rfl rfl (by decide) (vc_293 2 (S0_.1 13 0 9) S0_ hI_ (by decide) (by omega)) (fun u_ Sx4_ px7_ => ?_)
    obtain ⟨rfl, hIx5_, hFx6_, px7_⟩ := px7_
    have hFx8_ : ai_fr (sx_W vw_327) S0_ Sx4_ := ai_fr_tr hF_ (fr_le hFx6_ rfl)
    have ex9_ : Sx4_.1 13 0 9 = S0_.1 13 0 9 := hFx6_.1 13 0 9 rfl
    have e19_ := px7_
    refine sm_T_rv rfl ⟨_, _, rfl, rfl, hIx5_, hFx8_, ?_⟩
    have hp_ : p_pl b_ n_ K_ f_ p_ = .inl (2, p_) := if_neg (fun z_ => by have := rk_.2.1.mpr z_; omega)
    refine ⟨?_, fun r_ hr_ => by rw [hp_] at hr_; cases hr_⟩
    rw [hp_]
    rcases e19_ with z_ | z_
    · exact absurd hf_ z_.1
    · refine ⟨z_.2.1.trans (if_neg ?_), ?_, by show (2 : Int) ≠ 0; decide⟩
      · rw [e4_, ra_.1]; exact rk_.2.2.2.2.2
      · rw [z_.2.2, e4_]; exact ra_.2.1
end
/-! 99.yea -/
section
/-! the reference: operands; written by wip/p55/gen/vg -/

/-! operands -/
theorem wl_op {b_ : Nat → Int} {n_ T_ i_ p_ : Nat} {t_ : Bool} {o_ : List (Int × Nat)} {w_ : List (Int × Int)} (h_ : wt b_ n_ T_ t_ o_ w_) (hp_ : rtp b_ n_ T_ (i_ : Int) p_) : wl b_ n_ T_ ((if t_ = true then -2 else -1, p_) :: o_) ((40, (i_ : Int)) :: w_) := by
  refine ⟨(i_ : Int), w_, ?_, hp_, ?_⟩
  · cases t_ <;> rfl
  · rcases h_ with ⟨h1_, h2_⟩ | ⟨u_, h1_, h2_⟩
    · subst h1_
      exact Or.inl ⟨by decide, h2_⟩
    · right
      refine ⟨by cases t_ <;> decide, u_, ?_, h2_⟩
      rw [h1_]
      cases t_ <;> rfl
theorem ws_top {z_ : Int} {y_ : Int × Int} {u_ : List (Int × Int)} {k_ : Nat} {S_ : sm_S} (h_ : ws (y_ :: u_) S_) (hk_ : k_ = u_.length) : ws ((y_.1, z_) :: u_) (sm_aI S_ 137 0 k_ z_) := by
  refine ⟨h_.1, ?_, ?_⟩
  · exact stk_ot h_.2.1 (by decide)
  · exact stk_pu (by rw [List.length_map]; exact hk_) rfl h_.2.2.2
theorem rp_rtp {b_ : Nat → Int} {n_ T_ i_ p_ : Nat} {S_ : sm_S} (ht_ : rtab b_ n_ T_ S_) (h_ : rp b_ n_ T_ i_ p_) (hk_ : lx_kd b_ n_ p_ ≠ 0) : rtp b_ n_ T_ (i_ : Int) p_ := by
  have h1_ := rp_at ht_ h_
  have h2_ : p_ < n_ := by
    by_cases g_ : p_ < n_
    · exact g_
    · exfalso
      apply hk_
      rw [show p_ = n_ by have := h1_.2.2.2.1; omega]
      exact lx_kd_n
  exact ⟨i_, rfl, h1_.2.2.2.2.1.mpr h2_, h_.2.1, h2_⟩
def r_en (b_ : Nat → Int) (n_ T_ : Nat) (mo_ : Int) (A_ : pA) (M_ K_ : Nat) (f_ : Nat → Nat) (S_ : sm_S) : Prop := (mo_ = 0 → a_ok b_ n_ A_ M_ ∧ S_.1 13 0 28 = (M_ : Int) ∧ ∀ m_, m_ ≤ M_ → re1 b_ n_ T_ A_ m_ S_) ∧ (mo_ = 2 → inr_ b_ n_ T_ K_ f_ S_)
theorem vs_137 {mo_ z_ : Int} {k_ : Nat} {g_ : List Int} {S_ : sm_S} (h_ : vs mo_ g_ S_) : vs mo_ g_ (sm_aI S_ 137 0 k_ z_) := ⟨h_.1, fun q_ => stk_ot (h_.2.1 q_) (by decide), fun q_ => stk_8o (h_.2.2 q_) (by decide)⟩
theorem vs_pu {mo_ x_ : Int} {g_ : List Int} {S'_ : sm_S} (h0_ : S'_.1 13 0 34 = (g_.length : Int) + 1) (h1_ : mo_ ≠ 2 → stk (S'_.2.2.1 138 0) (x_ :: g_)) (h2_ : mo_ = 2 → stk (fun j_ => S'_.2.2.1 139 0 (8 * j_)) (x_ :: g_)) : vs mo_ (x_ :: g_) S'_ := ⟨by rw [h0_, List.length_cons]; push_cast; rfl, h1_, h2_⟩
theorem x1_b : i_xor 1 1 = 0 ∧ i_xor 0 1 = 1 := by decide +kernel
end
/-! 99.yeb -/
section
/-! M_.operand -/
def vw_319 : sx_Wl := ([(13, 9), (13, 10), (13, 11), (13, 32), (13, 33), (13, 34)], [136, 137, 138, 139], [])
def vq_319 (b_ : Nat → Int) (n_ : Nat) (T_ : Nat) (mo_ : Int) (t_ : Bool) (p_ : Nat) (o_ : List (Int × Nat)) (g_ : List Int) (c_ : List Int) (A_ : pA) (M_ : Nat) (K_ : Nat) (f_ : Nat → Nat) (S0_ : sm_S) (u_ : Option sm_V) (S1_ : sm_S) : Prop := ∃ v_ : Int, u_ = some (.inl v_) ∧ gi S1_ ∧ ai_fr (sx_W vw_319) S0_ S1_ ∧ ((∀ e_, p_st b_ n_ (mdo mo_) (p_pm b_ n_ (mdo mo_) A_ M_ K_ f_) (0, t_, p_, o_, g_, c_) = .inl e_ → rwr mo_ e_ S1_) ∧ ∀ y_, p_st b_ n_ (mdo mo_) (p_pm b_ n_ (mdo mo_) A_ M_ K_ f_) (0, t_, p_, o_, g_, c_) = .inr (.inl y_) → rx b_ n_ T_ mo_ y_.2.1 y_.1 y_.2.2.1 y_.2.2.2.1 y_.2.2.2.2.1 S1_ ∧ v_ = (y_.1 : Int))
set_option maxHeartbeats 3000000 in
theorem vc_319 {sc_ : Nat × (Nat → Int)} (b_ : Nat → Int) (n_ : Nat) (T_ : Nat) (mo_ : Int) (t_ : Bool) (p_ : Nat) (o_ : List (Int × Nat)) (g_ : List Int) (c_ : List Int) (A_ : pA) (M_ : Nat) (K_ : Nat) (f_ : Nat → Nat) (S0_ : sm_S) (hI_ : gi S0_) (ht_ : rtab b_ n_ T_ S0_) (hx_ : rx b_ n_ T_ mo_ t_ 0 p_ o_ g_ S0_) (hok_ : x_ok b_ n_ (mdo mo_) (0, t_, p_, o_, g_, c_)) (hmo_ : mo_ = 0 ∨ mo_ = 2) (hen_ : r_en b_ n_ T_ mo_ A_ M_ K_ f_ S0_) (hprk : pr_ok b_ n_ (p_pm b_ n_ (mdo mo_) A_ M_ K_ f_)) : sm_T (mt_P sc_) 6 319 (0, [some (.inr (.inr (some (13, 0))))], [], S0_) (fun r_ => ∃ u_ S1_, r_ = (.inl u_, S1_, 0) ∧ vq_319 b_ n_ T_ mo_ t_ p_ o_ g_ c_ A_ M_ K_ f_ S0_ u_ S1_) := by
  have hF_ : ai_fr (sx_W vw_319) S0_ S0_ := ai_fr_rf
  obtain ⟨hg_, ⟨w0_, hw_, hwt_⟩, hop_, hv_, hmo1_⟩ := id hx_
  have hwt_ : wt b_ n_ T_ t_ o_ w0_ := by rcases hwt_ with z_ | z_; (exact z_.2); (exact absurd z_.1 (by decide))
  obtain ⟨i_, hi1_, hi2_⟩ := id hg_.2
  have hf_ := hg_.1
  have hT_ := ht_.2.1
  have hi9_ := hi2_.1
  have ra_ := rp_at ht_ hi2_
  have rk_ := r_st_3 (lx_kd_r hi2_.2.2.1)
  have e4_ : (S0_.1 13 0 9).toNat = i_ := by omega
  have so4_ : S0_.2.2.1 119 0 (S0_.1 13 0 9).toNat = r_st (lx_kd b_ n_ p_) := by rw [e4_]; exact ra_.1
  have pl4_ : S0_.2.2.1 120 0 (S0_.1 13 0 9).toNat = (p_ : Int) := by rw [e4_]; exact ra_.2.1
  have lim_ := o_lim hok_.2.1.1 hok_.2.1.2.1
  have lim1_ : o_.length ≤ 365 := lim_.1
  have wlen : w0_.length ≤ 731 := by rcases hwt_ with z_ | ⟨u_, z1_, z2_⟩; (have := wl_len z_.2; omega); (have := wl_len z2_; rw [z1_, List.length_cons]; omega)
  have hww_ := hw_.1
  have tp_ := wt_tp hwt_ hok_.2.1.1
  have gl1_ : g_.length = o_hl o_ + 0 := hok_.2.1.2.2.1
  have gl2_ : o_hl o_ ≤ 425 := lim_.2
  have hn1_ := ht_.1
  refine sm_T_go 2 (c1 := (3, [some (.inr (.inr (some (13, 0))))], [.inl 33, .inr (.inr (some (13, 0)))], S0_)) rfl ?_
  refine sm_T_cal (d1 := 0) (Q1 := vq_295 33 b_ n_ T_ (.inr p_) S0_) rfl rfl (by decide) (vc_295 33 b_ n_ T_ (.inr p_) S0_ hI_ (by exact ht_) (by exact hg_) (by decide)) (fun u_ Sx1_ px4_ => ?_)
  obtain ⟨rfl, vx6_, rfl, px4_⟩ := px4_
  have e3_ := px4_.2 p_ rfl
  have r3_ := px4_.1.1
  refine sm_T_b0 (a := 0) (z := 43) rfl (fun cx7_ => ?_) (fun cx7_ => ?_)
  · have cx7_ : vx6_ = 0 := of_decide_eq_true cx7_
    refine sm_T_go 2 (c1 := (52, [some (.inr (.inr (some (13, 0))))], [.inl 40, .inr (.inr (some (13, 0)))], S0_)) rfl ?_
    refine sm_T_cal (d1 := 0) (Q1 := vq_295 40 b_ n_ T_ (.inr p_) S0_) rfl rfl (by decide) (vc_295 40 b_ n_ T_ (.inr p_) S0_ hI_ (by exact ht_) (by exact hg_) (by decide)) (fun u_ Sx8_ px11_ => ?_)
    obtain ⟨rfl, vx13_, rfl, px11_⟩ := px11_
    have e52_ := px11_.2 p_ rfl
    have r52_ := px11_.1.1
    have n33_ : lx_kd b_ n_ p_ ≠ 33 := fun z_ => by have := e3_.mpr z_; omega
    refine sm_T_b0 (a := 0) (z := 11) rfl (fun cx14_ => ?_) (fun cx14_ => ?_)
    · have cx14_ : vx13_ = 0 := of_decide_eq_true cx14_
      have n40_ : lx_kd b_ n_ p_ ≠ 40 := fun z_ => by have := e52_.mpr z_; omega
      have bx15_ : 0 ≤ S0_.1 13 0 27 ∧ S0_.1 13 0 27 ≤ 2 := hI_.1 13 0 27 rfl
      refine sm_T_go 3 (c1 := (71, [some (.inr (.inr (some (13, 0))))], [.inl 2, .inl (S0_.1 13 0 27)], S0_)) rfl ?_
      refine sm_T_br (a := 1) (z := 10) rfl (fun cx16_ => ?_) (fun cx16_ => ?_)
      · have cx16_ : (S0_.1 13 0 27) ≠ 2 := of_decide_eq_true cx16_
        have bx17_ : 0 ≤ S0_.1 13 0 9 ∧ S0_.1 13 0 9 ≤ 1280 := hI_.1 13 0 9 rfl
        refine sm_T_go 4 (c1 := (89, [some (.inr (.inr (some (13, 0))))], [.inl (S0_.1 13 0 9), .inr (.inr (some (119, 0)))], S0_)) rfl ?_
        refine sm_T_bald (n := 65537) rfl rfl (by omega) (by omega) ?_
        have bx18_ : (-128) ≤ S0_.2.2.1 119 0 (S0_.1 13 0 9).toNat ∧ S0_.2.2.1 119 0 (S0_.1 13 0 9).toNat ≤ 127 := hI_.2 119 0 _
        refine sm_T_go 1 (c1 := (91, [some (.inr (.inr (some (13, 0))))], [.inl 2, .inl (S0_.2.2.1 119 0 (S0_.1 13 0 9).toNat)], S0_)) rfl ?_
        refine sm_T_br (a := 1) (z := 10) rfl (fun cx19_ => ?_) (fun cx19_ => ?_)
        · have cx19_ : (S0_.2.2.1 119 0 (S0_.1 13 0 9).toNat) ≠ 2 := of_decide_eq_true cx19_
          refine sm_T_go 4 (c1 := (109, [some (.inr (.inr (some (13, 0))))], [.inl (S0_.1 13 0 9), .inr (.inr (some (119, 0)))], S0_)) rfl ?_
          refine sm_T_bald (n := 65537) rfl rfl (by omega) (by omega) ?_
          refine sm_T_go 1 (c1 := (111, [some (.inr (.inr (some (13, 0))))], [.inl 1, .inl (S0_.2.2.1 119 0 (S0_.1 13 0 9).toNat)], S0_)) rfl ?_
          refine sm_T_br (a := 1) (z := 10) rfl (fun cx20_ => ?_) (fun cx20_ => ?_)
          · have cx20_ : (S0_.2.2.1 119 0 (S0_.1 13 0 9).toNat) ≠ 1 := of_decide_eq_true cx20_
            refine sm_T_go 4 (c1 := (127, [some (.inr (.inr (some (13, 0))))], [.inl (S0_.1 13 0 9), .inl 2, .inr (.inr (some (13, 0)))], S0_)) rfl ?_
            refine sm_T_cal (d1 := 0) (Q1 := vq_293 2 (S0_.1 13 0 9) S0_) rfl rfl (by decide) (vc_293 2 (S0_.1 13 0 9) S0_ hI_ (by decide) (by omega)) (fun u_ Sx21_ px24_ => ?_)
            obtain ⟨rfl, hIx22_, hFx23_, px24_⟩ := px24_
            have hFx25_ : ai_fr (sx_W vw_319) S0_ Sx21_ := ai_fr_tr hF_ (fr_le hFx23_ rfl)
            have ex26_ : Sx21_.1 13 0 27 = S0_.1 13 0 27 := hFx23_.1 13 0 27 rfl
            have ex27_ : Sx21_.1 13 0 9 = S0_.1 13 0 9 := hFx23_.1 13 0 9 rfl
            have m2_ : mo_ ≠ 2 := by omega
            have pe_ : (p_pm b_ n_ (mdo mo_) A_ M_ K_ f_) p_ = .inl (2, p_) := by unfold p_pm mdo; rw [if_neg (by rw [decide_eq_false m2_]; decide)]; unfold p_pd; rw [if_neg (fun z_ => by have := rk_.2.2.1.mpr z_; omega), if_neg (fun z_ => by have := rk_.2.1.mpr z_; omega)]
            have gq_ : rg b_ n_ T_ (pb ((p_pm b_ n_ (mdo mo_) A_ M_ K_ f_) p_) fun r_ => .inr r_.1) Sx21_ := by rw [pe_]; rcases px24_ with z_ | z_; (exact absurd hf_ z_.1); (exact ⟨z_.2.1.trans (if_neg (by rw [so4_]; exact rk_.2.2.2.2.2)), z_.2.2.trans pl4_, by show (2 : Int) ≠ 0; decide⟩)
            have ws9_ := ws_fr hw_ hFx23_ rfl rfl rfl
            have op9_ := (hFx23_.1 13 0 33 rfl).trans hop_
            have vl9_ := (hFx23_.1 13 0 34 rfl).trans hv_.1
            have wt9_ : Sx21_.1 13 0 32 ≤ 800 := by rw [hFx23_.1 13 0 32 rfl, hww_]; omega
            have mo9_ := (hFx23_.1 13 0 27 rfl).trans hmo1_
            have vq_ : ∀ r_, (p_pm b_ n_ (mdo mo_) A_ M_ K_ f_) p_ = .inr r_ → (mo_ ≠ 2 → stk (Sx21_.2.2.1 138 0) (r_.2.1 :: g_)) ∧ (mo_ = 2 → stk (fun j_ => Sx21_.2.2.1 139 0 (8 * j_)) (r_.2.1 :: g_)) := fun r_ hr_ => by rw [pe_] at hr_; cases hr_
            refine sm_T_go 1 (c1 := (131, [some (.inr (.inr (some (13, 0))))], [.inr (.inr (some (13, 0)))], Sx21_)) rfl ?_
            refine sm_T_cal (d1 := 0) (Q1 := vq_292  Sx21_) rfl rfl (by decide) (vc_292  Sx21_ hIx22_ ) (fun u_ Sx28_ px31_ => ?_)
            obtain ⟨rfl, vx33_, rfl, px31_⟩ := px31_
            have e131_ := px31_
            refine sm_T_b0 (a := 0) (z := 17) rfl (fun cx34_ => ?_) (fun cx34_ => ?_)
            · have cx34_ : vx33_ = 0 := of_decide_eq_true cx34_
              have hz_ := wr_if e131_ (by omega)
              refine sm_T_go 1 (c1 := (152, [some (.inr (.inr (some (13, 0))))], [.inr (.inr (some (13, 0)))], Sx21_)) rfl ?_
              refine sm_T_cal (d1 := 0) (Q1 := vq_292  Sx21_) rfl rfl (by decide) (vc_292  Sx21_ hIx22_ ) (fun u_ Sx35_ px38_ => ?_)
              obtain ⟨rfl, vx40_, rfl, px38_⟩ := px38_
              have e152_ := px38_
              refine sm_T_rz rfl (by (rw [e152_]; split; (right; rfl); (left; rfl))) ⟨_, _, rfl, _, rfl, hIx22_, hFx25_, ?_⟩
              first | (refine ⟨fun e_ he_ => ?_, fun y_ hy_ => ?_⟩; (rw [pA_p n33_ n40_, hpr_] at he_; cases he_); (rw [pA_p n33_ n40_, hpr_] at hy_; cases hy_; exact ⟨⟨g148_, ⟨w1_, ws148_, Or.inr ⟨rfl, wl148_⟩⟩, op148_, v148_, mo148_⟩, by rw [e152_, if_pos g148_.1]; rfl⟩)) | (cases hq_ : (p_pm b_ n_ (mdo mo_) A_ M_ K_ f_) p_ with | inr r_ => (exfalso; rw [hq_] at gq_; exact hz_ gq_.1) | inl e2_ => (rw [hq_] at gq_; refine ⟨fun e_ he_ => ?_, fun y_ hy_ => ?_⟩; (rw [pA_p n33_ n40_, hq_] at he_; cases he_; exact ⟨gq_.1, gq_.2.1, gq_.2.2, wt9_, mo9_⟩); (rw [pA_p n33_ n40_, hq_] at hy_; cases hy_)))
            · have cx34_ : ¬ (vx33_ = 0) := of_decide_eq_false cx34_
              have hz_ := rt_if e131_ (by omega)
              obtain ⟨r_, hpr_⟩ : ∃ r_, (p_pm b_ n_ (mdo mo_) A_ M_ K_ f_) p_ = .inr r_ := by cases hq_ : (p_pm b_ n_ (mdo mo_) A_ M_ K_ f_) p_ with | inl e_ => (exfalso; rw [hq_] at gq_; exact gq_.2.2 (gq_.1.symm.trans hz_)) | inr r_ => exact ⟨r_, rfl⟩
              rw [hpr_] at gq_
              have rb := hprk p_ r_ hok_.2.2.1 hok_.2.2.2.1 hpr_
              have bx41_ : 0 ≤ Sx21_.1 13 0 34 ∧ Sx21_.1 13 0 34 ≤ 1023 := hIx22_.1 13 0 34 rfl
              refine sm_T_go 4 (c1 := (143, [some (.inr (.inr (some (13, 0))))], [.inl 1, .inl (Sx21_.1 13 0 34), .inr (.inr (some (13, 0)))], Sx21_)) rfl ?_
              refine sm_T_bin (w := (Sx21_.1 13 0 34) + 1) rfl (bi_add (by omega) (by omega) (by omega)) ?_
              have hIx42_ : gi (sm_pI Sx21_ 13 0 34 ((Sx21_.1 13 0 34) + 1)) := gi_pI hIx22_ (show 0 ≤ (Sx21_.1 13 0 34) + 1 ∧ (Sx21_.1 13 0 34) + 1 ≤ 1023 from ⟨by omega, by omega⟩)
              have hFx43_ : ai_fr (sx_W vw_319) S0_ (sm_pI Sx21_ 13 0 34 ((Sx21_.1 13 0 34) + 1)) := ai_fr_tr hFx25_ (ai_fr_pI rfl)
              refine sm_T_go 2 (c1 := (148, [some (.inr (.inr (some (13, 0))))], [.inr (.inr (some (13, 0)))], sm_pI Sx21_ 13 0 34 ((Sx21_.1 13 0 34) + 1))) rfl ?_
              refine sm_T_cal (d1 := 1) (Q1 := vq_317 b_ n_ T_ mo_ t_ o_ r_.2.1 g_ (r_.2.2 ++ c_) w0_ (sm_pI Sx21_ 13 0 34 ((Sx21_.1 13 0 34) + 1))) rfl rfl (by decide) (vc_317 b_ n_ T_ mo_ t_ o_ r_.2.1 g_ (r_.2.2 ++ c_) w0_ (sm_pI Sx21_ 13 0 34 ((Sx21_.1 13 0 34) + 1)) hIx42_ (by exact ws9_) (by exact hwt_) (by exact hok_.2.1.1) (by exact vs_pu (by show _ + 1 = _; omega) (vq_ r_ hpr_).1 (vq_ r_ hpr_).2) (by exact mo9_) (by omega) (by exact rb.2.2.2.1)) (fun u_ Sx44_ px47_ => ?_)
              obtain ⟨rfl, hIx45_, hFx46_, px47_⟩ := px47_
              have hFx48_ : ai_fr (sx_W vw_319) S0_ Sx44_ := ai_fr_tr hFx43_ (fr_le hFx46_ rfl)
              obtain ⟨w1_, ws148_, wl148_, v148_⟩ := px47_
              have g148_ := rg_fr (b_ := b_) (n_ := n_) (T_ := T_) (x_ := .inr r_.1) (S_ := (sm_pI Sx21_ 13 0 34 ((Sx21_.1 13 0 34) + 1))) gq_ hFx46_ rfl rfl rfl
              have op148_ := (hFx46_.1 13 0 33 rfl).trans op9_
              have mo148_ := (hFx46_.1 13 0 27 rfl).trans mo9_
              refine sm_T_go 1 (c1 := (152, [some (.inr (.inr (some (13, 0))))], [.inr (.inr (some (13, 0)))], Sx44_)) rfl ?_
              refine sm_T_cal (d1 := 0) (Q1 := vq_292  Sx44_) rfl rfl (by decide) (vc_292  Sx44_ hIx45_ ) (fun u_ Sx49_ px52_ => ?_)
              obtain ⟨rfl, vx54_, rfl, px52_⟩ := px52_
              have e152_ := px52_
              refine sm_T_rz rfl (by (rw [e152_]; split; (right; rfl); (left; rfl))) ⟨_, _, rfl, _, rfl, hIx45_, hFx48_, ?_⟩
              first | (refine ⟨fun e_ he_ => ?_, fun y_ hy_ => ?_⟩; (rw [pA_p n33_ n40_, hpr_] at he_; cases he_); (rw [pA_p n33_ n40_, hpr_] at hy_; cases hy_; exact ⟨⟨g148_, ⟨w1_, ws148_, Or.inr ⟨rfl, wl148_⟩⟩, op148_, v148_, mo148_⟩, by rw [e152_, if_pos g148_.1]; rfl⟩)) | (cases hq_ : (p_pm b_ n_ (mdo mo_) A_ M_ K_ f_) p_ with | inr r_ => (exfalso; rw [hq_] at gq_; exact hz_ gq_.1) | inl e2_ => (rw [hq_] at gq_; refine ⟨fun e_ he_ => ?_, fun y_ hy_ => ?_⟩; (rw [pA_p n33_ n40_, hq_] at he_; cases he_; exact ⟨gq_.1, gq_.2.1, gq_.2.2, wt9_, mo9_⟩); (rw [pA_p n33_ n40_, hq_] at hy_; cases hy_)))
          · have cx20_ : ¬ ((S0_.2.2.1 119 0 (S0_.1 13 0 9).toNat) ≠ 1) := of_decide_eq_false cx20_
            refine sm_T_go 1 (c1 := (115, [some (.inr (.inr (some (13, 0))))], [.inr (.inr (some (13, 0)))], S0_)) rfl ?_
            refine sm_T_cal (d1 := 5) (Q1 := vq_324 b_ n_ T_ mo_ p_ i_ g_.length A_ M_ S0_) rfl rfl (by decide) (vc_324 b_ n_ T_ mo_ p_ i_ g_.length A_ M_ S0_ hI_ (by exact ht_) (by exact hf_) (by exact ⟨hi1_, hi2_⟩) (by exact ⟨hv_.1, by omega⟩) (by exact hmo1_) (by omega) (by exact (hen_.1 (by omega)).1) (by exact (hen_.1 (by omega)).2.1) (by exact (hen_.1 (by omega)).2.2) (by exact rk_.2.1.mp (by omega)) (by omega)) (fun u_ Sx55_ px58_ => ?_)
            obtain ⟨rfl, hIx56_, hFx57_, px58_⟩ := px58_
            have hFx59_ : ai_fr (sx_W vw_319) S0_ Sx55_ := ai_fr_tr hF_ (fr_le hFx57_ rfl)
            have ex60_ : Sx55_.1 13 0 27 = S0_.1 13 0 27 := hFx57_.1 13 0 27 rfl
            have m2_ : mo_ ≠ 2 := by omega
            have kk_ : lx_kd b_ n_ p_ = 1 := rk_.2.1.mp (by omega)
            have pe_ : (p_pm b_ n_ (mdo mo_) A_ M_ K_ f_) p_ = p_na b_ n_ A_ M_ p_ := by unfold p_pm mdo; rw [if_neg (by rw [decide_eq_false m2_]; decide)]; unfold p_pd; rw [if_neg (by omega), if_pos kk_]
            have gq_ : rg b_ n_ T_ (pb ((p_pm b_ n_ (mdo mo_) A_ M_ K_ f_) p_) fun r_ => .inr r_.1) Sx55_ := by rw [pe_]; exact px58_.1
            have ws9_ := ws_fr hw_ hFx57_ rfl rfl rfl
            have op9_ := (hFx57_.1 13 0 33 rfl).trans hop_
            have vl9_ := (hFx57_.1 13 0 34 rfl).trans hv_.1
            have wt9_ : Sx55_.1 13 0 32 ≤ 800 := by rw [hFx57_.1 13 0 32 rfl, hww_]; omega
            have mo9_ := (hFx57_.1 13 0 27 rfl).trans hmo1_
            have vq_ : ∀ r_, (p_pm b_ n_ (mdo mo_) A_ M_ K_ f_) p_ = .inr r_ → (mo_ ≠ 2 → stk (Sx55_.2.2.1 138 0) (r_.2.1 :: g_)) ∧ (mo_ = 2 → stk (fun j_ => Sx55_.2.2.1 139 0 (8 * j_)) (r_.2.1 :: g_)) := fun r_ hr_ => ⟨fun _ => px58_.2 r_ (pe_.symm.trans hr_) g_ rfl (hv_.2.1 m2_), fun z_ => absurd z_ m2_⟩
            refine sm_T_go 2 (c1 := (131, [some (.inr (.inr (some (13, 0))))], [.inr (.inr (some (13, 0)))], Sx55_)) rfl ?_
            refine sm_T_cal (d1 := 0) (Q1 := vq_292  Sx55_) rfl rfl (by decide) (vc_292  Sx55_ hIx56_ ) (fun u_ Sx61_ px64_ => ?_)
            obtain ⟨rfl, vx66_, rfl, px64_⟩ := px64_
            have e131_ := px64_
            refine sm_T_b0 (a := 0) (z := 17) rfl (fun cx67_ => ?_) (fun cx67_ => ?_)
            · have cx67_ : vx66_ = 0 := of_decide_eq_true cx67_
              have hz_ := wr_if e131_ (by omega)
              refine sm_T_go 1 (c1 := (152, [some (.inr (.inr (some (13, 0))))], [.inr (.inr (some (13, 0)))], Sx55_)) rfl ?_
              refine sm_T_cal (d1 := 0) (Q1 := vq_292  Sx55_) rfl rfl (by decide) (vc_292  Sx55_ hIx56_ ) (fun u_ Sx68_ px71_ => ?_)
              obtain ⟨rfl, vx73_, rfl, px71_⟩ := px71_
              have e152_ := px71_
              refine sm_T_rz rfl (by (rw [e152_]; split; (right; rfl); (left; rfl))) ⟨_, _, rfl, _, rfl, hIx56_, hFx59_, ?_⟩
              first | (refine ⟨fun e_ he_ => ?_, fun y_ hy_ => ?_⟩; (rw [pA_p n33_ n40_, hpr_] at he_; cases he_); (rw [pA_p n33_ n40_, hpr_] at hy_; cases hy_; exact ⟨⟨g148_, ⟨w1_, ws148_, Or.inr ⟨rfl, wl148_⟩⟩, op148_, v148_, mo148_⟩, by rw [e152_, if_pos g148_.1]; rfl⟩)) | (cases hq_ : (p_pm b_ n_ (mdo mo_) A_ M_ K_ f_) p_ with | inr r_ => (exfalso; rw [hq_] at gq_; exact hz_ gq_.1) | inl e2_ => (rw [hq_] at gq_; refine ⟨fun e_ he_ => ?_, fun y_ hy_ => ?_⟩; (rw [pA_p n33_ n40_, hq_] at he_; cases he_; exact ⟨gq_.1, gq_.2.1, gq_.2.2, wt9_, mo9_⟩); (rw [pA_p n33_ n40_, hq_] at hy_; cases hy_)))
            · have cx67_ : ¬ (vx66_ = 0) := of_decide_eq_false cx67_
              have hz_ := rt_if e131_ (by omega)
              obtain ⟨r_, hpr_⟩ : ∃ r_, (p_pm b_ n_ (mdo mo_) A_ M_ K_ f_) p_ = .inr r_ := by cases hq_ : (p_pm b_ n_ (mdo mo_) A_ M_ K_ f_) p_ with | inl e_ => (exfalso; rw [hq_] at gq_; exact gq_.2.2 (gq_.1.symm.trans hz_)) | inr r_ => exact ⟨r_, rfl⟩
              rw [hpr_] at gq_
              have rb := hprk p_ r_ hok_.2.2.1 hok_.2.2.2.1 hpr_
              have bx74_ : 0 ≤ Sx55_.1 13 0 34 ∧ Sx55_.1 13 0 34 ≤ 1023 := hIx56_.1 13 0 34 rfl
              refine sm_T_go 4 (c1 := (143, [some (.inr (.inr (some (13, 0))))], [.inl 1, .inl (Sx55_.1 13 0 34), .inr (.inr (some (13, 0)))], Sx55_)) rfl ?_
              refine sm_T_bin (w := (Sx55_.1 13 0 34) + 1) rfl (bi_add (by omega) (by omega) (by omega)) ?_
              have hIx75_ : gi (sm_pI Sx55_ 13 0 34 ((Sx55_.1 13 0 34) + 1)) := gi_pI hIx56_ (show 0 ≤ (Sx55_.1 13 0 34) + 1 ∧ (Sx55_.1 13 0 34) + 1 ≤ 1023 from ⟨by omega, by omega⟩)
              have hFx76_ : ai_fr (sx_W vw_319) S0_ (sm_pI Sx55_ 13 0 34 ((Sx55_.1 13 0 34) + 1)) := ai_fr_tr hFx59_ (ai_fr_pI rfl)
              refine sm_T_go 2 (c1 := (148, [some (.inr (.inr (some (13, 0))))], [.inr (.inr (some (13, 0)))], sm_pI Sx55_ 13 0 34 ((Sx55_.1 13 0 34) + 1))) rfl ?_
              refine sm_T_cal (d1 := 1) (Q1 := vq_317 b_ n_ T_ mo_ t_ o_ r_.2.1 g_ (r_.2.2 ++ c_) w0_ (sm_pI Sx55_ 13 0 34 ((Sx55_.1 13 0 34) + 1))) rfl rfl (by decide) (vc_317 b_ n_ T_ mo_ t_ o_ r_.2.1 g_ (r_.2.2 ++ c_) w0_ (sm_pI Sx55_ 13 0 34 ((Sx55_.1 13 0 34) + 1)) hIx75_ (by exact ws9_) (by exact hwt_) (by exact hok_.2.1.1) (by exact vs_pu (by show _ + 1 = _; omega) (vq_ r_ hpr_).1 (vq_ r_ hpr_).2) (by exact mo9_) (by omega) (by exact rb.2.2.2.1)) (fun u_ Sx77_ px80_ => ?_)
              obtain ⟨rfl, hIx78_, hFx79_, px80_⟩ := px80_
              have hFx81_ : ai_fr (sx_W vw_319) S0_ Sx77_ := ai_fr_tr hFx76_ (fr_le hFx79_ rfl)
              obtain ⟨w1_, ws148_, wl148_, v148_⟩ := px80_
              have g148_ := rg_fr (b_ := b_) (n_ := n_) (T_ := T_) (x_ := .inr r_.1) (S_ := (sm_pI Sx55_ 13 0 34 ((Sx55_.1 13 0 34) + 1))) gq_ hFx79_ rfl rfl rfl
              have op148_ := (hFx79_.1 13 0 33 rfl).trans op9_
              have mo148_ := (hFx79_.1 13 0 27 rfl).trans mo9_
              refine sm_T_go 1 (c1 := (152, [some (.inr (.inr (some (13, 0))))], [.inr (.inr (some (13, 0)))], Sx77_)) rfl ?_
              refine sm_T_cal (d1 := 0) (Q1 := vq_292  Sx77_) rfl rfl (by decide) (vc_292  Sx77_ hIx78_ ) (fun u_ Sx82_ px85_ => ?_)
              obtain ⟨rfl, vx87_, rfl, px85_⟩ := px85_
              have e152_ := px85_
              refine sm_T_rz rfl (by (rw [e152_]; split; (right; rfl); (left; rfl))) ⟨_, _, rfl, _, rfl, hIx78_, hFx81_, ?_⟩
              first | (refine ⟨fun e_ he_ => ?_, fun y_ hy_ => ?_⟩; (rw [pA_p n33_ n40_, hpr_] at he_; cases he_); (rw [pA_p n33_ n40_, hpr_] at hy_; cases hy_; exact ⟨⟨g148_, ⟨w1_, ws148_, Or.inr ⟨rfl, wl148_⟩⟩, op148_, v148_, mo148_⟩, by rw [e152_, if_pos g148_.1]; rfl⟩)) | (cases hq_ : (p_pm b_ n_ (mdo mo_) A_ M_ K_ f_) p_ with | inr r_ => (exfalso; rw [hq_] at gq_; exact hz_ gq_.1) | inl e2_ => (rw [hq_] at gq_; refine ⟨fun e_ he_ => ?_, fun y_ hy_ => ?_⟩; (rw [pA_p n33_ n40_, hq_] at he_; cases he_; exact ⟨gq_.1, gq_.2.1, gq_.2.2, wt9_, mo9_⟩); (rw [pA_p n33_ n40_, hq_] at hy_; cases hy_)))
        · have cx19_ : ¬ ((S0_.2.2.1 119 0 (S0_.1 13 0 9).toNat) ≠ 2) := of_decide_eq_false cx19_
          refine sm_T_go 1 (c1 := (95, [some (.inr (.inr (some (13, 0))))], [.inr (.inr (some (13, 0)))], S0_)) rfl ?_
          refine sm_T_cal (d1 := 4) (Q1 := vq_322 b_ n_ T_ mo_ p_ i_ g_.length S0_) rfl rfl (by decide) (vc_322 b_ n_ T_ mo_ p_ i_ g_.length S0_ hI_ (by exact ht_) (by exact hf_) (by exact ⟨hi1_, hi2_⟩) (by exact ⟨hv_.1, by omega⟩) (by exact hmo1_) (by omega) (by exact rk_.2.2.1.mp (by omega)) (by omega) (by exact lx_vl_0 (rk_.2.2.1.mp (by omega)))) (fun u_ Sx88_ px91_ => ?_)
          obtain ⟨rfl, hIx89_, hFx90_, px91_⟩ := px91_
          have hFx92_ : ai_fr (sx_W vw_319) S0_ Sx88_ := ai_fr_tr hF_ (fr_le hFx90_ rfl)
          have ex93_ : Sx88_.1 13 0 27 = S0_.1 13 0 27 := hFx90_.1 13 0 27 rfl
          have m2_ : mo_ ≠ 2 := by omega
          have kk_ : lx_kd b_ n_ p_ = 2 := rk_.2.2.1.mp (by omega)
          have pe_ : (p_pm b_ n_ (mdo mo_) A_ M_ K_ f_) p_ = p_co b_ n_ p_ := by unfold p_pm mdo; rw [if_neg (by rw [decide_eq_false m2_]; decide)]; unfold p_pd; rw [if_pos kk_]
          have gq_ : rg b_ n_ T_ (pb ((p_pm b_ n_ (mdo mo_) A_ M_ K_ f_) p_) fun r_ => .inr r_.1) Sx88_ := by rw [pe_]; cases hq_ : p_co b_ n_ p_ with | inl e_ => (have z_ := px91_.1 e_ hq_; exact ⟨z_.1, z_.2.1, z_.2.2.1⟩) | inr r_ => exact (px91_.2 r_ hq_).1
          have ws9_ := ws_fr hw_ hFx90_ rfl rfl rfl
          have op9_ := (hFx90_.1 13 0 33 rfl).trans hop_
          have vl9_ := (hFx90_.1 13 0 34 rfl).trans hv_.1
          have wt9_ : Sx88_.1 13 0 32 ≤ 800 := by rw [hFx90_.1 13 0 32 rfl, hww_]; omega
          have mo9_ := (hFx90_.1 13 0 27 rfl).trans hmo1_
          have vq_ : ∀ r_, (p_pm b_ n_ (mdo mo_) A_ M_ K_ f_) p_ = .inr r_ → (mo_ ≠ 2 → stk (Sx88_.2.2.1 138 0) (r_.2.1 :: g_)) ∧ (mo_ = 2 → stk (fun j_ => Sx88_.2.2.1 139 0 (8 * j_)) (r_.2.1 :: g_)) := fun r_ hr_ => ⟨fun _ => (px91_.2 r_ (pe_.symm.trans hr_)).2 g_ rfl (hv_.2.1 m2_), fun z_ => absurd z_ m2_⟩
          refine sm_T_go 2 (c1 := (131, [some (.inr (.inr (some (13, 0))))], [.inr (.inr (some (13, 0)))], Sx88_)) rfl ?_
          refine sm_T_cal (d1 := 0) (Q1 := vq_292  Sx88_) rfl rfl (by decide) (vc_292  Sx88_ hIx89_ ) (fun u_ Sx94_ px97_ => ?_)
          obtain ⟨rfl, vx99_, rfl, px97_⟩ := px97_
          have e131_ := px97_
          refine sm_T_b0 (a := 0) (z := 17) rfl (fun cx100_ => ?_) (fun cx100_ => ?_)
          · have cx100_ : vx99_ = 0 := of_decide_eq_true cx100_
            have hz_ := wr_if e131_ (by omega)
            refine sm_T_go 1 (c1 := (152, [some (.inr (.inr (some (13, 0))))], [.inr (.inr (some (13, 0)))], Sx88_)) rfl ?_
            refine sm_T_cal (d1 := 0) (Q1 := vq_292  Sx88_) rfl rfl (by decide) (vc_292  Sx88_ hIx89_ ) (fun u_ Sx101_ px104_ => ?_)
            obtain ⟨rfl, vx106_, rfl, px104_⟩ := px104_
            have e152_ := px104_
            refine sm_T_rz rfl (by (rw [e152_]; split; (right; rfl); (left; rfl))) ⟨_, _, rfl, _, rfl, hIx89_, hFx92_, ?_⟩
            first | (refine ⟨fun e_ he_ => ?_, fun y_ hy_ => ?_⟩; (rw [pA_p n33_ n40_, hpr_] at he_; cases he_); (rw [pA_p n33_ n40_, hpr_] at hy_; cases hy_; exact ⟨⟨g148_, ⟨w1_, ws148_, Or.inr ⟨rfl, wl148_⟩⟩, op148_, v148_, mo148_⟩, by rw [e152_, if_pos g148_.1]; rfl⟩)) | (cases hq_ : (p_pm b_ n_ (mdo mo_) A_ M_ K_ f_) p_ with | inr r_ => (exfalso; rw [hq_] at gq_; exact hz_ gq_.1) | inl e2_ => (rw [hq_] at gq_; refine ⟨fun e_ he_ => ?_, fun y_ hy_ => ?_⟩; (rw [pA_p n33_ n40_, hq_] at he_; cases he_; exact ⟨gq_.1, gq_.2.1, gq_.2.2, wt9_, mo9_⟩); (rw [pA_p n33_ n40_, hq_] at hy_; cases hy_)))
          · have cx100_ : ¬ (vx99_ = 0) := of_decide_eq_false cx100_
            have hz_ := rt_if e131_ (by omega)
            obtain ⟨r_, hpr_⟩ : ∃ r_, (p_pm b_ n_ (mdo mo_) A_ M_ K_ f_) p_ = .inr r_ := by cases hq_ : (p_pm b_ n_ (mdo mo_) A_ M_ K_ f_) p_ with | inl e_ => (exfalso; rw [hq_] at gq_; exact gq_.2.2 (gq_.1.symm.trans hz_)) | inr r_ => exact ⟨r_, rfl⟩
            rw [hpr_] at gq_
            have rb := hprk p_ r_ hok_.2.2.1 hok_.2.2.2.1 hpr_
            have bx107_ : 0 ≤ Sx88_.1 13 0 34 ∧ Sx88_.1 13 0 34 ≤ 1023 := hIx89_.1 13 0 34 rfl
            refine sm_T_go 4 (c1 := (143, [some (.inr (.inr (some (13, 0))))], [.inl 1, .inl (Sx88_.1 13 0 34), .inr (.inr (some (13, 0)))], Sx88_)) rfl ?_
            refine sm_T_bin (w := (Sx88_.1 13 0 34) + 1) rfl (bi_add (by omega) (by omega) (by omega)) ?_
            have hIx108_ : gi (sm_pI Sx88_ 13 0 34 ((Sx88_.1 13 0 34) + 1)) := gi_pI hIx89_ (show 0 ≤ (Sx88_.1 13 0 34) + 1 ∧ (Sx88_.1 13 0 34) + 1 ≤ 1023 from ⟨by omega, by omega⟩)
            have hFx109_ : ai_fr (sx_W vw_319) S0_ (sm_pI Sx88_ 13 0 34 ((Sx88_.1 13 0 34) + 1)) := ai_fr_tr hFx92_ (ai_fr_pI rfl)
            refine sm_T_go 2 (c1 := (148, [some (.inr (.inr (some (13, 0))))], [.inr (.inr (some (13, 0)))], sm_pI Sx88_ 13 0 34 ((Sx88_.1 13 0 34) + 1))) rfl ?_
            refine sm_T_cal (d1 := 1) (Q1 := vq_317 b_ n_ T_ mo_ t_ o_ r_.2.1 g_ (r_.2.2 ++ c_) w0_ (sm_pI Sx88_ 13 0 34 ((Sx88_.1 13 0 34) + 1))) rfl rfl (by decide) (vc_317 b_ n_ T_ mo_ t_ o_ r_.2.1 g_ (r_.2.2 ++ c_) w0_ (sm_pI Sx88_ 13 0 34 ((Sx88_.1 13 0 34) + 1)) hIx108_ (by exact ws9_) (by exact hwt_) (by exact hok_.2.1.1) (by exact vs_pu (by show _ + 1 = _; omega) (vq_ r_ hpr_).1 (vq_ r_ hpr_).2) (by exact mo9_) (by omega) (by exact rb.2.2.2.1)) (fun u_ Sx110_ px113_ => ?_)
            obtain ⟨rfl, hIx111_, hFx112_, px113_⟩ := px113_
            have hFx114_ : ai_fr (sx_W vw_319) S0_ Sx110_ := ai_fr_tr hFx109_ (fr_le hFx112_ rfl)
            obtain ⟨w1_, ws148_, wl148_, v148_⟩ := px113_
            have g148_ := rg_fr (b_ := b_) (n_ := n_) (T_ := T_) (x_ := .inr r_.1) (S_ := (sm_pI Sx88_ 13 0 34 ((Sx88_.1 13 0 34) + 1))) gq_ hFx112_ rfl rfl rfl
            have op148_ := (hFx112_.1 13 0 33 rfl).trans op9_
            have mo148_ := (hFx112_.1 13 0 27 rfl).trans mo9_
            refine sm_T_go 1 (c1 := (152, [some (.inr (.inr (some (13, 0))))], [.inr (.inr (some (13, 0)))], Sx110_)) rfl ?_
            refine sm_T_cal (d1 := 0) (Q1 := vq_292  Sx110_) rfl rfl (by decide) (vc_292  Sx110_ hIx111_ ) (fun u_ Sx115_ px118_ => ?_)
            obtain ⟨rfl, vx120_, rfl, px118_⟩ := px118_
            have e152_ := px118_
            refine sm_T_rz rfl (by (rw [e152_]; split; (right; rfl); (left; rfl))) ⟨_, _, rfl, _, rfl, hIx111_, hFx114_, ?_⟩
            first | (refine ⟨fun e_ he_ => ?_, fun y_ hy_ => ?_⟩; (rw [pA_p n33_ n40_, hpr_] at he_; cases he_); (rw [pA_p n33_ n40_, hpr_] at hy_; cases hy_; exact ⟨⟨g148_, ⟨w1_, ws148_, Or.inr ⟨rfl, wl148_⟩⟩, op148_, v148_, mo148_⟩, by rw [e152_, if_pos g148_.1]; rfl⟩)) | (cases hq_ : (p_pm b_ n_ (mdo mo_) A_ M_ K_ f_) p_ with | inr r_ => (exfalso; rw [hq_] at gq_; exact hz_ gq_.1) | inl e2_ => (rw [hq_] at gq_; refine ⟨fun e_ he_ => ?_, fun y_ hy_ => ?_⟩; (rw [pA_p n33_ n40_, hq_] at he_; cases he_; exact ⟨gq_.1, gq_.2.1, gq_.2.2, wt9_, mo9_⟩); (rw [pA_p n33_ n40_, hq_] at hy_; cases hy_)))
      · have cx16_ : ¬ ((S0_.1 13 0 27) ≠ 2) := of_decide_eq_false cx16_
        refine sm_T_go 1 (c1 := (75, [some (.inr (.inr (some (13, 0))))], [.inr (.inr (some (13, 0)))], S0_)) rfl ?_
        refine sm_T_cal (d1 := 3) (Q1 := vq_327 b_ n_ T_ mo_ p_ i_ g_.length K_ f_ S0_) rfl rfl (by decide) (vc_327 b_ n_ T_ mo_ p_ i_ g_.length K_ f_ S0_ hI_ (by exact ht_) (by exact hf_) (by exact ⟨hi1_, hi2_⟩) (by exact ⟨hv_.1, by omega⟩) (by exact hmo1_) (by omega) (by exact hen_.2 (by omega))) (fun u_ Sx121_ px124_ => ?_)
        obtain ⟨rfl, hIx122_, hFx123_, px124_⟩ := px124_
        have hFx125_ : ai_fr (sx_W vw_319) S0_ Sx121_ := ai_fr_tr hF_ (fr_le hFx123_ rfl)
        have ex126_ : Sx121_.1 13 0 27 = S0_.1 13 0 27 := hFx123_.1 13 0 27 rfl
        have m2_ : mo_ = 2 := by omega
        have pe_ : (p_pm b_ n_ (mdo mo_) A_ M_ K_ f_) p_ = p_pl b_ n_ K_ f_ p_ := by unfold p_pm mdo; rw [if_pos (decide_eq_true m2_)]
        have gq_ : rg b_ n_ T_ (pb ((p_pm b_ n_ (mdo mo_) A_ M_ K_ f_) p_) fun r_ => .inr r_.1) Sx121_ := by rw [pe_]; exact px124_.1
        have ws9_ := ws_fr hw_ hFx123_ rfl rfl rfl
        have op9_ := (hFx123_.1 13 0 33 rfl).trans hop_
        have vl9_ := (hFx123_.1 13 0 34 rfl).trans hv_.1
        have wt9_ : Sx121_.1 13 0 32 ≤ 800 := by rw [hFx123_.1 13 0 32 rfl, hww_]; omega
        have mo9_ := (hFx123_.1 13 0 27 rfl).trans hmo1_
        have vq_ : ∀ r_, (p_pm b_ n_ (mdo mo_) A_ M_ K_ f_) p_ = .inr r_ → (mo_ ≠ 2 → stk (Sx121_.2.2.1 138 0) (r_.2.1 :: g_)) ∧ (mo_ = 2 → stk (fun j_ => Sx121_.2.2.1 139 0 (8 * j_)) (r_.2.1 :: g_)) := fun r_ hr_ => ⟨fun z_ => absurd m2_ z_, fun _ => px124_.2 r_ (pe_.symm.trans hr_) g_ rfl (hv_.2.2 m2_)⟩
        refine sm_T_go 2 (c1 := (131, [some (.inr (.inr (some (13, 0))))], [.inr (.inr (some (13, 0)))], Sx121_)) rfl ?_
        refine sm_T_cal (d1 := 0) (Q1 := vq_292  Sx121_) rfl rfl (by decide) (vc_292  Sx121_ hIx122_ ) (fun u_ Sx127_ px130_ => ?_)
        obtain ⟨rfl, vx132_, rfl, px130_⟩ := px130_
        have e131_ := px130_
        refine sm_T_b0 (a := 0) (z := 17) rfl (fun cx133_ => ?_) (fun cx133_ => ?_)
        · have cx133_ : vx132_ = 0 := of_decide_eq_true cx133_
          have hz_ := wr_if e131_ (by omega)
          refine sm_T_go 1 (c1 := (152, [some (.inr (.inr (some (13, 0))))], [.inr (.inr (some (13, 0)))], Sx121_)) rfl ?_
          refine sm_T_cal (d1 := 0) (Q1 := vq_292  Sx121_) rfl rfl (by decide) (vc_292  Sx121_ hIx122_ ) (fun u_ Sx134_ px137_ => ?_)
          obtain ⟨rfl, vx139_, rfl, px137_⟩ := px137_
          have e152_ := px137_
          refine sm_T_rz rfl (by (rw [e152_]; split; (right; rfl); (left; rfl))) ⟨_, _, rfl, _, rfl, hIx122_, hFx125_, ?_⟩
          first | (refine ⟨fun e_ he_ => ?_, fun y_ hy_ => ?_⟩; (rw [pA_p n33_ n40_, hpr_] at he_; cases he_); (rw [pA_p n33_ n40_, hpr_] at hy_; cases hy_; exact ⟨⟨g148_, ⟨w1_, ws148_, Or.inr ⟨rfl, wl148_⟩⟩, op148_, v148_, mo148_⟩, by rw [e152_, if_pos g148_.1]; rfl⟩)) | (cases hq_ : (p_pm b_ n_ (mdo mo_) A_ M_ K_ f_) p_ with | inr r_ => (exfalso; rw [hq_] at gq_; exact hz_ gq_.1) | inl e2_ => (rw [hq_] at gq_; refine ⟨fun e_ he_ => ?_, fun y_ hy_ => ?_⟩; (rw [pA_p n33_ n40_, hq_] at he_; cases he_; exact ⟨gq_.1, gq_.2.1, gq_.2.2, wt9_, mo9_⟩); (rw [pA_p n33_ n40_, hq_] at hy_; cases hy_)))
        · have cx133_ : ¬ (vx132_ = 0) := of_decide_eq_false cx133_
          have hz_ := rt_if e131_ (by omega)
          obtain ⟨r_, hpr_⟩ : ∃ r_, (p_pm b_ n_ (mdo mo_) A_ M_ K_ f_) p_ = .inr r_ := by cases hq_ : (p_pm b_ n_ (mdo mo_) A_ M_ K_ f_) p_ with | inl e_ => (exfalso; rw [hq_] at gq_; exact gq_.2.2 (gq_.1.symm.trans hz_)) | inr r_ => exact ⟨r_, rfl⟩
          rw [hpr_] at gq_
          have rb := hprk p_ r_ hok_.2.2.1 hok_.2.2.2.1 hpr_
          have bx140_ : 0 ≤ Sx121_.1 13 0 34 ∧ Sx121_.1 13 0 34 ≤ 1023 := hIx122_.1 13 0 34 rfl
          refine sm_T_go 4 (c1 := (143, [some (.inr (.inr (some (13, 0))))], [.inl 1, .inl (Sx121_.1 13 0 34), .inr (.inr (some (13, 0)))], Sx121_)) rfl ?_
          refine sm_T_bin (w := (Sx121_.1 13 0 34) + 1) rfl (bi_add (by omega) (by omega) (by omega)) ?_
          have hIx141_ : gi (sm_pI Sx121_ 13 0 34 ((Sx121_.1 13 0 34) + 1)) := gi_pI hIx122_ (show 0 ≤ (Sx121_.1 13 0 34) + 1 ∧ (Sx121_.1 13 0 34) + 1 ≤ 1023 from ⟨by omega, by omega⟩)
          have hFx142_ : ai_fr (sx_W vw_319) S0_ (sm_pI Sx121_ 13 0 34 ((Sx121_.1 13 0 34) + 1)) := ai_fr_tr hFx125_ (ai_fr_pI rfl)
          refine sm_T_go 2 (c1 := (148, [some (.inr (.inr (some (13, 0))))], [.inr (.inr (some (13, 0)))], sm_pI Sx121_ 13 0 34 ((Sx121_.1 13 0 34) + 1))) rfl ?_
          refine sm_T_cal (d1 := 1) (Q1 := vq_317 b_ n_ T_ mo_ t_ o_ r_.2.1 g_ (r_.2.2 ++ c_) w0_ (sm_pI Sx121_ 13 0 34 ((Sx121_.1 13 0 34) + 1))) rfl rfl (by decide) (vc_317 b_ n_ T_ mo_ t_ o_ r_.2.1 g_ (r_.2.2 ++ c_) w0_ (sm_pI Sx121_ 13 0 34 ((Sx121_.1 13 0 34) + 1)) hIx141_ (by exact ws9_) (by exact hwt_) (by exact hok_.2.1.1) (by exact vs_pu (by show _ + 1 = _; omega) (vq_ r_ hpr_).1 (vq_ r_ hpr_).2) (by exact mo9_) (by omega) (by exact rb.2.2.2.1)) (fun u_ Sx143_ px146_ => ?_)
          obtain ⟨rfl, hIx144_, hFx145_, px146_⟩ := px146_
          have hFx147_ : ai_fr (sx_W vw_319) S0_ Sx143_ := ai_fr_tr hFx142_ (fr_le hFx145_ rfl)
          obtain ⟨w1_, ws148_, wl148_, v148_⟩ := px146_
          have g148_ := rg_fr (b_ := b_) (n_ := n_) (T_ := T_) (x_ := .inr r_.1) (S_ := (sm_pI Sx121_ 13 0 34 ((Sx121_.1 13 0 34) + 1))) gq_ hFx145_ rfl rfl rfl
          have op148_ := (hFx145_.1 13 0 33 rfl).trans op9_
          have mo148_ := (hFx145_.1 13 0 27 rfl).trans mo9_
          refine sm_T_go 1 (c1 := (152, [some (.inr (.inr (some (13, 0))))], [.inr (.inr (some (13, 0)))], Sx143_)) rfl ?_
          refine sm_T_cal (d1 := 0) (Q1 := vq_292  Sx143_) rfl rfl (by decide) (vc_292  Sx143_ hIx144_ ) (fun u_ Sx148_ px151_ => ?_)
          obtain ⟨rfl, vx153_, rfl, px151_⟩ := px151_
          have e152_ := px151_
          refine sm_T_rz rfl (by (rw [e152_]; split; (right; rfl); (left; rfl))) ⟨_, _, rfl, _, rfl, hIx144_, hFx147_, ?_⟩
          first | (refine ⟨fun e_ he_ => ?_, fun y_ hy_ => ?_⟩; (rw [pA_p n33_ n40_, hpr_] at he_; cases he_); (rw [pA_p n33_ n40_, hpr_] at hy_; cases hy_; exact ⟨⟨g148_, ⟨w1_, ws148_, Or.inr ⟨rfl, wl148_⟩⟩, op148_, v148_, mo148_⟩, by rw [e152_, if_pos g148_.1]; rfl⟩)) | (cases hq_ : (p_pm b_ n_ (mdo mo_) A_ M_ K_ f_) p_ with | inr r_ => (exfalso; rw [hq_] at gq_; exact hz_ gq_.1) | inl e2_ => (rw [hq_] at gq_; refine ⟨fun e_ he_ => ?_, fun y_ hy_ => ?_⟩; (rw [pA_p n33_ n40_, hq_] at he_; cases he_; exact ⟨gq_.1, gq_.2.1, gq_.2.2, wt9_, mo9_⟩); (rw [pA_p n33_ n40_, hq_] at hy_; cases hy_)))
    · have cx14_ : ¬ (vx13_ = 0) := of_decide_eq_false cx14_
      have k40_ : lx_kd b_ n_ p_ = 40 := e52_.mp (by omega)
      refine sm_T_go 2 (c1 := (61, [some (.inr (.inr (some (13, 0))))], [.inl 40, .inr (.inr (some (13, 0)))], S0_)) rfl ?_
      refine sm_T_cal (d1 := 3) (Q1 := vq_318 40 b_ n_ T_ mo_ p_ i_ (o_mk o_) w0_ S0_) rfl rfl (by decide) (vc_318 40 b_ n_ T_ mo_ p_ i_ (o_mk o_) w0_ S0_ hI_ (by exact ht_) (by exact hf_) (by exact ⟨hi1_, hi2_⟩) (by omega) (by exact hw_) (by omega) (by exact ⟨hop_, hok_.2.1.2.1⟩) (by decide) (by exact hmo1_)) (fun u_ Sx154_ px157_ => ?_)
      obtain ⟨rfl, hIx155_, hFx156_, px157_⟩ := px157_
      have hFx158_ : ai_fr (sx_W vw_319) S0_ Sx154_ := ai_fr_tr hF_ (fr_le hFx156_ rfl)
      have e61_ := px157_
      have v61_ := vs_fr hv_ hFx156_ rfl rfl rfl
      have m61_ := (hFx156_.1 13 0 27 rfl).trans hmo1_
      refine sm_T_go 1 (c1 := (65, [some (.inr (.inr (some (13, 0))))], [.inl 0], Sx154_)) rfl ?_
      refine sm_T_rz rfl (by omega) ⟨_, _, rfl, _, rfl, hIx155_, hFx158_, ?_⟩
      by_cases z_ : o_mk o_ = 60
      · refine ⟨fun e_ he_ => ?_, fun y_ hy_ => ?_⟩
        · rw [pA_x k40_ z_] at he_; cases he_; exact e61_.1 z_
        · rw [pA_x k40_ z_] at hy_; cases hy_
      · refine ⟨fun e_ he_ => ?_, fun y_ hy_ => ?_⟩
        · rw [pA_o k40_ z_] at he_
          cases hq_ : p_ad b_ n_ p_ with
          | inr q_ => rw [hq_] at he_; cases he_
          | inl e2_ => rw [hq_] at he_; cases he_; exact (e61_.2 z_).1 _ hq_
        · rw [pA_o k40_ z_] at hy_
          cases hq_ : p_ad b_ n_ p_ with
          | inl e2_ => rw [hq_] at hy_; cases hy_
          | inr q_ =>
            rw [hq_] at hy_
            cases hy_
            obtain ⟨z1_, z2_, z3_⟩ := (e61_.2 z_).2 q_ hq_
            refine ⟨⟨z1_, ⟨_, z2_, Or.inl ⟨rfl, Or.inl ⟨rfl, wl_op hwt_ (rp_rtp ht_ hi2_ (by omega))⟩⟩⟩, ?_, v61_, m61_⟩, rfl⟩
            rw [z3_]
            show _ = (((if (if t_ = true then (-2 : Int) else -1) < 0 then 1 else 0) + o_mk o_ : Nat) : Int)
            rw [if_pos (by split <;> decide)]
            push_cast
            omega
  · have cx7_ : ¬ (vx6_ = 0) := of_decide_eq_false cx7_
    have k33_ : lx_kd b_ n_ p_ = 33 := e3_.mp (by omega)
    refine sm_T_go 1 (c1 := (10, [some (.inr (.inr (some (13, 0))))], [.inr (.inr (some (13, 0)))], S0_)) rfl ?_
    refine sm_T_cal (d1 := 0) (Q1 := vq_312 w0_ S0_) rfl rfl (by decide) (vc_312 w0_ S0_ hI_ (by exact hw_)) (fun u_ Sx159_ px162_ => ?_)
    obtain ⟨rfl, vx164_, rfl, px162_⟩ := px162_
    have e10_ := px162_
    refine sm_T_go 1 (c1 := (15, [some (.inr (.inr (some (13, 0))))], [.inl 33, .inl vx164_], S0_)) rfl ?_
    refine sm_T_br (a := 1) (z := 21) rfl (fun cx165_ => ?_) (fun cx165_ => ?_)
    · have cx165_ : vx164_ ≠ 33 := of_decide_eq_true cx165_
      have tf_ := tp_.2 (by omega)
      refine sm_T_go 3 (c1 := (40, [some (.inr (.inr (some (13, 0))))], [.inl 1, .inl 33, .inr (.inr (some (13, 0)))], S0_)) rfl ?_
      refine sm_T_cal (d1 := 0) (Q1 := vq_311 33 1 w0_ S0_) rfl rfl (by decide) (vc_311 33 1 w0_ S0_ hI_ (by exact hw_) (by omega) (by decide) (by decide)) (fun u_ Sx166_ px169_ => ?_)
      obtain ⟨rfl, hIx167_, hFx168_, px169_⟩ := px169_
      have hFx170_ : ai_fr (sx_W vw_319) S0_ Sx166_ := ai_fr_tr hF_ (fr_le hFx168_ rfl)
      have ws40_ := px169_
      have g40_ := rg_fr hg_ hFx168_ rfl rfl rfl
      have t40_ := rtab_fr ht_ hFx168_ rfl rfl rfl rfl rfl
      have v40_ := vs_fr hv_ hFx168_ rfl rfl rfl
      have op40_ := (hFx168_.1 13 0 33 rfl).trans hop_
      refine sm_T_go 1 (c1 := (44, [some (.inr (.inr (some (13, 0))))], [.inr (.inr (some (13, 0)))], Sx166_)) rfl ?_
      refine sm_T_cal (d1 := 2) (Q1 := vq_297 b_ n_ T_ (.inr p_) Sx166_) rfl rfl (by decide) (vc_297 b_ n_ T_ (.inr p_) Sx166_ hIx167_ (by first | exact t40_ | exact rtab_fr ht_ hFx170_ rfl rfl rfl rfl rfl) (by first | exact g40_ | exact hg_) (by (intro q_ e_; cases e_; omega))) (fun u_ Sx171_ px174_ => ?_)
      obtain ⟨rfl, hIx172_, hFx173_, px174_⟩ := px174_
      have hFx175_ : ai_fr (sx_W vw_319) S0_ Sx171_ := ai_fr_tr hFx170_ (fr_le hFx173_ rfl)
      have g44_ := px174_.1
      rw [pb_r rfl] at g44_
      first | (have ws44_ := ws_fr ws40_ hFx173_ rfl rfl rfl) | (have ws44_ := ws_fr ws9_ hFx173_ rfl rfl rfl; rw [x6_] at ws44_) | (have ws44_ := ws_fr ws9_ hFx173_ rfl rfl rfl)
      first | (have v44_ := vs_fr v40_ hFx173_ rfl rfl rfl; have op44_ := (hFx173_.1 13 0 33 rfl).trans op40_) | (have v44_ := vs_fr (vs_137 hv_) hFx173_ rfl rfl rfl; have op44_ := (hFx173_.1 13 0 33 rfl).trans hop_)
      refine sm_T_go 1 (c1 := (48, [some (.inr (.inr (some (13, 0))))], [.inl 0], Sx171_)) rfl ?_
      refine sm_T_rz rfl (by omega) ⟨_, _, rfl, _, rfl, hIx172_, hFx175_, ?_⟩
      refine ⟨fun e_ he_ => ?_, fun y_ hy_ => ?_⟩
      · rw [pA_b k33_] at he_
        cases hq_ : p_ad b_ n_ p_ with
        | inr q_ => rw [hq_] at he_; cases he_
        | inl e2_ =>
          rw [hq_] at he_ g44_
          cases he_
          exact ⟨g44_.1, g44_.2.1, g44_.2.2, by have := ws44_.1; simp only [List.length_cons] at this; omega, (hFx175_.1 13 0 27 rfl).trans hmo1_⟩
      · rw [pA_b k33_] at hy_
        cases hq_ : p_ad b_ n_ p_ with
        | inl e2_ => rw [hq_] at hy_; cases hy_
        | inr q_ =>
          rw [hq_] at hy_ g44_
          cases hy_
          refine ⟨⟨g44_, ⟨_, ws44_, Or.inl ⟨rfl, ?_⟩⟩, op44_, v44_, (hFx175_.1 13 0 27 rfl).trans hmo1_⟩, rfl⟩
          first | exact Or.inr ⟨u0_, rfl, hu2_⟩ | (refine Or.inr ⟨w0_, ?_, tf_.2⟩; rw [tf_.1]; rfl)
    · have cx165_ : ¬ (vx164_ ≠ 33) := of_decide_eq_false cx165_
      obtain ⟨u0_, hu1_, hu2_⟩ := tp_.1 (by omega)
      subst hu1_
      have wx_ : S0_.1 13 0 32 = (u0_.length : Int) + 1 := by rw [hww_, List.length_cons]; push_cast; rfl
      obtain ⟨-, y9_, u9_, w3_, w4_, w5_⟩ := ws_tp hw_ (by omega)
      cases w3_
      have w6_ : S0_.2.2.1 137 0 (S0_.1 13 0 32 - 1).toNat = (if t_ = true then 1 else 0) := w4_
      have x6_ : i_xor (S0_.2.2.1 137 0 (S0_.1 13 0 32 - 1).toNat) 1 = (if (!t_) = true then 1 else 0) := by rw [w6_]; cases t_; exact x1_b.2; exact x1_b.1
      have x7_ : 0 ≤ i_xor (S0_.2.2.1 137 0 (S0_.1 13 0 32 - 1).toNat) 1 ∧ i_xor (S0_.2.2.1 137 0 (S0_.1 13 0 32 - 1).toNat) 1 ≤ 1280 := by rw [x6_]; cases t_ <;> decide
      have ws9_ := ws_top (z_ := i_xor (S0_.2.2.1 137 0 (S0_.1 13 0 32 - 1).toNat) 1) hw_ w5_
      have bx176_ : 0 ≤ S0_.1 13 0 32 ∧ S0_.1 13 0 32 ≤ 1023 := hI_.1 13 0 32 rfl
      refine sm_T_go 5 (c1 := (27, [some (.inr (.inr (some (13, 0))))], [.inl 1, .inl (S0_.1 13 0 32), .inr (.inr (some (137, 0)))], S0_)) rfl ?_
      refine sm_T_bin (w := (S0_.1 13 0 32) - 1) rfl (bi_sub (by omega) (by omega) (by omega)) ?_
      refine sm_T_go 1 (c1 := (29, [some (.inr (.inr (some (13, 0))))], [.inl ((S0_.1 13 0 32) - 1), .inr (.inr (some (137, 0))), .inl ((S0_.1 13 0 32) - 1), .inr (.inr (some (137, 0)))], S0_)) rfl ?_
      refine sm_T_iald (n := 1024) rfl rfl (by omega) (by omega) ?_
      have bx177_ : 0 ≤ S0_.2.2.1 137 0 ((S0_.1 13 0 32) - 1).toNat ∧ S0_.2.2.1 137 0 ((S0_.1 13 0 32) - 1).toNat ≤ 1280 := hI_.2 137 0 _
      refine sm_T_go 1 (c1 := (31, [some (.inr (.inr (some (13, 0))))], [.inl 1, .inl (S0_.2.2.1 137 0 ((S0_.1 13 0 32) - 1).toNat), .inl ((S0_.1 13 0 32) - 1), .inr (.inr (some (137, 0)))], S0_)) rfl ?_
      refine sm_T_bin (w := (i_xor (S0_.2.2.1 137 0 ((S0_.1 13 0 32) - 1).toNat) 1)) rfl rfl ?_
      refine sm_T_iast (n := 1024) rfl rfl (by omega) (by omega) ?_
      have hIx178_ : gi (sm_aI S0_ 137 0 ((S0_.1 13 0 32) - 1).toNat (i_xor (S0_.2.2.1 137 0 ((S0_.1 13 0 32) - 1).toNat) 1)) := gi_aI hI_ (show 0 ≤ (i_xor (S0_.2.2.1 137 0 ((S0_.1 13 0 32) - 1).toNat) 1) ∧ (i_xor (S0_.2.2.1 137 0 ((S0_.1 13 0 32) - 1).toNat) 1) ≤ 1280 from ⟨by omega, by omega⟩)
      have hFx179_ : ai_fr (sx_W vw_319) S0_ (sm_aI S0_ 137 0 ((S0_.1 13 0 32) - 1).toNat (i_xor (S0_.2.2.1 137 0 ((S0_.1 13 0 32) - 1).toNat) 1)) := ai_fr_tr hF_ (ai_fr_aI rfl)
      refine sm_T_go 2 (c1 := (44, [some (.inr (.inr (some (13, 0))))], [.inr (.inr (some (13, 0)))], sm_aI S0_ 137 0 ((S0_.1 13 0 32) - 1).toNat (i_xor (S0_.2.2.1 137 0 ((S0_.1 13 0 32) - 1).toNat) 1))) rfl ?_
      refine sm_T_cal (d1 := 2) (Q1 := vq_297 b_ n_ T_ (.inr p_) (sm_aI S0_ 137 0 ((S0_.1 13 0 32) - 1).toNat (i_xor (S0_.2.2.1 137 0 ((S0_.1 13 0 32) - 1).toNat) 1))) rfl rfl (by decide) (vc_297 b_ n_ T_ (.inr p_) (sm_aI S0_ 137 0 ((S0_.1 13 0 32) - 1).toNat (i_xor (S0_.2.2.1 137 0 ((S0_.1 13 0 32) - 1).toNat) 1)) hIx178_ (by first | exact t40_ | exact rtab_fr ht_ hFx179_ rfl rfl rfl rfl rfl) (by first | exact g40_ | exact hg_) (by (intro q_ e_; cases e_; omega))) (fun u_ Sx180_ px183_ => ?_)
      obtain ⟨rfl, hIx181_, hFx182_, px183_⟩ := px183_
      have hFx184_ : ai_fr (sx_W vw_319) S0_ Sx180_ := ai_fr_tr hFx179_ (fr_le hFx182_ rfl)
      have g44_ := px183_.1
      rw [pb_r rfl] at g44_
      first | (have ws44_ := ws_fr ws40_ hFx182_ rfl rfl rfl) | (have ws44_ := ws_fr ws9_ hFx182_ rfl rfl rfl; rw [x6_] at ws44_) | (have ws44_ := ws_fr ws9_ hFx182_ rfl rfl rfl)
      first | (have v44_ := vs_fr v40_ hFx182_ rfl rfl rfl; have op44_ := (hFx182_.1 13 0 33 rfl).trans op40_) | (have v44_ := vs_fr (vs_137 hv_) hFx182_ rfl rfl rfl; have op44_ := (hFx182_.1 13 0 33 rfl).trans hop_)
      refine sm_T_go 1 (c1 := (48, [some (.inr (.inr (some (13, 0))))], [.inl 0], Sx180_)) rfl ?_
      refine sm_T_rz rfl (by omega) ⟨_, _, rfl, _, rfl, hIx181_, hFx184_, ?_⟩
      refine ⟨fun e_ he_ => ?_, fun y_ hy_ => ?_⟩
      · rw [pA_b k33_] at he_
        cases hq_ : p_ad b_ n_ p_ with
        | inr q_ => rw [hq_] at he_; cases he_
        | inl e2_ =>
          rw [hq_] at he_ g44_
          cases he_
          exact ⟨g44_.1, g44_.2.1, g44_.2.2, by have := ws44_.1; simp only [List.length_cons] at this; omega, (hFx184_.1 13 0 27 rfl).trans hmo1_⟩
      · rw [pA_b k33_] at hy_
        cases hq_ : p_ad b_ n_ p_ with
        | inl e2_ => rw [hq_] at hy_; cases hy_
        | inr q_ =>
          rw [hq_] at hy_ g44_
          cases hy_
          refine ⟨⟨g44_, ⟨_, ws44_, Or.inl ⟨rfl, ?_⟩⟩, op44_, v44_, (hFx184_.1 13 0 27 rfl).trans hmo1_⟩, rfl⟩
          first | exact Or.inr ⟨u0_, rfl, hu2_⟩ | (refine Or.inr ⟨w0_, ?_, tf_.2⟩; rw [tf_.1]; rfl)
end
