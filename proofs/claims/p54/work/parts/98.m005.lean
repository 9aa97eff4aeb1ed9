/-! 99.yba -/
section
/-! the reference: parts of instances; written by wip/p55/gen/vg -/

/-! parts of_ instances -/
theorem pa_pl {b_ : Nat → Int} {n_ d_ p_ : Nat} {A_ : pA} {s_ : Int} (h_ : ¬ (p_fn b_ n_ A_ d_ p_ = -1 ∨ A_.2.2.1 (40 * d_ + (p_fn b_ n_ A_ d_ p_).toNat) ≠ 1)) : pb (p_pa b_ n_ A_ s_ d_ p_) (fun r_ => .inr r_.1) = pb (p_ad b_ n_ p_) fun q_ => if lx_kd b_ n_ q_ = 46 then pb (p_ad b_ n_ q_) (p_bp b_ n_ (A_.2.2.2.1 (40 * d_ + (p_fn b_ n_ A_ d_ p_).toNat))) else .inr q_ := by
  cases h1_ : p_ad b_ n_ p_ with
  | inl e_ => rw [pa_2 h_ h1_]; rfl
  | inr q_ =>
    rw [pb_r (x_ := (.inr q_ : pE Nat)) rfl]
    by_cases g_ : lx_kd b_ n_ q_ = 46
    · rw [if_pos g_]
      cases h2_ : p_ad b_ n_ q_ with
      | inl e_ => rw [pa_4 h_ h1_ g_ h2_]; rfl
      | inr r_ =>
        rw [pa_5 h_ h1_ g_ h2_, bp_bi, pb_r (x_ := (.inr r_ : pE Nat)) rfl]
        cases p_bp b_ n_ (A_.2.2.2.1 (40 * d_ + (p_fn b_ n_ A_ d_ p_).toNat)) r_ <;> rfl
    · rw [if_neg g_, pa_3 h_ h1_ g_]
      rfl
theorem pa_w {b_ : Nat → Int} {n_ d_ p_ : Nat} {A_ : pA} {s_ : Int} {r_ : Nat × Int × List Int} (h_ : ¬ (p_fn b_ n_ A_ d_ p_ = -1 ∨ A_.2.2.1 (40 * d_ + (p_fn b_ n_ A_ d_ p_).toNat) ≠ 1)) (hr_ : p_pa b_ n_ A_ s_ d_ p_ = .inr r_) : ∃ q_, p_ad b_ n_ p_ = .inr q_ ∧ r_.2.1 = if lx_kd b_ n_ q_ = 46 then 1 else A_.2.2.2.1 (40 * d_ + (p_fn b_ n_ A_ d_ p_).toNat) := by
  unfold p_pa at hr_
  rw [if_neg h_] at hr_
  obtain ⟨q_, h1_, h2_⟩ := pb_inr hr_
  refine ⟨q_, h1_, ?_⟩
  split at h2_
  · rename_i g_
    rw [if_pos g_]
    obtain ⟨u_, h3_, h4_⟩ := pb_inr h2_
    rw [bp_bi] at h4_
    obtain ⟨v_, h5_, h6_⟩ := pb_inr h4_
    cases h6_
    rfl
  · rename_i g_
    rw [if_neg g_]
    cases h2_
    rfl
theorem r_s2_b {k_ : Int} (h_ : 0 ≤ k_ ∧ k_ ≤ 5) : (r_s2 k_ = 2 ↔ k_ = 1) ∧ (r_s2 k_ = 5 ↔ k_ = 5) ∧ (r_s2 k_ = 4 ↔ k_ = 3 ∨ k_ = 4) ∧ (r_s2 k_ = 1 ↔ k_ = 0) ∧ 1 ≤ r_s2 k_ ∧ r_s2 k_ ≤ 5 := by
  unfold r_s2
  split
  · omega
  · split <;> omega
theorem rp_rtk {b_ : Nat → Int} {n_ T_ i_ p_ : Nat} {S_ : sm_S} (ht_ : rtab b_ n_ T_ S_) (h_ : rp b_ n_ T_ i_ p_) (hk_ : lx_kd b_ n_ p_ = 1) : rtk b_ n_ T_ (i_ : Int) p_ ∧ i_ < T_ := by
  have h1_ := rp_at ht_ h_
  have h2_ : p_ < n_ := by
    by_cases g_ : p_ < n_
    · exact g_
    · exfalso
      rw [show p_ = n_ by have := h1_.2.2.2.1; omega, lx_kd_n] at hk_
      omega
  exact ⟨⟨i_, rfl, h1_.2.2.2.2.1.mpr h2_, h_.2.1, by omega, hk_⟩, h1_.2.2.2.2.1.mpr h2_⟩
/-! M_.ofInstance -/
def vw_326 : sx_Wl := ([(13, 9), (13, 10), (13, 11)], [138, 139], [])
def vq_326 (s_ : Int) (b_ : Nat → Int) (n_ : Nat) (T_ : Nat) (mo_ : Int) (p_ : Nat) (i_ : Nat) (gl_ : Nat) (A_ : pA) (M_ : Nat) (s9_ : Nat) (S0_ : sm_S) (u_ : Option sm_V) (S1_ : sm_S) : Prop := u_ = none ∧ gi S1_ ∧ ai_fr (sx_W vw_326) S0_ S1_ ∧ (rg b_ n_ T_ (pb (p_pa b_ n_ A_ s_ (A_.2.2.2.2 (40 * M_ + s9_)).toNat p_) fun r_ => .inr r_.1) S1_ ∧ ∀ r_, p_pa b_ n_ A_ s_ (A_.2.2.2.2 (40 * M_ + s9_)).toNat p_ = .inr r_ → ∀ l_ : List Int, l_.length = gl_ → stk (S0_.2.2.1 138 0) l_ → stk (S1_.2.2.1 138 0) (r_.2.1 :: l_))
set_option maxHeartbeats 1500000 in
theorem vc_326 {sc_ : Nat × (Nat → Int)} (s_ : Int) (b_ : Nat → Int) (n_ : Nat) (T_ : Nat) (mo_ : Int) (p_ : Nat) (i_ : Nat) (gl_ : Nat) (A_ : pA) (M_ : Nat) (s9_ : Nat) (S0_ : sm_S) (hI_ : gi S0_) (ht_ : rtab b_ n_ T_ S0_) (hf_ : (S0_.1 13 0 10) = 0) (hi_ : (S0_.1 13 0 9) = (i_ : Int) ∧ rp b_ n_ T_ i_ p_) (hv_ : (S0_.1 13 0 34) = (gl_ : Int) ∧ gl_ ≤ 1000) (hmo_ : (S0_.1 13 0 27) = mo_) (hw_ : (S0_.1 13 0 32) ≤ 800) (hA_ : a_ok b_ n_ A_ M_) (hmd_ : (S0_.1 13 0 28) = (M_ : Int)) (hre_ : ∀ m_, m_ ≤ M_ → re1 b_ n_ T_ A_ m_ S0_) (hk_ : lx_kd b_ n_ p_ = 1) (hm1_ : mo_ ≠ 1) (hs9_ : s_ = (s9_ : Int) ∧ s9_ < A_.1 M_) (h5_ : A_.2.2.1 (40 * M_ + s9_) = 5) : sm_T (mt_P sc_) 4 326 (0, [some (.inr (.inr (some (13, 0)))), some (.inl s_), none, none, none], [], S0_) (fun r_ => ∃ u_ S1_, r_ = (.inl u_, S1_, 0) ∧ vq_326 s_ b_ n_ T_ mo_ p_ i_ gl_ A_ M_ s9_ S0_ u_ S1_) := by
  have hF_ : ai_fr (sx_W vw_326) S0_ S0_ := ai_fr_rf
  have hx_ : rg b_ n_ T_ (.inr p_) S0_ := ⟨hf_, i_, hi_.1, hi_.2⟩
  have hi9_ := hi_.2.1
  have hT_ := ht_.2.1
  have rt1_ := rp_rtk ht_ hi_.2 hk_
  have ra_ := rp_at ht_ hi_.2
  have rk_ := r_st_3 (lx_kd_r hi_.2.2.2.1)
  have e4_ : (S0_.1 13 0 9).toNat = i_ := by omega
  have hM1_ := hA_.1
  have aM_ := hA_.2 M_ (Nat.le_refl _)
  have aM1_ := aM_.1
  have d5_ := (aM_.2 s9_ hs9_.2).2.2.2.2.1 h5_
  have e13_ : S0_.2.2.1 130 0 (40 * (S0_.1 13 0 28) + s_).toNat = A_.2.2.2.2 (40 * M_ + s9_) := by rw [show (40 * (S0_.1 13 0 28) + s_).toNat = 40 * M_ + s9_ by omega]; exact ((hre_ M_ (Nat.le_refl _)).2 s9_ hs9_.2).2.2.2.1
  have bx1_ : 0 ≤ S0_.1 13 0 28 ∧ S0_.1 13 0 28 ≤ 15 := hI_.1 13 0 28 rfl
  refine sm_T_go 5 (c1 := (10, [some (.inr (.inr (some (13, 0)))), some (.inl s_), none, none, none], [.inl (S0_.1 13 0 28), .inl 40, .inr (.inr (some (130, 0)))], S0_)) rfl ?_
  refine sm_T_bin (w := 40 * (S0_.1 13 0 28)) rfl (bi_mul (by omega) (by omega) (by omega)) ?_
  refine sm_T_go 1 (c1 := (12, [some (.inr (.inr (some (13, 0)))), some (.inl s_), none, none, none], [.inl s_, .inl (40 * (S0_.1 13 0 28)), .inr (.inr (some (130, 0)))], S0_)) rfl ?_
  refine sm_T_bin (w := 40 * (S0_.1 13 0 28) + s_) rfl (bi_add (by omega) (by omega) (by omega)) ?_
  refine sm_T_iald (n := 640) rfl rfl (by omega) (by omega) ?_
  have bx2_ : 0 ≤ S0_.2.2.1 130 0 (40 * (S0_.1 13 0 28) + s_).toNat ∧ S0_.2.2.1 130 0 (40 * (S0_.1 13 0 28) + s_).toNat ≤ 2147483647 := hI_.2 130 0 _
  have bx3_ : 0 ≤ S0_.1 13 0 9 ∧ S0_.1 13 0 9 ≤ 1280 := hI_.1 13 0 9 rfl
  refine sm_T_go 5 (c1 := (21, [some (.inr (.inr (some (13, 0)))), some (.inl s_), some (.inl (S0_.2.2.1 130 0 (40 * (S0_.1 13 0 28) + s_).toNat)), none, none], [.inl (S0_.1 13 0 9), .inl (S0_.2.2.1 130 0 (40 * (S0_.1 13 0 28) + s_).toNat), .inr (.inr (some (13, 0)))], S0_)) rfl ?_
  refine sm_T_cal (d1 := 1) (Q1 := vq_302 (S0_.2.2.1 130 0 (40 * (S0_.1 13 0 28) + s_).toNat) (S0_.1 13 0 9) b_ n_ T_ A_ (A_.2.2.2.2 (40 * M_ + s9_)).toNat p_ S0_) rfl rfl (by decide) (vc_302 (S0_.2.2.1 130 0 (40 * (S0_.1 13 0 28) + s_).toNat) (S0_.1 13 0 9) b_ n_ T_ A_ (A_.2.2.2.2 (40 * M_ + s9_)).toNat p_ S0_ hI_ (by exact ht_) (by exact ⟨by rw [e13_]; omega, by omega⟩) (by exact hre_ _ (by omega)) (by exact (hA_.2 _ (by omega)).1) (by rw [hi_.1]; exact rt1_.1)) (fun u_ Sx4_ px7_ => ?_)
  obtain ⟨rfl, vx9_, rfl, px7_⟩ := px7_
  have e21_ := px7_
  have hfb_ := p_fd_b (f_ := fun s_ => nm_q b_ n_ (A_.2.1 (40 * (A_.2.2.2.2 (40 * M_ + s9_)).toNat + s_)) p_) (A_.1 (A_.2.2.2.2 (40 * M_ + s9_)).toNat)
  have hf0_ : p_fn b_ n_ A_ (A_.2.2.2.2 (40 * M_ + s9_)).toNat p_ = p_fd (fun s_ => nm_q b_ n_ (A_.2.1 (40 * (A_.2.2.2.2 (40 * M_ + s9_)).toNat + s_)) p_) (A_.1 (A_.2.2.2.2 (40 * M_ + s9_)).toNat) := rfl
  have hix_ : vx9_ ≠ -1 → ∃ o9_ : Nat, vx9_ = (o9_ : Int) ∧ o9_ < A_.1 (A_.2.2.2.2 (40 * M_ + s9_)).toNat ∧ (p_fn b_ n_ A_ (A_.2.2.2.2 (40 * M_ + s9_)).toNat p_).toNat = o9_ ∧ (40 * S0_.2.2.1 130 0 (40 * (S0_.1 13 0 28) + s_).toNat + vx9_).toNat = 40 * (A_.2.2.2.2 (40 * M_ + s9_)).toNat + o9_ := fun z_ => by obtain ⟨o9_, q1_, q2_, q3_, -⟩ := p_fn_b (b_ := b_) (n_ := n_) (A_ := A_) (m_ := (A_.2.2.2.2 (40 * M_ + s9_)).toNat) (p_ := p_) (by omega); exact ⟨o9_, by omega, q2_, q3_, by omega⟩
  have hA9_ := (hA_.2 (A_.2.2.2.2 (40 * M_ + s9_)).toNat (by omega)).1
  refine sm_T_go 3 (c1 := (27, [some (.inr (.inr (some (13, 0)))), some (.inl s_), some (.inl (S0_.2.2.1 130 0 (40 * (S0_.1 13 0 28) + s_).toNat)), some (.inl vx9_), none], [.inl (-1), .inl vx9_], S0_)) rfl ?_
  refine sm_T_br (a := 0) (z := 18) rfl (fun cx10_ => ?_) (fun cx10_ => ?_)
  · have cx10_ : vx9_ = (-1) := of_decide_eq_true cx10_
    refine sm_T_go 4 (c1 := (52, [some (.inr (.inr (some (13, 0)))), some (.inl s_), some (.inl (S0_.2.2.1 130 0 (40 * (S0_.1 13 0 28) + s_).toNat)), some (.inl vx9_), none], [.inl (S0_.1 13 0 9), .inl 11, .inr (.inr (some (13, 0)))], S0_)) rfl ?_
    refine sm_T_cal (d1 := 0) (Q1 := vq_293 11 (S0_.1 13 0 9) S0_) rfl rfl (by decide) (vc_293 11 (S0_.1 13 0 9) S0_ hI_ (by decide) (by omega)) (fun u_ Sx11_ px14_ => ?_)
    obtain ⟨rfl, hIx12_, hFx13_, px14_⟩ := px14_
    have hFx15_ : ai_fr (sx_W vw_326) S0_ Sx11_ := ai_fr_tr hF_ (fr_le hFx13_ rfl)
    have ex16_ : Sx11_.1 13 0 9 = S0_.1 13 0 9 := hFx13_.1 13 0 9 rfl
    have ex17_ : Sx11_.1 13 0 28 = S0_.1 13 0 28 := hFx13_.1 13 0 28 rfl
    have e52_ := px14_
    refine sm_T_rv rfl ⟨_, _, rfl, rfl, hIx12_, hFx15_, ?_⟩
    have hbad : p_fn b_ n_ A_ (A_.2.2.2.2 (40 * M_ + s9_)).toNat p_ = -1 ∨ A_.2.2.1 (40 * (A_.2.2.2.2 (40 * M_ + s9_)).toNat + (p_fn b_ n_ A_ (A_.2.2.2.2 (40 * M_ + s9_)).toNat p_).toNat) ≠ 1 := by first | (left; omega) | (right; rw [otn_]; intro z_; have := sb_.mpr z_; omega)
    have hp_ : p_pa b_ n_ A_ s_ (A_.2.2.2.2 (40 * M_ + s9_)).toNat p_ = .inl (11, p_) := pa_1 hbad
    refine ⟨?_, fun r_ hr_ => by rw [hp_] at hr_; cases hr_⟩
    rw [hp_]
    rcases e52_ with z_ | z_
    · exact absurd hf_ z_.1
    · refine ⟨z_.2.1.trans (if_neg ?_), ?_, by show (11 : Int) ≠ 0; decide⟩
      · rw [e4_, ra_.1]; exact rk_.2.2.2.2.2
      · rw [z_.2.2, e4_]; exact ra_.2.1
  · have cx10_ : ¬ (vx9_ = (-1)) := of_decide_eq_false cx10_
    obtain ⟨o9_, ov_, olt_, otn_, oix_⟩ := hix_ (by omega)
    have ro_ := (hre_ (A_.2.2.2.2 (40 * M_ + s9_)).toNat (by omega)).2 o9_ olt_
    have ao_ := (hA_.2 (A_.2.2.2.2 (40 * M_ + s9_)).toNat (by omega)).2 o9_ olt_
    have sb_ := (r_s2_b ao_.2.1).1
    have so9_ := (congrArg (S0_.2.2.1 128 0) oix_).trans ro_.2.1
    refine sm_T_go 4 (c1 := (37, [some (.inr (.inr (some (13, 0)))), some (.inl s_), some (.inl (S0_.2.2.1 130 0 (40 * (S0_.1 13 0 28) + s_).toNat)), some (.inl vx9_), none], [.inl (S0_.2.2.1 130 0 (40 * (S0_.1 13 0 28) + s_).toNat), .inl 40, .inr (.inr (some (128, 0)))], S0_)) rfl ?_
    refine sm_T_bin (w := 40 * (S0_.2.2.1 130 0 (40 * (S0_.1 13 0 28) + s_).toNat)) rfl (bi_mul (by omega) (by omega) (by omega)) ?_
    refine sm_T_go 1 (c1 := (39, [some (.inr (.inr (some (13, 0)))), some (.inl s_), some (.inl (S0_.2.2.1 130 0 (40 * (S0_.1 13 0 28) + s_).toNat)), some (.inl vx9_), none], [.inl vx9_, .inl (40 * (S0_.2.2.1 130 0 (40 * (S0_.1 13 0 28) + s_).toNat)), .inr (.inr (some (128, 0)))], S0_)) rfl ?_
    refine sm_T_bin (w := 40 * (S0_.2.2.1 130 0 (40 * (S0_.1 13 0 28) + s_).toNat) + vx9_) rfl (bi_add (by omega) (by omega) (by omega)) ?_
    refine sm_T_iald (n := 640) rfl rfl (by omega) (by omega) ?_
    have bx18_ : 0 ≤ S0_.2.2.1 128 0 (40 * (S0_.2.2.1 130 0 (40 * (S0_.1 13 0 28) + s_).toNat) + vx9_).toNat ∧ S0_.2.2.1 128 0 (40 * (S0_.2.2.1 130 0 (40 * (S0_.1 13 0 28) + s_).toNat) + vx9_).toNat ≤ 5 := hI_.2 128 0 _
    refine sm_T_go 1 (c1 := (42, [some (.inr (.inr (some (13, 0)))), some (.inl s_), some (.inl (S0_.2.2.1 130 0 (40 * (S0_.1 13 0 28) + s_).toNat)), some (.inl vx9_), none], [.inl 2, .inl (S0_.2.2.1 128 0 (40 * (S0_.2.2.1 130 0 (40 * (S0_.1 13 0 28) + s_).toNat) + vx9_).toNat)], S0_)) rfl ?_
    refine sm_T_br (a := 0) (z := 14) rfl (fun cx19_ => ?_) (fun cx19_ => ?_)
    · have cx19_ : (S0_.2.2.1 128 0 (40 * (S0_.2.2.1 130 0 (40 * (S0_.1 13 0 28) + s_).toNat) + vx9_).toNat) = 2 := of_decide_eq_true cx19_
      have hng_ : ¬ (p_fn b_ n_ A_ (A_.2.2.2.2 (40 * M_ + s9_)).toNat p_ = -1 ∨ A_.2.2.1 (40 * (A_.2.2.2.2 (40 * M_ + s9_)).toNat + (p_fn b_ n_ A_ (A_.2.2.2.2 (40 * M_ + s9_)).toNat p_).toNat) ≠ 1) := by rintro (z_ | z_); omega; (rw [otn_] at z_; exact z_ (sb_.mp (by omega)))
      refine sm_T_go 1 (c1 := (57, [some (.inr (.inr (some (13, 0)))), some (.inl s_), some (.inl (S0_.2.2.1 130 0 (40 * (S0_.1 13 0 28) + s_).toNat)), some (.inl vx9_), none], [.inr (.inr (some (13, 0)))], S0_)) rfl ?_
      refine sm_T_cal (d1 := 2) (Q1 := vq_297 b_ n_ T_ (.inr p_) S0_) rfl rfl (by decide) (vc_297 b_ n_ T_ (.inr p_) S0_ hI_ (by exact ht_) (by exact hx_) (by (intro q_ e_; cases e_; omega))) (fun u_ Sx20_ px23_ => ?_)
      obtain ⟨rfl, hIx21_, hFx22_, px23_⟩ := px23_
      have hFx24_ : ai_fr (sx_W vw_326) S0_ Sx20_ := ai_fr_tr hF_ (fr_le hFx22_ rfl)
      have ex25_ : Sx20_.1 13 0 28 = S0_.1 13 0 28 := hFx22_.1 13 0 28 rfl
      have g57_ := px23_.1
      rw [pb_r rfl] at g57_
      have t57_ := rtab_fr ht_ hFx22_ rfl rfl rfl rfl rfl
      have w57_ := fr_arr (t := 138) (i := 0) hFx22_ rfl
      have nw57_ := fr_arr (t := 129) (i := 0) hFx22_ rfl
      have v57_ : Sx20_.1 13 0 34 = (gl_ : Int) := (hFx24_.1 13 0 34 rfl).trans hv_.1
      have m57_ : Sx20_.1 13 0 27 = mo_ := (hFx24_.1 13 0 27 rfl).trans hmo_
      have wb_ := ao_.2.2.1
      have wdx_ : A_.2.2.2.1 (40 * (A_.2.2.2.2 (40 * M_ + s9_)).toNat + (p_fn b_ n_ A_ (A_.2.2.2.2 (40 * M_ + s9_)).toNat p_).toNat) = A_.2.2.2.1 (40 * (A_.2.2.2.2 (40 * M_ + s9_)).toNat + o9_) := by rw [otn_]
      have wd57_ := (congrFun nw57_ _).trans ((congrArg (S0_.2.2.1 129 0) oix_).trans (ro_.2.2.1.trans wdx_.symm))
      have wb2_ := wb_
      rw [← wdx_] at wb2_
      refine sm_T_go 4 (c1 := (67, [some (.inr (.inr (some (13, 0)))), some (.inl s_), some (.inl (S0_.2.2.1 130 0 (40 * (S0_.1 13 0 28) + s_).toNat)), some (.inl vx9_), none], [.inl (S0_.2.2.1 130 0 (40 * (S0_.1 13 0 28) + s_).toNat), .inl 40, .inr (.inr (some (129, 0)))], Sx20_)) rfl ?_
      refine sm_T_bin (w := 40 * (S0_.2.2.1 130 0 (40 * (S0_.1 13 0 28) + s_).toNat)) rfl (bi_mul (by omega) (by omega) (by omega)) ?_
      refine sm_T_go 1 (c1 := (69, [some (.inr (.inr (some (13, 0)))), some (.inl s_), some (.inl (S0_.2.2.1 130 0 (40 * (S0_.1 13 0 28) + s_).toNat)), some (.inl vx9_), none], [.inl vx9_, .inl (40 * (S0_.2.2.1 130 0 (40 * (S0_.1 13 0 28) + s_).toNat)), .inr (.inr (some (129, 0)))], Sx20_)) rfl ?_
      refine sm_T_bin (w := 40 * (S0_.2.2.1 130 0 (40 * (S0_.1 13 0 28) + s_).toNat) + vx9_) rfl (bi_add (by omega) (by omega) (by omega)) ?_
      refine sm_T_iald (n := 640) rfl rfl (by omega) (by omega) ?_
      have bx26_ : 0 ≤ Sx20_.2.2.1 129 0 (40 * (S0_.2.2.1 130 0 (40 * (S0_.1 13 0 28) + s_).toNat) + vx9_).toNat ∧ Sx20_.2.2.1 129 0 (40 * (S0_.2.2.1 130 0 (40 * (S0_.1 13 0 28) + s_).toNat) + vx9_).toNat ≤ 8 := hIx21_.2 129 0 _
      have bx27_ : 0 ≤ Sx20_.1 13 0 29 ∧ Sx20_.1 13 0 29 ≤ 16 := hIx21_.1 13 0 29 rfl
      refine sm_T_go 9 (c1 := (87, [some (.inr (.inr (some (13, 0)))), some (.inl s_), some (.inl (S0_.2.2.1 130 0 (40 * (S0_.1 13 0 28) + s_).toNat)), some (.inl vx9_), some (.inl (Sx20_.2.2.1 129 0 (40 * (S0_.2.2.1 130 0 (40 * (S0_.1 13 0 28) + s_).toNat) + vx9_).toNat))], [.inl (Sx20_.1 13 0 29), .inl 40, .inl 40, .inl 8, .inl 1, .inl (Sx20_.2.2.1 129 0 (40 * (S0_.2.2.1 130 0 (40 * (S0_.1 13 0 28) + s_).toNat) + vx9_).toNat), .inr (.inr (some (13, 0)))], Sx20_)) rfl ?_
      refine sm_T_bin (w := 40 * (Sx20_.1 13 0 29)) rfl (bi_mul (by omega) (by omega) (by omega)) ?_
      refine sm_T_go 1 (c1 := (89, [some (.inr (.inr (some (13, 0)))), some (.inl s_), some (.inl (S0_.2.2.1 130 0 (40 * (S0_.1 13 0 28) + s_).toNat)), some (.inl vx9_), some (.inl (Sx20_.2.2.1 129 0 (40 * (S0_.2.2.1 130 0 (40 * (S0_.1 13 0 28) + s_).toNat) + vx9_).toNat))], [.inl s_, .inl (40 * (Sx20_.1 13 0 29)), .inl 40, .inl 8, .inl 1, .inl (Sx20_.2.2.1 129 0 (40 * (S0_.2.2.1 130 0 (40 * (S0_.1 13 0 28) + s_).toNat) + vx9_).toNat), .inr (.inr (some (13, 0)))], Sx20_)) rfl ?_
      refine sm_T_bin (w := 40 * (Sx20_.1 13 0 29) + s_) rfl (bi_add (by omega) (by omega) (by omega)) ?_
      refine sm_T_bin (w := 1600 * (Sx20_.1 13 0 29) + 40 * s_) rfl (bi_mul (by omega) (by omega) (by omega)) ?_
      refine sm_T_go 1 (c1 := (92, [some (.inr (.inr (some (13, 0)))), some (.inl s_), some (.inl (S0_.2.2.1 130 0 (40 * (S0_.1 13 0 28) + s_).toNat)), some (.inl vx9_), some (.inl (Sx20_.2.2.1 129 0 (40 * (S0_.2.2.1 130 0 (40 * (S0_.1 13 0 28) + s_).toNat) + vx9_).toNat))], [.inl vx9_, .inl (1600 * (Sx20_.1 13 0 29) + 40 * s_), .inl 8, .inl 1, .inl (Sx20_.2.2.1 129 0 (40 * (S0_.2.2.1 130 0 (40 * (S0_.1 13 0 28) + s_).toNat) + vx9_).toNat), .inr (.inr (some (13, 0)))], Sx20_)) rfl ?_
      refine sm_T_bin (w := 1600 * (Sx20_.1 13 0 29) + 40 * s_ + vx9_) rfl (bi_add (by omega) (by omega) (by omega)) ?_
      refine sm_T_bin (w := 12800 * (Sx20_.1 13 0 29) + 320 * s_ + 8 * vx9_) rfl (bi_mul (by omega) (by omega) (by omega)) ?_
      refine sm_T_cal (d1 := 0) (Q1 := vq_333 (Sx20_.2.2.1 129 0 (40 * (S0_.2.2.1 130 0 (40 * (S0_.1 13 0 28) + s_).toNat) + vx9_).toNat) 1 (12800 * (Sx20_.1 13 0 29) + 320 * s_ + 8 * vx9_) mo_ gl_ Sx20_) rfl rfl (by decide) (vc_333 (Sx20_.2.2.1 129 0 (40 * (S0_.2.2.1 130 0 (40 * (S0_.1 13 0 28) + s_).toNat) + vx9_).toNat) 1 (12800 * (Sx20_.1 13 0 29) + 320 * s_ + 8 * vx9_) mo_ gl_ Sx20_ hIx21_ (by exact ⟨v57_, hv_.2⟩) (by exact m57_) (by exact hm1_) (by omega)) (fun u_ Sx28_ px31_ => ?_)
      obtain ⟨rfl, hIx29_, hFx30_, px31_⟩ := px31_
      have hFx32_ : ai_fr (sx_W vw_326) S0_ Sx28_ := ai_fr_tr hFx24_ (fr_le hFx30_ rfl)
      have ex33_ : Sx28_.1 13 0 29 = Sx20_.1 13 0 29 := hFx30_.1 13 0 29 rfl
      have c94_ := px31_
      have g94_ := rg_fr g57_ hFx30_ rfl rfl rfl
      have t94_ := rtab_fr t57_ hFx30_ rfl rfl rfl rfl rfl
      have v94_ : Sx28_.1 13 0 34 = (gl_ : Int) := (hFx32_.1 13 0 34 rfl).trans hv_.1
      refine sm_T_go 2 (c1 := (100, [some (.inr (.inr (some (13, 0)))), some (.inl s_), some (.inl (S0_.2.2.1 130 0 (40 * (S0_.1 13 0 28) + s_).toNat)), some (.inl vx9_), some (.inl (Sx20_.2.2.1 129 0 (40 * (S0_.2.2.1 130 0 (40 * (S0_.1 13 0 28) + s_).toNat) + vx9_).toNat))], [.inl 46, .inr (.inr (some (13, 0)))], Sx28_)) rfl ?_
      refine sm_T_cal (d1 := 0) (Q1 := vq_295 46 b_ n_ T_ (p_ad b_ n_ p_) Sx28_) rfl rfl (by decide) (vc_295 46 b_ n_ T_ (p_ad b_ n_ p_) Sx28_ hIx29_ (by exact t94_) (by exact g94_) (by decide)) (fun u_ Sx34_ px37_ => ?_)
      obtain ⟨rfl, vx39_, rfl, px37_⟩ := px37_
      have e100_ := px37_.2
      refine sm_T_b0 (a := 0) (z := 13) rfl (fun cx40_ => ?_) (fun cx40_ => ?_)
      · have cx40_ : vx39_ = 0 := of_decide_eq_true cx40_
        refine sm_T_rv rfl ⟨_, _, rfl, rfl, hIx29_, hFx32_, ?_⟩
        rw [wd57_] at c94_
        cases hq_ : p_ad b_ n_ p_ with
        | inl e_ =>
          have hp_ : p_pa b_ n_ A_ s_ (A_.2.2.2.2 (40 * M_ + s9_)).toNat p_ = .inl e_ := pa_2 hng_ hq_
          refine ⟨?_, fun r_ hr_ => by rw [hp_] at hr_; cases hr_⟩
          rw [hp_]
          first | (have e114_ := e113_.1; rw [hq_] at e114_; exact e114_) | (rw [hq_] at g94_; exact g94_)
        | inr q_ =>
          have hk46_ := e100_ q_ hq_
          refine ⟨?_, fun r_ hr_ l_ hl_ hs_ => ?_⟩
          · rw [pa_pl hng_, hq_, pb_r rfl]
            first | (rw [if_pos (hk46_.mp (by omega))]; have e114_ := e113_.1; rw [hq_, pb_r rfl] at e114_; exact e114_) | (rw [if_neg (fun z_ => by have := hk46_.mpr z_; omega)]; rw [hq_] at g94_; exact g94_)
          · obtain ⟨q9_, hq9_, hw9_⟩ := pa_w hng_ hr_
            rw [hq_] at hq9_
            cases hq9_
            rw [hw9_]
            have hs2_ := hs_
            rw [← w57_] at hs2_
            first | (rw [if_pos (hk46_.mp (by omega))]; have hr2_ := pa_pl (s_ := s_) hng_; rw [hr_, hq_, pb_r rfl, pb_r rfl, if_pos (hk46_.mp (by omega))] at hr2_; refine e113_.2 _ (by rw [hq_, pb_r rfl]; exact hr2_.symm) l_ hl_ ?_; rw [w107_]; exact (c94_ l_ hl_ hs2_).2) | (rw [if_neg (fun z_ => by have := hk46_.mpr z_; omega)]; exact c94_ l_ hl_ hs2_)
      · have cx40_ : ¬ (vx39_ = 0) := of_decide_eq_false cx40_
        refine sm_T_go 1 (c1 := (107, [some (.inr (.inr (some (13, 0)))), some (.inl s_), some (.inl (S0_.2.2.1 130 0 (40 * (S0_.1 13 0 28) + s_).toNat)), some (.inl vx9_), some (.inl (Sx20_.2.2.1 129 0 (40 * (S0_.2.2.1 130 0 (40 * (S0_.1 13 0 28) + s_).toNat) + vx9_).toNat))], [.inr (.inr (some (13, 0)))], Sx28_)) rfl ?_
        refine sm_T_cal (d1 := 2) (Q1 := vq_297 b_ n_ T_ (p_ad b_ n_ p_) Sx28_) rfl rfl (by decide) (vc_297 b_ n_ T_ (p_ad b_ n_ p_) Sx28_ hIx29_ (by exact t94_) (by exact g94_) (by (intro q_ e_; have := (e100_ q_ e_).mp (by omega); omega))) (fun u_ Sx41_ px44_ => ?_)
        obtain ⟨rfl, hIx42_, hFx43_, px44_⟩ := px44_
        have hFx45_ : ai_fr (sx_W vw_326) S0_ Sx41_ := ai_fr_tr hFx32_ (fr_le hFx43_ rfl)
        have g107_ := px44_.1
        have t107_ := rtab_fr t94_ hFx43_ rfl rfl rfl rfl rfl
        have w107_ := fr_arr (t := 138) (i := 0) hFx43_ rfl
        have v107_ : Sx41_.1 13 0 34 = (gl_ : Int) := (hFx45_.1 13 0 34 rfl).trans hv_.1
        refine sm_T_go 2 (c1 := (113, [some (.inr (.inr (some (13, 0)))), some (.inl s_), some (.inl (S0_.2.2.1 130 0 (40 * (S0_.1 13 0 28) + s_).toNat)), some (.inl vx9_), some (.inl (Sx20_.2.2.1 129 0 (40 * (S0_.2.2.1 130 0 (40 * (S0_.1 13 0 28) + s_).toNat) + vx9_).toNat))], [.inl (Sx20_.2.2.1 129 0 (40 * (S0_.2.2.1 130 0 (40 * (S0_.1 13 0 28) + s_).toNat) + vx9_).toNat), .inr (.inr (some (13, 0)))], Sx41_)) rfl ?_
        refine sm_T_cal (d1 := 3) (Q1 := vq_325 (Sx20_.2.2.1 129 0 (40 * (S0_.2.2.1 130 0 (40 * (S0_.1 13 0 28) + s_).toNat) + vx9_).toNat) b_ n_ T_ (pb (p_ad b_ n_ p_) (p_ad b_ n_)) mo_ gl_ Sx41_) rfl rfl (by decide) (vc_325 (Sx20_.2.2.1 129 0 (40 * (S0_.2.2.1 130 0 (40 * (S0_.1 13 0 28) + s_).toNat) + vx9_).toNat) b_ n_ T_ (pb (p_ad b_ n_ p_) (p_ad b_ n_)) mo_ gl_ Sx41_ hIx42_ (by exact t107_) (by exact g107_) (by exact ⟨v107_, hv_.2⟩) (by omega)) (fun u_ Sx46_ px49_ => ?_)
        obtain ⟨rfl, hIx47_, hFx48_, px49_⟩ := px49_
        have hFx50_ : ai_fr (sx_W vw_326) S0_ Sx46_ := ai_fr_tr hFx45_ (fr_le hFx48_ rfl)
        have e113_ := px49_
        rw [wd57_] at e113_
        refine sm_T_rv rfl ⟨_, _, rfl, rfl, hIx47_, hFx50_, ?_⟩
        rw [wd57_] at c94_
        cases hq_ : p_ad b_ n_ p_ with
        | inl e_ =>
          have hp_ : p_pa b_ n_ A_ s_ (A_.2.2.2.2 (40 * M_ + s9_)).toNat p_ = .inl e_ := pa_2 hng_ hq_
          refine ⟨?_, fun r_ hr_ => by rw [hp_] at hr_; cases hr_⟩
          rw [hp_]
          first | (have e114_ := e113_.1; rw [hq_] at e114_; exact e114_) | (rw [hq_] at g94_; exact g94_)
        | inr q_ =>
          have hk46_ := e100_ q_ hq_
          refine ⟨?_, fun r_ hr_ l_ hl_ hs_ => ?_⟩
          · rw [pa_pl hng_, hq_, pb_r rfl]
            first | (rw [if_pos (hk46_.mp (by omega))]; have e114_ := e113_.1; rw [hq_, pb_r rfl] at e114_; exact e114_) | (rw [if_neg (fun z_ => by have := hk46_.mpr z_; omega)]; rw [hq_] at g94_; exact g94_)
          · obtain ⟨q9_, hq9_, hw9_⟩ := pa_w hng_ hr_
            rw [hq_] at hq9_
            cases hq9_
            rw [hw9_]
            have hs2_ := hs_
            rw [← w57_] at hs2_
            first | (rw [if_pos (hk46_.mp (by omega))]; have hr2_ := pa_pl (s_ := s_) hng_; rw [hr_, hq_, pb_r rfl, pb_r rfl, if_pos (hk46_.mp (by omega))] at hr2_; refine e113_.2 _ (by rw [hq_, pb_r rfl]; exact hr2_.symm) l_ hl_ ?_; rw [w107_]; exact (c94_ l_ hl_ hs2_).2) | (rw [if_neg (fun z_ => by have := hk46_.mpr z_; omega)]; exact c94_ l_ hl_ hs2_)
    · have cx19_ : ¬ ((S0_.2.2.1 128 0 (40 * (S0_.2.2.1 130 0 (40 * (S0_.1 13 0 28) + s_).toNat) + vx9_).toNat) = 2) := of_decide_eq_false cx19_
      refine sm_T_go 4 (c1 := (52, [some (.inr (.inr (some (13, 0)))), some (.inl s_), some (.inl (S0_.2.2.1 130 0 (40 * (S0_.1 13 0 28) + s_).toNat)), some (.inl vx9_), none], [.inl (S0_.1 13 0 9), .inl 11, .inr (.inr (some (13, 0)))], S0_)) rfl ?_
      refine sm_T_cal (d1 := 0) (Q1 := vq_293 11 (S0_.1 13 0 9) S0_) rfl rfl (by decide) (vc_293 11 (S0_.1 13 0 9) S0_ hI_ (by decide) (by omega)) (fun u_ Sx51_ px54_ => ?_)
      obtain ⟨rfl, hIx52_, hFx53_, px54_⟩ := px54_
      have hFx55_ : ai_fr (sx_W vw_326) S0_ Sx51_ := ai_fr_tr hF_ (fr_le hFx53_ rfl)
      have ex56_ : Sx51_.1 13 0 9 = S0_.1 13 0 9 := hFx53_.1 13 0 9 rfl
      have ex57_ : Sx51_.1 13 0 28 = S0_.1 13 0 28 := hFx53_.1 13 0 28 rfl
      have e52_ := px54_
      refine sm_T_rv rfl ⟨_, _, rfl, rfl, hIx52_, hFx55_, ?_⟩
      have hbad : p_fn b_ n_ A_ (A_.2.2.2.2 (40 * M_ + s9_)).toNat p_ = -1 ∨ A_.2.2.1 (40 * (A_.2.2.2.2 (40 * M_ + s9_)).toNat + (p_fn b_ n_ A_ (A_.2.2.2.2 (40 * M_ + s9_)).toNat p_).toNat) ≠ 1 := by first | (left; omega) | (right; rw [otn_]; intro z_; have := sb_.mpr z_; omega)
      have hp_ : p_pa b_ n_ A_ s_ (A_.2.2.2.2 (40 * M_ + s9_)).toNat p_ = .inl (11, p_) := pa_1 hbad
      refine ⟨?_, fun r_ hr_ => by rw [hp_] at hr_; cases hr_⟩
      rw [hp_]
      rcases e52_ with z_ | z_
      · exact absurd hf_ z_.1
      · refine ⟨z_.2.1.trans (if_neg ?_), ?_, by show (11 : Int) ≠ 0; decide⟩
        · rw [e4_, ra_.1]; exact rk_.2.2.2.2.2
        · rw [z_.2.2, e4_]; exact ra_.2.1
end
/-! 99.yca -/
section
/-! the reference: names; written by wip/p55/gen/vg -/

/-! named values -/
theorem rg_e2 {b_ : Nat → Int} {n_ T_ : Nat} {e_ : Int × Nat} {S_ S'_ : sm_S} (h_ : rg b_ n_ T_ (.inl e_) S_) (h1_ : S'_.1 13 0 10 = S_.1 13 0 10) (h2_ : S'_.1 13 0 11 = S_.1 13 0 11) : rg b_ n_ T_ (.inl e_) S'_ := ⟨h1_.trans h_.1, h2_.trans h_.2.1, h_.2.2⟩
theorem bi_pl {b_ : Nat → Int} {n_ p_ : Nat} {wd_ : Int} {l_ : List Int} : pb (p_bi b_ n_ wd_ l_ p_) (fun r_ => .inr r_.1) = p_bp b_ n_ wd_ p_ := by
  rw [bp_bi]
  cases p_bp b_ n_ wd_ p_ <;> rfl
theorem bi_1 {b_ : Nat → Int} {n_ p_ : Nat} {wd_ : Int} {l_ : List Int} {r_ : Nat × Int × List Int} (h_ : p_bi b_ n_ wd_ l_ p_ = .inr r_) : r_.2.1 = 1 ∧ p_bp b_ n_ wd_ p_ = .inr r_.1 := by
  rw [bp_bi] at h_
  obtain ⟨q_, h1_, h2_⟩ := pb_inr h_
  cases h2_
  exact ⟨rfl, h1_⟩
/-! M_.isValue -/
def vw_323 : sx_Wl := ([], [], [])
def vq_323 (s_ : Int) (S0_ : sm_S) (u_ : Option sm_V) (S1_ : sm_S) : Prop := S0_ = S1_ ∧ ∃ v_ : Int, u_ = some (.inl v_) ∧ ((v_ = 0 ∨ v_ = 1) ∧ (v_ = 1 ↔ 1 ≤ s_ ∧ s_ ≤ 4))
set_option maxHeartbeats 400000 in
theorem vc_323 {sc_ : Nat × (Nat → Int)} (s_ : Int) (S0_ : sm_S) (hI_ : gi S0_)  : sm_T (mt_P sc_) 0 323 (0, [some (.inl s_)], [], S0_) (fun r_ => ∃ u_ S1_, r_ = (.inl u_, S1_, 0) ∧ vq_323 s_ S0_ u_ S1_) := by
  have hF_ : ai_fr (sx_W vw_323) S0_ S0_ := ai_fr_rf
  refine sm_T_go 2 (c1 := (2, [some (.inl s_)], [.inl 1, .inl s_], S0_)) rfl ?_
  refine sm_T_br (a := 0) (z := 18) rfl (fun cx1_ => ?_) (fun cx1_ => ?_)
  · have cx1_ : s_ = 1 := of_decide_eq_true cx1_
    refine sm_T_go 2 (c1 := (25, [some (.inl s_)], [.inl 1], S0_)) rfl ?_
    refine sm_T_rz rfl (by omega) ⟨_, _, rfl, rfl, _, rfl, ?_⟩
    omega
  · have cx1_ : ¬ (s_ = 1) := of_decide_eq_false cx1_
    refine sm_T_go 2 (c1 := (7, [some (.inl s_)], [.inl 2, .inl s_], S0_)) rfl ?_
    refine sm_T_br (a := 0) (z := 13) rfl (fun cx2_ => ?_) (fun cx2_ => ?_)
    · have cx2_ : s_ = 2 := of_decide_eq_true cx2_
      refine sm_T_go 2 (c1 := (25, [some (.inl s_)], [.inl 1], S0_)) rfl ?_
      refine sm_T_rz rfl (by omega) ⟨_, _, rfl, rfl, _, rfl, ?_⟩
      omega
    · have cx2_ : ¬ (s_ = 2) := of_decide_eq_false cx2_
      refine sm_T_go 2 (c1 := (12, [some (.inl s_)], [.inl 3, .inl s_], S0_)) rfl ?_
      refine sm_T_br (a := 0) (z := 8) rfl (fun cx3_ => ?_) (fun cx3_ => ?_)
      · have cx3_ : s_ = 3 := of_decide_eq_true cx3_
        refine sm_T_go 2 (c1 := (25, [some (.inl s_)], [.inl 1], S0_)) rfl ?_
        refine sm_T_rz rfl (by omega) ⟨_, _, rfl, rfl, _, rfl, ?_⟩
        omega
      · have cx3_ : ¬ (s_ = 3) := of_decide_eq_false cx3_
        refine sm_T_go 2 (c1 := (17, [some (.inl s_)], [.inl 4, .inl s_], S0_)) rfl ?_
        refine sm_T_br (a := 1) (z := 7) rfl (fun cx4_ => ?_) (fun cx4_ => ?_)
        · have cx4_ : s_ ≠ 4 := of_decide_eq_true cx4_
          refine sm_T_go 1 (c1 := (25, [some (.inl s_)], [.inl 0], S0_)) rfl ?_
          refine sm_T_rz rfl (by omega) ⟨_, _, rfl, rfl, _, rfl, ?_⟩
          omega
        · have cx4_ : ¬ (s_ ≠ 4) := of_decide_eq_false cx4_
          refine sm_T_go 2 (c1 := (25, [some (.inl s_)], [.inl 1], S0_)) rfl ?_
          refine sm_T_rz rfl (by omega) ⟨_, _, rfl, rfl, _, rfl, ?_⟩
          omega
theorem re1_fr {w_ : sx_Wl} {S_ S'_ : sm_S} {b_ : Nat → Int} {n_ T_ m_ : Nat} {A_ : pA} (x_ : re1 b_ n_ T_ A_ m_ S_) (g_ : ai_fr (sx_W w_) S_ S'_) (h0_ : (sx_W w_).2.1 126 = false) (h1_ : (sx_W w_).2.1 127 = false) (h2_ : (sx_W w_).2.1 128 = false) (h3_ : (sx_W w_).2.1 129 = false) (h4_ : (sx_W w_).2.1 130 = false) (h5_ : (sx_W w_).2.1 131 = false) : re1 b_ n_ T_ A_ m_ S'_ := by
  unfold re1 at x_ ⊢
  rw [fr_arr g_ h0_, fr_arr g_ h1_, fr_arr g_ h2_, fr_arr g_ h3_, fr_arr g_ h4_, fr_arr g_ h5_]
  exact x_
end
/-! 99.ycb -/
section
/-! M_.named -/
def vw_324 : sx_Wl := ([(13, 9), (13, 10), (13, 11)], [138, 139], [])
def vq_324 (b_ : Nat → Int) (n_ : Nat) (T_ : Nat) (mo_ : Int) (p_ : Nat) (i_ : Nat) (gl_ : Nat) (A_ : pA) (M_ : Nat) (S0_ : sm_S) (u_ : Option sm_V) (S1_ : sm_S) : Prop := u_ = none ∧ gi S1_ ∧ ai_fr (sx_W vw_324) S0_ S1_ ∧ (rg b_ n_ T_ (pb (p_na b_ n_ A_ M_ p_) fun r_ => .inr r_.1) S1_ ∧ ∀ r_, p_na b_ n_ A_ M_ p_ = .inr r_ → ∀ l_ : List Int, l_.length = gl_ → stk (S0_.2.2.1 138 0) l_ → stk (S1_.2.2.1 138 0) (r_.2.1 :: l_))
set_option maxHeartbeats 2500000 in
set_option maxRecDepth 20000 in
theorem vc_324 {sc_ : Nat × (Nat → Int)} (b_ : Nat → Int) (n_ : Nat) (T_ : Nat) (mo_ : Int) (p_ : Nat) (i_ : Nat) (gl_ : Nat) (A_ : pA) (M_ : Nat) (S0_ : sm_S) (hI_ : gi S0_) (ht_ : rtab b_ n_ T_ S0_) (hf_ : (S0_.1 13 0 10) = 0) (hi_ : (S0_.1 13 0 9) = (i_ : Int) ∧ rp b_ n_ T_ i_ p_) (hv_ : (S0_.1 13 0 34) = (gl_ : Int) ∧ gl_ ≤ 1000) (hmo_ : (S0_.1 13 0 27) = mo_) (hw_ : (S0_.1 13 0 32) ≤ 800) (hA_ : a_ok b_ n_ A_ M_) (hmd_ : (S0_.1 13 0 28) = (M_ : Int)) (hre_ : ∀ m_, m_ ≤ M_ → re1 b_ n_ T_ A_ m_ S0_) (hk_ : lx_kd b_ n_ p_ = 1) (hm0_ : mo_ = 0) : sm_T (mt_P sc_) 5 324 (0, [some (.inr (.inr (some (13, 0)))), none, none, none, none], [], S0_) (fun r_ => ∃ u_ S1_, r_ = (.inl u_, S1_, 0) ∧ vq_324 b_ n_ T_ mo_ p_ i_ gl_ A_ M_ S0_ u_ S1_) := by
  have hF_ : ai_fr (sx_W vw_324) S0_ S0_ := ai_fr_rf
  have hx_ : rg b_ n_ T_ (.inr p_) S0_ := ⟨hf_, i_, hi_.1, hi_.2⟩
  have hi9_ := hi_.2.1
  have hT_ := ht_.2.1
  have rt1_ := rp_rtk ht_ hi_.2 hk_
  have ra_ := rp_at ht_ hi_.2
  have rk_ := r_st_3 (lx_kd_r hi_.2.2.2.1)
  have e4_ : (S0_.1 13 0 9).toNat = i_ := by omega
  have hM1_ := hA_.1
  have aM_ := hA_.2 M_ (Nat.le_refl _)
  have aM1_ := aM_.1
  have hfb_ := p_fd_b (f_ := fun s_ => nm_q b_ n_ (A_.2.1 (40 * M_ + s_)) p_) (A_.1 M_)
  have hf0_ : p_fn b_ n_ A_ M_ p_ = p_fd (fun s_ => nm_q b_ n_ (A_.2.1 (40 * M_ + s_)) p_) (A_.1 M_) := rfl
  have bx1_ : 0 ≤ S0_.1 13 0 9 ∧ S0_.1 13 0 9 ≤ 1280 := hI_.1 13 0 9 rfl
  have bx2_ : 0 ≤ S0_.1 13 0 28 ∧ S0_.1 13 0 28 ≤ 15 := hI_.1 13 0 28 rfl
  refine sm_T_go 7 (c1 := (11, [some (.inr (.inr (some (13, 0)))), some (.inl (S0_.1 13 0 9)), none, none, none], [.inl (S0_.1 13 0 9), .inl (S0_.1 13 0 28), .inr (.inr (some (13, 0)))], S0_)) rfl ?_
  refine sm_T_cal (d1 := 1) (Q1 := vq_302 (S0_.1 13 0 28) (S0_.1 13 0 9) b_ n_ T_ A_ M_ p_ S0_) rfl rfl (by decide) (vc_302 (S0_.1 13 0 28) (S0_.1 13 0 9) b_ n_ T_ A_ M_ p_ S0_ hI_ (by exact ht_) (by exact ⟨hmd_, hM1_⟩) (by exact hre_ M_ (Nat.le_refl _)) (by exact aM1_) (by rw [hi_.1]; exact rt1_.1)) (fun u_ Sx3_ px6_ => ?_)
  obtain ⟨rfl, vx8_, rfl, px6_⟩ := px6_
  have e11_ := px6_
  have kx0_ : ∀ (s_ : Nat) (z_ : Int), vx8_ = (s_ : Int) → z_ = (M_ : Int) → (40 * z_ + vx8_).toNat = 40 * M_ + s_ := by intro s_ z_ q1_ q2_; omega
  refine sm_T_go 3 (c1 := (17, [some (.inr (.inr (some (13, 0)))), some (.inl (S0_.1 13 0 9)), some (.inl vx8_), none, none], [.inl (-1), .inl vx8_], S0_)) rfl ?_
  refine sm_T_br (a := 1) (z := 11) rfl (fun cx9_ => ?_) (fun cx9_ => ?_)
  · have cx9_ : vx8_ ≠ (-1) := of_decide_eq_true cx9_
    obtain ⟨s9_, q1_, q2_, q3_, -⟩ := p_fn_b (b_ := b_) (n_ := n_) (A_ := A_) (m_ := M_) (p_ := p_) (by omega)
    have ro_ := (hre_ M_ (Nat.le_refl _)).2 s9_ q2_
    have ao_ := aM_.2 s9_ q2_
    have sb_ := r_s2_b ao_.2.1
    have kx1_ := fun z_ => kx0_ s9_ z_ (e11_.trans q1_)
    refine sm_T_go 1 (c1 := (29, [some (.inr (.inr (some (13, 0)))), some (.inl (S0_.1 13 0 9)), some (.inl vx8_), none, none], [.inr (.inr (some (13, 0)))], S0_)) rfl ?_
    refine sm_T_cal (d1 := 2) (Q1 := vq_297 b_ n_ T_ (.inr p_) S0_) rfl rfl (by decide) (vc_297 b_ n_ T_ (.inr p_) S0_ hI_ (by exact ht_) (by exact hx_) (by (intro q_ e_; cases e_; omega))) (fun u_ Sx10_ px13_ => ?_)
    obtain ⟨rfl, hIx11_, hFx12_, px13_⟩ := px13_
    have hFx14_ : ai_fr (sx_W vw_324) S0_ Sx10_ := ai_fr_tr hF_ (fr_le hFx12_ rfl)
    have ex15_ : Sx10_.1 13 0 28 = S0_.1 13 0 28 := hFx12_.1 13 0 28 rfl
    have g29_ := px13_.1
    rw [pb_r rfl] at g29_
    have s29_ := fun e_ => px13_.2 p_ e_ rfl
    have t29_ := rtab_fr ht_ hFx12_ rfl rfl rfl rfl rfl
    have w29_ := fr_arr (t := 138) (i := 0) hFx12_ rfl
    have p29_ : Sx10_.2.2.1 120 0 (S0_.1 13 0 9).toNat = (p_ : Int) := by rw [e4_]; exact (rp_at t29_ hi_.2).2.1
    have sx_ := fr_arr (t := 128) (i := 0) hFx14_ rfl
    have wx_ := fr_arr (t := 129) (i := 0) hFx14_ rfl
    have mx_ : Sx10_.1 13 0 28 = (M_ : Int) := (hFx14_.1 13 0 28 rfl).trans hmd_
    have kx_ := kx1_ _ mx_
    have sk_ := (congrFun sx_ _).trans ((congrArg (S0_.2.2.1 128 0) kx_).trans ro_.2.1)
    have wk_ := (congrFun wx_ _).trans ((congrArg (S0_.2.2.1 129 0) kx_).trans ro_.2.2.1)
    have vl9_ : Sx10_.1 13 0 34 = (gl_ : Int) := (hFx14_.1 13 0 34 rfl).trans hv_.1
    have mo9_ : Sx10_.1 13 0 27 = mo_ := (hFx14_.1 13 0 27 rfl).trans hmo_
    have wt9_ : Sx10_.1 13 0 32 ≤ 800 := by rw [hFx14_.1 13 0 32 rfl]; exact hw_
    have re9_ : ∀ m_, m_ ≤ M_ → re1 b_ n_ T_ A_ m_ Sx10_ := fun m_ hm_ => re1_fr (hre_ m_ hm_) hFx14_ rfl rfl rfl rfl rfl rfl
    refine sm_T_go 2 (c1 := (35, [some (.inr (.inr (some (13, 0)))), some (.inl (S0_.1 13 0 9)), some (.inl vx8_), none, none], [.inl 46, .inr (.inr (some (13, 0)))], Sx10_)) rfl ?_
    refine sm_T_cal (d1 := 0) (Q1 := vq_295 46 b_ n_ T_ (p_ad b_ n_ p_) Sx10_) rfl rfl (by decide) (vc_295 46 b_ n_ T_ (p_ad b_ n_ p_) Sx10_ hIx11_ (by exact t29_) (by exact g29_) (by decide)) (fun u_ Sx16_ px19_ => ?_)
    obtain ⟨rfl, vx21_, rfl, px19_⟩ := px19_
    have e35_ := px19_.2
    have r35_ := px19_.1
    refine sm_T_go 2 (c1 := (40, [some (.inr (.inr (some (13, 0)))), some (.inl (S0_.1 13 0 9)), some (.inl vx8_), some (.inl vx21_), none], [.inl vx21_], Sx10_)) rfl ?_
    refine sm_T_b0 (a := 0) (z := 43) rfl (fun cx22_ => ?_) (fun cx22_ => ?_)
    · have cx22_ : vx21_ = 0 := of_decide_eq_true cx22_
      have bx23_ : 0 ≤ Sx10_.1 13 0 28 ∧ Sx10_.1 13 0 28 ≤ 15 := hIx11_.1 13 0 28 rfl
      refine sm_T_go 3 (c1 := (89, [some (.inr (.inr (some (13, 0)))), some (.inl (S0_.1 13 0 9)), some (.inl vx8_), some (.inl vx21_), none], [.inl (Sx10_.1 13 0 28), .inl 40], Sx10_)) rfl ?_
      refine sm_T_bin (w := 40 * (Sx10_.1 13 0 28)) rfl (bi_mul (by omega) (by omega) (by omega)) ?_
      refine sm_T_go 1 (c1 := (91, [some (.inr (.inr (some (13, 0)))), some (.inl (S0_.1 13 0 9)), some (.inl vx8_), some (.inl vx21_), none], [.inl vx8_, .inl (40 * (Sx10_.1 13 0 28))], Sx10_)) rfl ?_
      refine sm_T_bin (w := 40 * (Sx10_.1 13 0 28) + vx8_) rfl (bi_add (by omega) (by omega) (by omega)) ?_
      refine sm_T_go 2 (c1 := (95, [some (.inr (.inr (some (13, 0)))), some (.inl (S0_.1 13 0 9)), some (.inl vx8_), some (.inl vx21_), some (.inl (40 * (Sx10_.1 13 0 28) + vx8_))], [.inl vx21_], Sx10_)) rfl ?_
      refine sm_T_b0 (a := 0) (z := 41) rfl (fun cx24_ => ?_) (fun cx24_ => ?_)
      · have cx24_ : vx21_ = 0 := of_decide_eq_true cx24_
        refine sm_T_go 3 (c1 := (142, [some (.inr (.inr (some (13, 0)))), some (.inl (S0_.1 13 0 9)), some (.inl vx8_), some (.inl vx21_), some (.inl (40 * (Sx10_.1 13 0 28) + vx8_))], [.inl (40 * (Sx10_.1 13 0 28) + vx8_), .inr (.inr (some (128, 0)))], Sx10_)) rfl ?_
        refine sm_T_iald (n := 640) rfl rfl (by omega) (by omega) ?_
        have bx25_ : 0 ≤ Sx10_.2.2.1 128 0 (40 * (Sx10_.1 13 0 28) + vx8_).toNat ∧ Sx10_.2.2.1 128 0 (40 * (Sx10_.1 13 0 28) + vx8_).toNat ≤ 5 := hIx11_.2 128 0 _
        refine sm_T_cal (d1 := 0) (Q1 := vq_323 (Sx10_.2.2.1 128 0 (40 * (Sx10_.1 13 0 28) + vx8_).toNat) Sx10_) rfl rfl (by decide) (vc_323 (Sx10_.2.2.1 128 0 (40 * (Sx10_.1 13 0 28) + vx8_).toNat) Sx10_ hIx11_ ) (fun u_ Sx26_ px29_ => ?_)
        obtain ⟨rfl, vx31_, rfl, px29_⟩ := px29_
        have e143_ := px29_
        refine sm_T_b0 (a := 1) (z := 11) rfl (fun cx32_ => ?_) (fun cx32_ => ?_)
        · have cx32_ : vx31_ ≠ 0 := of_decide_eq_true cx32_
          refine sm_T_go 4 (c1 := (164, [some (.inr (.inr (some (13, 0)))), some (.inl (S0_.1 13 0 9)), some (.inl vx8_), some (.inl vx21_), some (.inl (40 * (Sx10_.1 13 0 28) + vx8_))], [.inl (40 * (Sx10_.1 13 0 28) + vx8_), .inr (.inr (some (129, 0))), .inr (.inr (some (13, 0)))], Sx10_)) rfl ?_
          refine sm_T_iald (n := 640) rfl rfl (by omega) (by omega) ?_
          have bx33_ : 0 ≤ Sx10_.2.2.1 129 0 (40 * (Sx10_.1 13 0 28) + vx8_).toNat ∧ Sx10_.2.2.1 129 0 (40 * (Sx10_.1 13 0 28) + vx8_).toNat ≤ 8 := hIx11_.2 129 0 _
          have bx34_ : 0 ≤ Sx10_.1 13 0 29 ∧ Sx10_.1 13 0 29 ≤ 16 := hIx11_.1 13 0 29 rfl
          refine sm_T_go 5 (c1 := (174, [some (.inr (.inr (some (13, 0)))), some (.inl (S0_.1 13 0 9)), some (.inl vx8_), some (.inl vx21_), some (.inl (40 * (Sx10_.1 13 0 28) + vx8_))], [.inl (Sx10_.1 13 0 29), .inl 40, .inl 8, .inl 0, .inl (Sx10_.2.2.1 129 0 (40 * (Sx10_.1 13 0 28) + vx8_).toNat), .inr (.inr (some (13, 0)))], Sx10_)) rfl ?_
          refine sm_T_bin (w := 40 * (Sx10_.1 13 0 29)) rfl (bi_mul (by omega) (by omega) (by omega)) ?_
          refine sm_T_go 1 (c1 := (176, [some (.inr (.inr (some (13, 0)))), some (.inl (S0_.1 13 0 9)), some (.inl vx8_), some (.inl vx21_), some (.inl (40 * (Sx10_.1 13 0 28) + vx8_))], [.inl vx8_, .inl (40 * (Sx10_.1 13 0 29)), .inl 8, .inl 0, .inl (Sx10_.2.2.1 129 0 (40 * (Sx10_.1 13 0 28) + vx8_).toNat), .inr (.inr (some (13, 0)))], Sx10_)) rfl ?_
          refine sm_T_bin (w := 40 * (Sx10_.1 13 0 29) + vx8_) rfl (bi_add (by omega) (by omega) (by omega)) ?_
          refine sm_T_bin (w := 320 * (Sx10_.1 13 0 29) + 8 * vx8_) rfl (bi_mul (by omega) (by omega) (by omega)) ?_
          refine sm_T_cal (d1 := 0) (Q1 := vq_333 (Sx10_.2.2.1 129 0 (40 * (Sx10_.1 13 0 28) + vx8_).toNat) 0 (320 * (Sx10_.1 13 0 29) + 8 * vx8_) mo_ gl_ Sx10_) rfl rfl (by decide) (vc_333 (Sx10_.2.2.1 129 0 (40 * (Sx10_.1 13 0 28) + vx8_).toNat) 0 (320 * (Sx10_.1 13 0 29) + 8 * vx8_) mo_ gl_ Sx10_ hIx11_ (by exact ⟨vl9_, hv_.2⟩) (by exact mo9_) (by omega) (by (have := ao_.2.2.1; omega))) (fun u_ Sx35_ px38_ => ?_)
          obtain ⟨rfl, hIx36_, hFx37_, px38_⟩ := px38_
          have hFx39_ : ai_fr (sx_W vw_324) S0_ Sx35_ := ai_fr_tr hFx14_ (fr_le hFx37_ rfl)
          have ex40_ : Sx35_.1 13 0 28 = Sx10_.1 13 0 28 := hFx37_.1 13 0 28 rfl
          have ex41_ : Sx35_.1 13 0 29 = Sx10_.1 13 0 29 := hFx37_.1 13 0 29 rfl
          have c178_ := px38_
          rw [wk_] at c178_
          first | (have g178_ := rg_fr g44_ hFx37_ rfl rfl rfl; have t178_ := rtab_fr t44_ hFx37_ rfl rfl rfl rfl rfl) | (have g178_ := rg_fr g29_ hFx37_ rfl rfl rfl; have t178_ := rtab_fr t29_ hFx37_ rfl rfl rfl rfl rfl)
          have vl8_ : Sx35_.1 13 0 34 = (gl_ : Int) := (hFx39_.1 13 0 34 rfl).trans hv_.1
          have wx8_ := fr_arr (t := 129) (i := 0) hFx39_ rfl
          have wk8_ := (congrFun wx8_ _).trans ((congrArg (S0_.2.2.1 129 0) kx_).trans ro_.2.2.1)
          have nso_ : ¬ A_.2.2.1 (40 * M_ + s9_) = 5 := fun z_ => by have z1_ := e143_.2; have z2_ := sb_.2.1.mpr z_; omega
          refine sm_T_go 1 (c1 := (182, [some (.inr (.inr (some (13, 0)))), some (.inl (S0_.1 13 0 9)), some (.inl vx8_), some (.inl vx21_), some (.inl (40 * (Sx10_.1 13 0 28) + vx8_))], [.inl vx21_], Sx35_)) rfl ?_
          refine sm_T_b0 (a := 0) (z := 14) rfl (fun cx42_ => ?_) (fun cx42_ => ?_)
          · have cx42_ : vx21_ = 0 := of_decide_eq_true cx42_
            refine sm_T_rv rfl ⟨_, _, rfl, rfl, hIx36_, hFx39_, ?_⟩
            first | (have hp_ : p_na b_ n_ A_ M_ p_ = p_bi b_ n_ (A_.2.2.2.1 (40 * M_ + s9_)) [cw 9 s9_ 0] r_ := (by rw [na_5 q1_ hq_ k46_ hr44_ k2r]; exact if_neg nso_); rw [hp_]; refine ⟨by rw [bi_pl]; exact e193_.1, fun r9_ hr_ l_ hl_ hs_ => ?_⟩; obtain ⟨b1_, b2_⟩ := bi_1 hr_; rw [b1_]; exact e193_.2 _ b2_ l_ hl_ (c178_ l_ hl_ (by rw [w44_]; exact hs_)).2) | (cases hq_ : p_ad b_ n_ p_ with | inl e_ => (have hp_ := na_1 (A_ := A_) (M_ := M_) q1_ hq_; refine ⟨?_, fun r_ hr_ => by rw [hp_] at hr_; cases hr_⟩; rw [hp_]; rw [hq_] at g178_; exact g178_) | inr q_ => (have hp_ : p_na b_ n_ A_ M_ p_ = .inr (q_, A_.2.2.2.1 (40 * M_ + s9_), [cw 9 s9_ 0]) := (by rw [na_2 q1_ hq_ (fun z_ => by have := (e35_ q_ hq_).mpr z_; omega)]; exact if_neg nso_); rw [hp_]; refine ⟨by rw [hq_] at g178_; exact g178_, fun r9_ hr_ l_ hl_ hs_ => ?_⟩; cases hr_; exact c178_ l_ hl_ (by rw [w29_]; exact hs_)))
          · have cx42_ : ¬ (vx21_ = 0) := of_decide_eq_false cx42_
            exfalso; omega
        · have cx32_ : ¬ (vx31_ ≠ 0) := of_decide_eq_false cx32_
          refine sm_T_go 3 (c1 := (153, [some (.inr (.inr (some (13, 0)))), some (.inl (S0_.1 13 0 9)), some (.inl vx8_), some (.inl vx21_), some (.inl (40 * (Sx10_.1 13 0 28) + vx8_))], [.inl (S0_.1 13 0 9), .inl 11, .inr (.inr (some (13, 0)))], Sx10_)) rfl ?_
          refine sm_T_cal (d1 := 0) (Q1 := vq_294 11 (S0_.1 13 0 9) Sx10_) rfl rfl (by decide) (vc_294 11 (S0_.1 13 0 9) Sx10_ hIx11_ (by decide) (by omega)) (fun u_ Sx43_ px46_ => ?_)
          obtain ⟨rfl, hIx44_, hFx45_, px46_⟩ := px46_
          have hFx47_ : ai_fr (sx_W vw_324) S0_ Sx43_ := ai_fr_tr hFx14_ (fr_le hFx45_ rfl)
          have ex48_ : Sx43_.1 13 0 28 = Sx10_.1 13 0 28 := hFx45_.1 13 0 28 rfl
          have e153_ := px46_
          refine sm_T_rv rfl ⟨_, _, rfl, rfl, hIx44_, hFx47_, ?_⟩
          have so5_ : A_.2.2.1 (40 * M_ + s9_) = 5 := sb_.2.1.mp (by have z1_ := e143_.2; have z2_ := sb_.2.2.2.2; omega)
          first | (have hp_ : p_na b_ n_ A_ M_ p_ = .inl (11, p_) := (by rw [na_5 q1_ hq_ k46_ hr44_ k2r]; exact if_pos so5_); refine ⟨?_, fun r_ hr_ => by rw [hp_] at hr_; cases hr_⟩; rw [hp_]; rcases e153_ with z_ | z_; (exact absurd g44_.1 z_.1); (exact ⟨z_.2.1, z_.2.2.trans p44_, by show (11 : Int) ≠ 0; decide⟩)) | (cases hq_ : p_ad b_ n_ p_ with | inl e_ => (have hp_ := na_1 (A_ := A_) (M_ := M_) q1_ hq_; refine ⟨?_, fun r_ hr_ => by rw [hp_] at hr_; cases hr_⟩; rw [hp_]; rw [hq_] at g29_; rcases e153_ with z_ | z_; (exact rg_e2 g29_ z_.2.1 z_.2.2); (exact absurd (g29_.1.symm.trans z_.1) g29_.2.2)) | inr q_ => (have hp_ : p_na b_ n_ A_ M_ p_ = .inl (11, p_) := (by rw [na_2 q1_ hq_ (fun z_ => by have := (e35_ q_ hq_).mpr z_; omega)]; exact if_pos so5_); refine ⟨?_, fun r_ hr_ => by rw [hp_] at hr_; cases hr_⟩; rw [hp_]; rw [hq_] at g29_; rcases e153_ with z_ | z_; (exact absurd g29_.1 z_.1); (exact ⟨z_.2.1, z_.2.2.trans p29_, by show (11 : Int) ≠ 0; decide⟩)))
      · have cx24_ : ¬ (vx21_ = 0) := of_decide_eq_false cx24_
        exfalso; omega
    · have cx22_ : ¬ (vx21_ = 0) := of_decide_eq_false cx22_
      obtain ⟨q_, hq_⟩ : ∃ q_, p_ad b_ n_ p_ = .inr q_ := by cases hq_ : p_ad b_ n_ p_ with | inl e_ => (exfalso; have z1_ := s29_ e_ hq_; have z2_ := r35_.2 (by omega); omega) | inr q_ => exact ⟨q_, rfl⟩
      have k46_ := (e35_ q_ hq_).mp (by omega)
      rw [hq_] at g29_
      refine sm_T_go 1 (c1 := (44, [some (.inr (.inr (some (13, 0)))), some (.inl (S0_.1 13 0 9)), some (.inl vx8_), some (.inl vx21_), none], [.inr (.inr (some (13, 0)))], Sx10_)) rfl ?_
      refine sm_T_cal (d1 := 2) (Q1 := vq_297 b_ n_ T_ (.inr q_) Sx10_) rfl rfl (by decide) (vc_297 b_ n_ T_ (.inr q_) Sx10_ hIx11_ (by exact t29_) (by exact g29_) (by (intro z_ e_; cases e_; omega))) (fun u_ Sx49_ px52_ => ?_)
      obtain ⟨rfl, hIx50_, hFx51_, px52_⟩ := px52_
      have hFx53_ : ai_fr (sx_W vw_324) S0_ Sx49_ := ai_fr_tr hFx14_ (fr_le hFx51_ rfl)
      have g44_ := px52_.1
      rw [pb_r rfl] at g44_
      have s44_ := fun e_ => px52_.2 q_ e_ rfl
      have t44_ := rtab_fr t29_ hFx51_ rfl rfl rfl rfl rfl
      have w44_ := (fr_arr (t := 138) (i := 0) hFx51_ rfl).trans w29_
      have p44_ : Sx49_.2.2.1 120 0 (S0_.1 13 0 9).toNat = (p_ : Int) := by rw [e4_]; exact (rp_at t44_ hi_.2).2.1
      have r44_ : ∀ r_, p_ad b_ n_ q_ = .inr r_ → ∃ j_ : Nat, Sx49_.1 13 0 9 = (j_ : Int) ∧ rp b_ n_ T_ j_ r_ ∧ Sx49_.2.2.1 119 0 (Sx49_.1 13 0 9).toNat = r_st (lx_kd b_ n_ r_) ∧ Sx49_.2.2.1 120 0 (Sx49_.1 13 0 9).toNat = (r_ : Int) := fun r_ hr_ => by rw [hr_] at g44_; obtain ⟨j_, j1_, j2_⟩ := g44_.2; have j3_ := rp_at t44_ j2_; rw [show (Sx49_.1 13 0 9).toNat = j_ by omega]; exact ⟨j_, j1_, j2_, j3_.1, j3_.2.1⟩
      have sx_ := fr_arr (t := 128) (i := 0) hFx53_ rfl
      have wx_ := fr_arr (t := 129) (i := 0) hFx53_ rfl
      have mx_ : Sx49_.1 13 0 28 = (M_ : Int) := (hFx53_.1 13 0 28 rfl).trans hmd_
      have kx_ := kx1_ _ mx_
      have sk_ := (congrFun sx_ _).trans ((congrArg (S0_.2.2.1 128 0) kx_).trans ro_.2.1)
      have wk_ := (congrFun wx_ _).trans ((congrArg (S0_.2.2.1 129 0) kx_).trans ro_.2.2.1)
      have vl9_ : Sx49_.1 13 0 34 = (gl_ : Int) := (hFx53_.1 13 0 34 rfl).trans hv_.1
      have mo9_ : Sx49_.1 13 0 27 = mo_ := (hFx53_.1 13 0 27 rfl).trans hmo_
      have wt9_ : Sx49_.1 13 0 32 ≤ 800 := by rw [hFx53_.1 13 0 32 rfl]; exact hw_
      have re9_ : ∀ m_, m_ ≤ M_ → re1 b_ n_ T_ A_ m_ Sx49_ := fun m_ hm_ => re1_fr (hre_ m_ hm_) hFx53_ rfl rfl rfl rfl rfl rfl
      have bx54_ : 0 ≤ Sx49_.1 13 0 9 ∧ Sx49_.1 13 0 9 ≤ 1280 := hIx50_.1 13 0 9 rfl
      refine sm_T_go 4 (c1 := (55, [some (.inr (.inr (some (13, 0)))), some (.inl (S0_.1 13 0 9)), some (.inl vx8_), some (.inl vx21_), none], [.inl (Sx49_.1 13 0 9), .inr (.inr (some (119, 0)))], Sx49_)) rfl ?_
      refine sm_T_bald (n := 65537) rfl rfl (by omega) (by omega) ?_
      have bx55_ : (-128) ≤ Sx49_.2.2.1 119 0 (Sx49_.1 13 0 9).toNat ∧ Sx49_.2.2.1 119 0 (Sx49_.1 13 0 9).toNat ≤ 127 := hIx50_.2 119 0 _
      refine sm_T_go 1 (c1 := (57, [some (.inr (.inr (some (13, 0)))), some (.inl (S0_.1 13 0 9)), some (.inl vx8_), some (.inl vx21_), none], [.inl 2, .inl (Sx49_.2.2.1 119 0 (Sx49_.1 13 0 9).toNat)], Sx49_)) rfl ?_
      refine sm_T_br (a := 0) (z := 26) rfl (fun cx56_ => ?_) (fun cx56_ => ?_)
      · have cx56_ : (Sx49_.2.2.1 119 0 (Sx49_.1 13 0 9).toNat) = 2 := of_decide_eq_true cx56_
        have bx57_ : 0 ≤ Sx49_.1 13 0 28 ∧ Sx49_.1 13 0 28 ≤ 15 := hIx50_.1 13 0 28 rfl
        refine sm_T_go 3 (c1 := (89, [some (.inr (.inr (some (13, 0)))), some (.inl (S0_.1 13 0 9)), some (.inl vx8_), some (.inl vx21_), none], [.inl (Sx49_.1 13 0 28), .inl 40], Sx49_)) rfl ?_
        refine sm_T_bin (w := 40 * (Sx49_.1 13 0 28)) rfl (bi_mul (by omega) (by omega) (by omega)) ?_
        refine sm_T_go 1 (c1 := (91, [some (.inr (.inr (some (13, 0)))), some (.inl (S0_.1 13 0 9)), some (.inl vx8_), some (.inl vx21_), none], [.inl vx8_, .inl (40 * (Sx49_.1 13 0 28))], Sx49_)) rfl ?_
        refine sm_T_bin (w := 40 * (Sx49_.1 13 0 28) + vx8_) rfl (bi_add (by omega) (by omega) (by omega)) ?_
        refine sm_T_go 2 (c1 := (95, [some (.inr (.inr (some (13, 0)))), some (.inl (S0_.1 13 0 9)), some (.inl vx8_), some (.inl vx21_), some (.inl (40 * (Sx49_.1 13 0 28) + vx8_))], [.inl vx21_], Sx49_)) rfl ?_
        refine sm_T_b0 (a := 0) (z := 41) rfl (fun cx58_ => ?_) (fun cx58_ => ?_)
        · have cx58_ : vx21_ = 0 := of_decide_eq_true cx58_
          exfalso; omega
        · have cx58_ : ¬ (vx21_ = 0) := of_decide_eq_false cx58_
          refine sm_T_go 4 (c1 := (106, [some (.inr (.inr (some (13, 0)))), some (.inl (S0_.1 13 0 9)), some (.inl vx8_), some (.inl vx21_), some (.inl (40 * (Sx49_.1 13 0 28) + vx8_))], [.inl (Sx49_.1 13 0 9), .inr (.inr (some (119, 0)))], Sx49_)) rfl ?_
          refine sm_T_bald (n := 65537) rfl rfl (by omega) (by omega) ?_
          refine sm_T_go 1 (c1 := (108, [some (.inr (.inr (some (13, 0)))), some (.inl (S0_.1 13 0 9)), some (.inl vx8_), some (.inl vx21_), some (.inl (40 * (Sx49_.1 13 0 28) + vx8_))], [.inl 1, .inl (Sx49_.2.2.1 119 0 (Sx49_.1 13 0 9).toNat)], Sx49_)) rfl ?_
          refine sm_T_br (a := 1) (z := 28) rfl (fun cx59_ => ?_) (fun cx59_ => ?_)
          · have cx59_ : (Sx49_.2.2.1 119 0 (Sx49_.1 13 0 9).toNat) ≠ 1 := of_decide_eq_true cx59_
            obtain ⟨r_, hr44_⟩ : ∃ r_, p_ad b_ n_ q_ = .inr r_ := by cases hr_ : p_ad b_ n_ q_ with | inl e_ => (exfalso; have z1_ := s44_ e_ hr_; omega) | inr r_ => exact ⟨r_, rfl⟩
            obtain ⟨j_, j1_, j2_, j3_, j4_⟩ := r44_ r_ hr44_
            have j5_ := r_st_3 (lx_kd_r j2_.2.2.1)
            have k2r : lx_kd b_ n_ r_ = 2 := j5_.2.2.1.mp (by omega)
            rw [hr44_] at g44_
            refine sm_T_go 3 (c1 := (142, [some (.inr (.inr (some (13, 0)))), some (.inl (S0_.1 13 0 9)), some (.inl vx8_), some (.inl vx21_), some (.inl (40 * (Sx49_.1 13 0 28) + vx8_))], [.inl (40 * (Sx49_.1 13 0 28) + vx8_), .inr (.inr (some (128, 0)))], Sx49_)) rfl ?_
            refine sm_T_iald (n := 640) rfl rfl (by omega) (by omega) ?_
            have bx60_ : 0 ≤ Sx49_.2.2.1 128 0 (40 * (Sx49_.1 13 0 28) + vx8_).toNat ∧ Sx49_.2.2.1 128 0 (40 * (Sx49_.1 13 0 28) + vx8_).toNat ≤ 5 := hIx50_.2 128 0 _
            refine sm_T_cal (d1 := 0) (Q1 := vq_323 (Sx49_.2.2.1 128 0 (40 * (Sx49_.1 13 0 28) + vx8_).toNat) Sx49_) rfl rfl (by decide) (vc_323 (Sx49_.2.2.1 128 0 (40 * (Sx49_.1 13 0 28) + vx8_).toNat) Sx49_ hIx50_ ) (fun u_ Sx61_ px64_ => ?_)
            obtain ⟨rfl, vx66_, rfl, px64_⟩ := px64_
            have e143_ := px64_
            refine sm_T_b0 (a := 1) (z := 11) rfl (fun cx67_ => ?_) (fun cx67_ => ?_)
            · have cx67_ : vx66_ ≠ 0 := of_decide_eq_true cx67_
              refine sm_T_go 4 (c1 := (164, [some (.inr (.inr (some (13, 0)))), some (.inl (S0_.1 13 0 9)), some (.inl vx8_), some (.inl vx21_), some (.inl (40 * (Sx49_.1 13 0 28) + vx8_))], [.inl (40 * (Sx49_.1 13 0 28) + vx8_), .inr (.inr (some (129, 0))), .inr (.inr (some (13, 0)))], Sx49_)) rfl ?_
              refine sm_T_iald (n := 640) rfl rfl (by omega) (by omega) ?_
              have bx68_ : 0 ≤ Sx49_.2.2.1 129 0 (40 * (Sx49_.1 13 0 28) + vx8_).toNat ∧ Sx49_.2.2.1 129 0 (40 * (Sx49_.1 13 0 28) + vx8_).toNat ≤ 8 := hIx50_.2 129 0 _
              have bx69_ : 0 ≤ Sx49_.1 13 0 29 ∧ Sx49_.1 13 0 29 ≤ 16 := hIx50_.1 13 0 29 rfl
              refine sm_T_go 5 (c1 := (174, [some (.inr (.inr (some (13, 0)))), some (.inl (S0_.1 13 0 9)), some (.inl vx8_), some (.inl vx21_), some (.inl (40 * (Sx49_.1 13 0 28) + vx8_))], [.inl (Sx49_.1 13 0 29), .inl 40, .inl 8, .inl 0, .inl (Sx49_.2.2.1 129 0 (40 * (Sx49_.1 13 0 28) + vx8_).toNat), .inr (.inr (some (13, 0)))], Sx49_)) rfl ?_
              refine sm_T_bin (w := 40 * (Sx49_.1 13 0 29)) rfl (bi_mul (by omega) (by omega) (by omega)) ?_
              refine sm_T_go 1 (c1 := (176, [some (.inr (.inr (some (13, 0)))), some (.inl (S0_.1 13 0 9)), some (.inl vx8_), some (.inl vx21_), some (.inl (40 * (Sx49_.1 13 0 28) + vx8_))], [.inl vx8_, .inl (40 * (Sx49_.1 13 0 29)), .inl 8, .inl 0, .inl (Sx49_.2.2.1 129 0 (40 * (Sx49_.1 13 0 28) + vx8_).toNat), .inr (.inr (some (13, 0)))], Sx49_)) rfl ?_
              refine sm_T_bin (w := 40 * (Sx49_.1 13 0 29) + vx8_) rfl (bi_add (by omega) (by omega) (by omega)) ?_
              refine sm_T_bin (w := 320 * (Sx49_.1 13 0 29) + 8 * vx8_) rfl (bi_mul (by omega) (by omega) (by omega)) ?_
              refine sm_T_cal (d1 := 0) (Q1 := vq_333 (Sx49_.2.2.1 129 0 (40 * (Sx49_.1 13 0 28) + vx8_).toNat) 0 (320 * (Sx49_.1 13 0 29) + 8 * vx8_) mo_ gl_ Sx49_) rfl rfl (by decide) (vc_333 (Sx49_.2.2.1 129 0 (40 * (Sx49_.1 13 0 28) + vx8_).toNat) 0 (320 * (Sx49_.1 13 0 29) + 8 * vx8_) mo_ gl_ Sx49_ hIx50_ (by exact ⟨vl9_, hv_.2⟩) (by exact mo9_) (by omega) (by (have := ao_.2.2.1; omega))) (fun u_ Sx70_ px73_ => ?_)
              obtain ⟨rfl, hIx71_, hFx72_, px73_⟩ := px73_
              have hFx74_ : ai_fr (sx_W vw_324) S0_ Sx70_ := ai_fr_tr hFx53_ (fr_le hFx72_ rfl)
              have ex75_ : Sx70_.1 13 0 28 = Sx49_.1 13 0 28 := hFx72_.1 13 0 28 rfl
              have ex76_ : Sx70_.1 13 0 9 = Sx49_.1 13 0 9 := hFx72_.1 13 0 9 rfl
              have ex77_ : Sx70_.1 13 0 29 = Sx49_.1 13 0 29 := hFx72_.1 13 0 29 rfl
              have c178_ := px73_
              rw [wk_] at c178_
              first | (have g178_ := rg_fr g44_ hFx72_ rfl rfl rfl; have t178_ := rtab_fr t44_ hFx72_ rfl rfl rfl rfl rfl) | (have g178_ := rg_fr g29_ hFx72_ rfl rfl rfl; have t178_ := rtab_fr t29_ hFx72_ rfl rfl rfl rfl rfl)
              have vl8_ : Sx70_.1 13 0 34 = (gl_ : Int) := (hFx74_.1 13 0 34 rfl).trans hv_.1
              have wx8_ := fr_arr (t := 129) (i := 0) hFx74_ rfl
              have wk8_ := (congrFun wx8_ _).trans ((congrArg (S0_.2.2.1 129 0) kx_).trans ro_.2.2.1)
              have nso_ : ¬ A_.2.2.1 (40 * M_ + s9_) = 5 := fun z_ => by have z1_ := e143_.2; have z2_ := sb_.2.1.mpr z_; omega
              refine sm_T_go 1 (c1 := (182, [some (.inr (.inr (some (13, 0)))), some (.inl (S0_.1 13 0 9)), some (.inl vx8_), some (.inl vx21_), some (.inl (40 * (Sx49_.1 13 0 28) + vx8_))], [.inl vx21_], Sx70_)) rfl ?_
              refine sm_T_b0 (a := 0) (z := 14) rfl (fun cx78_ => ?_) (fun cx78_ => ?_)
              · have cx78_ : vx21_ = 0 := of_decide_eq_true cx78_
                exfalso; omega
              · have cx78_ : ¬ (vx21_ = 0) := of_decide_eq_false cx78_
                refine sm_T_go 4 (c1 := (192, [some (.inr (.inr (some (13, 0)))), some (.inl (S0_.1 13 0 9)), some (.inl vx8_), some (.inl vx21_), some (.inl (40 * (Sx49_.1 13 0 28) + vx8_))], [.inl (40 * (Sx49_.1 13 0 28) + vx8_), .inr (.inr (some (129, 0))), .inr (.inr (some (13, 0)))], Sx70_)) rfl ?_
                refine sm_T_iald (n := 640) rfl rfl (by omega) (by omega) ?_
                have bx79_ : 0 ≤ Sx70_.2.2.1 129 0 (40 * (Sx49_.1 13 0 28) + vx8_).toNat ∧ Sx70_.2.2.1 129 0 (40 * (Sx49_.1 13 0 28) + vx8_).toNat ≤ 8 := hIx71_.2 129 0 _
                refine sm_T_cal (d1 := 3) (Q1 := vq_325 (Sx70_.2.2.1 129 0 (40 * (Sx49_.1 13 0 28) + vx8_).toNat) b_ n_ T_ (.inr r_) mo_ gl_ Sx70_) rfl rfl (by decide) (vc_325 (Sx70_.2.2.1 129 0 (40 * (Sx49_.1 13 0 28) + vx8_).toNat) b_ n_ T_ (.inr r_) mo_ gl_ Sx70_ hIx71_ (by exact t178_) (by exact g178_) (by exact ⟨vl8_, hv_.2⟩) (by (have := ao_.2.2.1; omega))) (fun u_ Sx80_ px83_ => ?_)
                obtain ⟨rfl, hIx81_, hFx82_, px83_⟩ := px83_
                have hFx84_ : ai_fr (sx_W vw_324) S0_ Sx80_ := ai_fr_tr hFx74_ (fr_le hFx82_ rfl)
                have e193_ := px83_
                rw [wk8_, pb_r rfl] at e193_
                refine sm_T_rv rfl ⟨_, _, rfl, rfl, hIx81_, hFx84_, ?_⟩
                first | (have hp_ : p_na b_ n_ A_ M_ p_ = p_bi b_ n_ (A_.2.2.2.1 (40 * M_ + s9_)) [cw 9 s9_ 0] r_ := (by rw [na_5 q1_ hq_ k46_ hr44_ k2r]; exact if_neg nso_); rw [hp_]; refine ⟨by rw [bi_pl]; exact e193_.1, fun r9_ hr_ l_ hl_ hs_ => ?_⟩; obtain ⟨b1_, b2_⟩ := bi_1 hr_; rw [b1_]; exact e193_.2 _ b2_ l_ hl_ (c178_ l_ hl_ (by rw [w44_]; exact hs_)).2) | (cases hq_ : p_ad b_ n_ p_ with | inl e_ => (have hp_ := na_1 (A_ := A_) (M_ := M_) q1_ hq_; refine ⟨?_, fun r_ hr_ => by rw [hp_] at hr_; cases hr_⟩; rw [hp_]; rw [hq_] at g178_; exact g178_) | inr q_ => (have hp_ : p_na b_ n_ A_ M_ p_ = .inr (q_, A_.2.2.2.1 (40 * M_ + s9_), [cw 9 s9_ 0]) := (by rw [na_2 q1_ hq_ (fun z_ => by have := (e35_ q_ hq_).mpr z_; omega)]; exact if_neg nso_); rw [hp_]; refine ⟨by rw [hq_] at g178_; exact g178_, fun r9_ hr_ l_ hl_ hs_ => ?_⟩; cases hr_; exact c178_ l_ hl_ (by rw [w29_]; exact hs_)))
            · have cx67_ : ¬ (vx66_ ≠ 0) := of_decide_eq_false cx67_
              refine sm_T_go 3 (c1 := (153, [some (.inr (.inr (some (13, 0)))), some (.inl (S0_.1 13 0 9)), some (.inl vx8_), some (.inl vx21_), some (.inl (40 * (Sx49_.1 13 0 28) + vx8_))], [.inl (S0_.1 13 0 9), .inl 11, .inr (.inr (some (13, 0)))], Sx49_)) rfl ?_
              refine sm_T_cal (d1 := 0) (Q1 := vq_294 11 (S0_.1 13 0 9) Sx49_) rfl rfl (by decide) (vc_294 11 (S0_.1 13 0 9) Sx49_ hIx50_ (by decide) (by omega)) (fun u_ Sx85_ px88_ => ?_)
              obtain ⟨rfl, hIx86_, hFx87_, px88_⟩ := px88_
              have hFx89_ : ai_fr (sx_W vw_324) S0_ Sx85_ := ai_fr_tr hFx53_ (fr_le hFx87_ rfl)
              have ex90_ : Sx85_.1 13 0 9 = Sx49_.1 13 0 9 := hFx87_.1 13 0 9 rfl
              have ex91_ : Sx85_.1 13 0 28 = Sx49_.1 13 0 28 := hFx87_.1 13 0 28 rfl
              have e153_ := px88_
              refine sm_T_rv rfl ⟨_, _, rfl, rfl, hIx86_, hFx89_, ?_⟩
              have so5_ : A_.2.2.1 (40 * M_ + s9_) = 5 := sb_.2.1.mp (by have z1_ := e143_.2; have z2_ := sb_.2.2.2.2; omega)
              first | (have hp_ : p_na b_ n_ A_ M_ p_ = .inl (11, p_) := (by rw [na_5 q1_ hq_ k46_ hr44_ k2r]; exact if_pos so5_); refine ⟨?_, fun r_ hr_ => by rw [hp_] at hr_; cases hr_⟩; rw [hp_]; rcases e153_ with z_ | z_; (exact absurd g44_.1 z_.1); (exact ⟨z_.2.1, z_.2.2.trans p44_, by show (11 : Int) ≠ 0; decide⟩)) | (cases hq_ : p_ad b_ n_ p_ with | inl e_ => (have hp_ := na_1 (A_ := A_) (M_ := M_) q1_ hq_; refine ⟨?_, fun r_ hr_ => by rw [hp_] at hr_; cases hr_⟩; rw [hp_]; rw [hq_] at g29_; rcases e153_ with z_ | z_; (exact rg_e2 g29_ z_.2.1 z_.2.2); (exact absurd (g29_.1.symm.trans z_.1) g29_.2.2)) | inr q_ => (have hp_ : p_na b_ n_ A_ M_ p_ = .inl (11, p_) := (by rw [na_2 q1_ hq_ (fun z_ => by have := (e35_ q_ hq_).mpr z_; omega)]; exact if_pos so5_); refine ⟨?_, fun r_ hr_ => by rw [hp_] at hr_; cases hr_⟩; rw [hp_]; rw [hq_] at g29_; rcases e153_ with z_ | z_; (exact absurd g29_.1 z_.1); (exact ⟨z_.2.1, z_.2.2.trans p29_, by show (11 : Int) ≠ 0; decide⟩)))
          · have cx59_ : ¬ ((Sx49_.2.2.1 119 0 (Sx49_.1 13 0 9).toNat) ≠ 1) := of_decide_eq_false cx59_
            exfalso; omega
      · have cx56_ : ¬ ((Sx49_.2.2.1 119 0 (Sx49_.1 13 0 9).toNat) = 2) := of_decide_eq_false cx56_
        refine sm_T_go 4 (c1 := (68, [some (.inr (.inr (some (13, 0)))), some (.inl (S0_.1 13 0 9)), some (.inl vx8_), some (.inl vx21_), none], [.inl (Sx49_.1 13 0 9), .inr (.inr (some (119, 0)))], Sx49_)) rfl ?_
        refine sm_T_bald (n := 65537) rfl rfl (by omega) (by omega) ?_
        refine sm_T_go 1 (c1 := (70, [some (.inr (.inr (some (13, 0)))), some (.inl (S0_.1 13 0 9)), some (.inl vx8_), some (.inl vx21_), none], [.inl 1, .inl (Sx49_.2.2.1 119 0 (Sx49_.1 13 0 9).toNat)], Sx49_)) rfl ?_
        refine sm_T_br (a := 0) (z := 13) rfl (fun cx92_ => ?_) (fun cx92_ => ?_)
        · have cx92_ : (Sx49_.2.2.1 119 0 (Sx49_.1 13 0 9).toNat) = 1 := of_decide_eq_true cx92_
          have bx93_ : 0 ≤ Sx49_.1 13 0 28 ∧ Sx49_.1 13 0 28 ≤ 15 := hIx50_.1 13 0 28 rfl
          refine sm_T_go 3 (c1 := (89, [some (.inr (.inr (some (13, 0)))), some (.inl (S0_.1 13 0 9)), some (.inl vx8_), some (.inl vx21_), none], [.inl (Sx49_.1 13 0 28), .inl 40], Sx49_)) rfl ?_
          refine sm_T_bin (w := 40 * (Sx49_.1 13 0 28)) rfl (bi_mul (by omega) (by omega) (by omega)) ?_
          refine sm_T_go 1 (c1 := (91, [some (.inr (.inr (some (13, 0)))), some (.inl (S0_.1 13 0 9)), some (.inl vx8_), some (.inl vx21_), none], [.inl vx8_, .inl (40 * (Sx49_.1 13 0 28))], Sx49_)) rfl ?_
          refine sm_T_bin (w := 40 * (Sx49_.1 13 0 28) + vx8_) rfl (bi_add (by omega) (by omega) (by omega)) ?_
          refine sm_T_go 2 (c1 := (95, [some (.inr (.inr (some (13, 0)))), some (.inl (S0_.1 13 0 9)), some (.inl vx8_), some (.inl vx21_), some (.inl (40 * (Sx49_.1 13 0 28) + vx8_))], [.inl vx21_], Sx49_)) rfl ?_
          refine sm_T_b0 (a := 0) (z := 41) rfl (fun cx94_ => ?_) (fun cx94_ => ?_)
          · have cx94_ : vx21_ = 0 := of_decide_eq_true cx94_
            exfalso; omega
          · have cx94_ : ¬ (vx21_ = 0) := of_decide_eq_false cx94_
            refine sm_T_go 4 (c1 := (106, [some (.inr (.inr (some (13, 0)))), some (.inl (S0_.1 13 0 9)), some (.inl vx8_), some (.inl vx21_), some (.inl (40 * (Sx49_.1 13 0 28) + vx8_))], [.inl (Sx49_.1 13 0 9), .inr (.inr (some (119, 0)))], Sx49_)) rfl ?_
            refine sm_T_bald (n := 65537) rfl rfl (by omega) (by omega) ?_
            refine sm_T_go 1 (c1 := (108, [some (.inr (.inr (some (13, 0)))), some (.inl (S0_.1 13 0 9)), some (.inl vx8_), some (.inl vx21_), some (.inl (40 * (Sx49_.1 13 0 28) + vx8_))], [.inl 1, .inl (Sx49_.2.2.1 119 0 (Sx49_.1 13 0 9).toNat)], Sx49_)) rfl ?_
            refine sm_T_br (a := 1) (z := 28) rfl (fun cx95_ => ?_) (fun cx95_ => ?_)
            · have cx95_ : (Sx49_.2.2.1 119 0 (Sx49_.1 13 0 9).toNat) ≠ 1 := of_decide_eq_true cx95_
              exfalso; omega
            · have cx95_ : ¬ ((Sx49_.2.2.1 119 0 (Sx49_.1 13 0 9).toNat) ≠ 1) := of_decide_eq_false cx95_
              obtain ⟨r_, hr44_⟩ : ∃ r_, p_ad b_ n_ q_ = .inr r_ := by cases hr_ : p_ad b_ n_ q_ with | inl e_ => (exfalso; have z1_ := s44_ e_ hr_; omega) | inr r_ => exact ⟨r_, rfl⟩
              obtain ⟨j_, j1_, j2_, j3_, j4_⟩ := r44_ r_ hr44_
              have j5_ := r_st_3 (lx_kd_r j2_.2.2.1)
              have k1r : lx_kd b_ n_ r_ = 1 := j5_.2.1.mp (by omega)
              rw [hr44_] at g44_
              refine sm_T_go 3 (c1 := (117, [some (.inr (.inr (some (13, 0)))), some (.inl (S0_.1 13 0 9)), some (.inl vx8_), some (.inl vx21_), some (.inl (40 * (Sx49_.1 13 0 28) + vx8_))], [.inl (40 * (Sx49_.1 13 0 28) + vx8_), .inr (.inr (some (128, 0)))], Sx49_)) rfl ?_
              refine sm_T_iald (n := 640) rfl rfl (by omega) (by omega) ?_
              have bx96_ : 0 ≤ Sx49_.2.2.1 128 0 (40 * (Sx49_.1 13 0 28) + vx8_).toNat ∧ Sx49_.2.2.1 128 0 (40 * (Sx49_.1 13 0 28) + vx8_).toNat ≤ 5 := hIx50_.2 128 0 _
              refine sm_T_go 1 (c1 := (119, [some (.inr (.inr (some (13, 0)))), some (.inl (S0_.1 13 0 9)), some (.inl vx8_), some (.inl vx21_), some (.inl (40 * (Sx49_.1 13 0 28) + vx8_))], [.inl 5, .inl (Sx49_.2.2.1 128 0 (40 * (Sx49_.1 13 0 28) + vx8_).toNat)], Sx49_)) rfl ?_
              refine sm_T_br (a := 0) (z := 11) rfl (fun cx97_ => ?_) (fun cx97_ => ?_)
              · have cx97_ : (Sx49_.2.2.1 128 0 (40 * (Sx49_.1 13 0 28) + vx8_).toNat) = 5 := of_decide_eq_true cx97_
                refine sm_T_go 2 (c1 := (132, [some (.inr (.inr (some (13, 0)))), some (.inl (S0_.1 13 0 9)), some (.inl vx8_), some (.inl vx21_), some (.inl (40 * (Sx49_.1 13 0 28) + vx8_))], [.inl vx8_, .inr (.inr (some (13, 0)))], Sx49_)) rfl ?_
                refine sm_T_cal (d1 := 4) (Q1 := vq_326 vx8_ b_ n_ T_ mo_ r_ j_ gl_ A_ M_ s9_ Sx49_) rfl rfl (by decide) (vc_326 vx8_ b_ n_ T_ mo_ r_ j_ gl_ A_ M_ s9_ Sx49_ hIx50_ (by exact t44_) (by exact g44_.1) (by exact ⟨j1_, j2_⟩) (by exact ⟨vl9_, hv_.2⟩) (by exact mo9_) (by exact wt9_) (by exact hA_) (by exact mx_) (by exact re9_) (by exact k1r) (by omega) (by exact ⟨e11_.trans q1_, q2_⟩) (by exact sb_.2.1.mp (by omega))) (fun u_ Sx98_ px101_ => ?_)
                obtain ⟨rfl, hIx99_, hFx100_, px101_⟩ := px101_
                have hFx102_ : ai_fr (sx_W vw_324) S0_ Sx98_ := ai_fr_tr hFx53_ (fr_le hFx100_ rfl)
                have ex103_ : Sx98_.1 13 0 28 = Sx49_.1 13 0 28 := hFx100_.1 13 0 28 rfl
                have e132_ := px101_
                have h5s : A_.2.2.1 (40 * M_ + s9_) = 5 := sb_.2.1.mp (by omega)
                refine sm_T_rv rfl ⟨_, _, rfl, rfl, hIx99_, hFx102_, ?_⟩
                rw [e11_, q1_] at e132_
                have hp_ : p_na b_ n_ A_ M_ p_ = p_pa b_ n_ A_ s9_ (A_.2.2.2.2 (40 * M_ + s9_)).toNat r_ := by rw [na_4 q1_ hq_ k46_ hr44_ k1r]; exact if_pos h5s
                rw [hp_]
                refine ⟨e132_.1, fun r9_ hr_ l_ hl_ hs_ => e132_.2 r9_ hr_ l_ hl_ ?_⟩
                rw [w44_]; exact hs_
              · have cx97_ : ¬ ((Sx49_.2.2.1 128 0 (40 * (Sx49_.1 13 0 28) + vx8_).toNat) = 5) := of_decide_eq_false cx97_
                refine sm_T_go 3 (c1 := (126, [some (.inr (.inr (some (13, 0)))), some (.inl (S0_.1 13 0 9)), some (.inl vx8_), some (.inl vx21_), some (.inl (40 * (Sx49_.1 13 0 28) + vx8_))], [.inl (S0_.1 13 0 9), .inl 11, .inr (.inr (some (13, 0)))], Sx49_)) rfl ?_
                refine sm_T_cal (d1 := 0) (Q1 := vq_294 11 (S0_.1 13 0 9) Sx49_) rfl rfl (by decide) (vc_294 11 (S0_.1 13 0 9) Sx49_ hIx50_ (by decide) (by omega)) (fun u_ Sx104_ px107_ => ?_)
                obtain ⟨rfl, hIx105_, hFx106_, px107_⟩ := px107_
                have hFx108_ : ai_fr (sx_W vw_324) S0_ Sx104_ := ai_fr_tr hFx53_ (fr_le hFx106_ rfl)
                have ex109_ : Sx104_.1 13 0 9 = Sx49_.1 13 0 9 := hFx106_.1 13 0 9 rfl
                have ex110_ : Sx104_.1 13 0 28 = Sx49_.1 13 0 28 := hFx106_.1 13 0 28 rfl
                have e126_ := px107_
                refine sm_T_rv rfl ⟨_, _, rfl, rfl, hIx105_, hFx108_, ?_⟩
                have hp_ : p_na b_ n_ A_ M_ p_ = .inl (11, p_) := by rw [na_4 q1_ hq_ k46_ hr44_ k1r]; exact if_neg (fun z_ => by have := sb_.2.1.mpr z_; omega)
                refine ⟨?_, fun r_ hr_ => by rw [hp_] at hr_; cases hr_⟩
                rw [hp_]
                rcases e126_ with z_ | z_
                · exact absurd g44_.1 z_.1
                · exact ⟨z_.2.1, z_.2.2.trans p44_, by show (11 : Int) ≠ 0; decide⟩
        · have cx92_ : ¬ ((Sx49_.2.2.1 119 0 (Sx49_.1 13 0 9).toNat) = 1) := of_decide_eq_false cx92_
          refine sm_T_go 4 (c1 := (79, [some (.inr (.inr (some (13, 0)))), some (.inl (S0_.1 13 0 9)), some (.inl vx8_), some (.inl vx21_), none], [.inl (Sx49_.1 13 0 9), .inl 2, .inr (.inr (some (13, 0)))], Sx49_)) rfl ?_
          refine sm_T_cal (d1 := 0) (Q1 := vq_293 2 (Sx49_.1 13 0 9) Sx49_) rfl rfl (by decide) (vc_293 2 (Sx49_.1 13 0 9) Sx49_ hIx50_ (by decide) (by omega)) (fun u_ Sx111_ px114_ => ?_)
          obtain ⟨rfl, hIx112_, hFx113_, px114_⟩ := px114_
          have hFx115_ : ai_fr (sx_W vw_324) S0_ Sx111_ := ai_fr_tr hFx53_ (fr_le hFx113_ rfl)
          have ex116_ : Sx111_.1 13 0 9 = Sx49_.1 13 0 9 := hFx113_.1 13 0 9 rfl
          have e79_ := px114_
          refine sm_T_rv rfl ⟨_, _, rfl, rfl, hIx112_, hFx115_, ?_⟩
          cases hr44_ : p_ad b_ n_ q_ with
          | inl e_ =>
            have hp_ : p_na b_ n_ A_ M_ p_ = .inl e_ := na_3 q1_ hq_ k46_ hr44_
            refine ⟨?_, fun r_ hr_ => by rw [hp_] at hr_; cases hr_⟩
            rw [hp_]
            rw [hr44_] at g44_
            rcases e79_ with z_ | z_
            · exact rg_e2 g44_ z_.2.1 z_.2.2
            · exact absurd (g44_.1.symm.trans z_.1) g44_.2.2
          | inr r_ =>
            obtain ⟨j_, j1_, j2_, j3_, j4_⟩ := r44_ r_ hr44_
            have j5_ := r_st_3 (lx_kd_r j2_.2.2.1)
            have hp_ : p_na b_ n_ A_ M_ p_ = .inl (2, r_) := na_6 q1_ hq_ k46_ hr44_ (fun z_ => by have := j5_.2.1.mpr z_; omega) (fun z_ => by have := j5_.2.2.1.mpr z_; omega)
            refine ⟨?_, fun r_ hr_ => by rw [hp_] at hr_; cases hr_⟩
            rw [hp_]
            rw [hr44_] at g44_
            rcases e79_ with z_ | z_
            · exact absurd g44_.1 z_.1
            · exact ⟨z_.2.1.trans (if_neg (by rw [j3_]; exact j5_.2.2.2.2.2)), z_.2.2.trans j4_, by show (2 : Int) ≠ 0; decide⟩
  · have cx9_ : ¬ (vx8_ ≠ (-1)) := of_decide_eq_false cx9_
    refine sm_T_go 3 (c1 := (24, [some (.inr (.inr (some (13, 0)))), some (.inl (S0_.1 13 0 9)), some (.inl vx8_), none, none], [.inl (S0_.1 13 0 9), .inl 11, .inr (.inr (some (13, 0)))], S0_)) rfl ?_
    refine sm_T_cal (d1 := 0) (Q1 := vq_293 11 (S0_.1 13 0 9) S0_) rfl rfl (by decide) (vc_293 11 (S0_.1 13 0 9) S0_ hI_ (by decide) (by omega)) (fun u_ Sx117_ px120_ => ?_)
    obtain ⟨rfl, hIx118_, hFx119_, px120_⟩ := px120_
    have hFx121_ : ai_fr (sx_W vw_324) S0_ Sx117_ := ai_fr_tr hF_ (fr_le hFx119_ rfl)
    have ex122_ : Sx117_.1 13 0 28 = S0_.1 13 0 28 := hFx119_.1 13 0 28 rfl
    have ex123_ : Sx117_.1 13 0 9 = S0_.1 13 0 9 := hFx119_.1 13 0 9 rfl
    have e24_ := px120_
    refine sm_T_rv rfl ⟨_, _, rfl, rfl, hIx118_, hFx121_, ?_⟩
    have hp_ : p_na b_ n_ A_ M_ p_ = .inl (11, p_) := na_0 (by omega)
    refine ⟨?_, fun r_ hr_ => by rw [hp_] at hr_; cases hr_⟩
    rw [hp_]
    rcases e24_ with z_ | z_
    · exact absurd hf_ z_.1
    · refine ⟨z_.2.1.trans (if_neg ?_), ?_, by show (11 : Int) ≠ 0; decide⟩
      · rw [e4_, ra_.1]; exact rk_.2.2.2.2.2
      · rw [z_.2.2, e4_]; exact ra_.2.1
end
/-! 99.yda -/
section
/-! the reference: inputs of cells; written by wip/p55/gen/vg -/

/-! inputs of_ cells -/
theorem nm_q_2 {b_ : Nat → Int} {n_ p_ a_ c_ : Nat} (h1_ : nm_q b_ n_ a_ p_ = true) (h2_ : nm_q b_ n_ c_ p_ = true) : nm_q b_ n_ a_ c_ = true := by
  rw [nm_q_t] at h1_ h2_ ⊢
  exact ⟨h1_.1.trans h2_.1.symm, fun k_ hk_ => (h1_.2 k_ hk_).trans (h2_.2 k_ (by rw [h2_.1, ← h1_.1]; exact hk_)).symm⟩
def inr_ (b_ : Nat → Int) (n_ T_ K_ : Nat) (f_ : Nat → Nat) (S_ : sm_S) : Prop := S_.1 13 0 80 = (K_ : Int) ∧ K_ ≤ 3 ∧ (∀ j_, j_ < K_ → rtk b_ n_ T_ (S_.2.2.1 177 0 j_) (f_ j_)) ∧ ∀ i_ j_, i_ < j_ → j_ < K_ → nm_q b_ n_ (f_ i_) (f_ j_) = false
theorem fd_u {g_ : Nat → Bool} {k_ : Nat} (h_ : g_ k_ = true) (hu_ : ∀ i_, i_ < k_ → g_ i_ = false) : p_fd g_ (k_ + 1) = (k_ : Int) := by
  have h1_ : p_fd g_ k_ = -1 := by
    by_cases z_ : p_fd g_ k_ = -1
    · exact z_
    · exfalso
      have h2_ := p_fd_b (f_ := g_) k_
      obtain ⟨s_, hs_⟩ : ∃ s_ : Nat, p_fd g_ k_ = (s_ : Int) := ⟨(p_fd g_ k_).toNat, by omega⟩
      have h3_ := p_fd_f hs_
      rw [hu_ s_ h3_.2] at h3_
      exact absurd h3_.1 (by decide)
  rw [p_fd, if_pos h1_, if_pos h_]
theorem fd_n {g_ : Nat → Bool} {k_ : Nat} (h_ : g_ k_ = false) : p_fd g_ (k_ + 1) = p_fd g_ k_ := by
  rw [p_fd]
  split
  · rename_i z_
    rw [if_neg (by rw [h_]; decide), z_]
  · rfl
/-! M_.cellInput -/
def vw_327 : sx_Wl := ([(13, 9), (13, 10), (13, 11)], [138, 139], [])
def vq_327 (b_ : Nat → Int) (n_ : Nat) (T_ : Nat) (mo_ : Int) (p_ : Nat) (i_ : Nat) (gl_ : Nat) (K_ : Nat) (f_ : Nat → Nat) (S0_ : sm_S) (u_ : Option sm_V) (S1_ : sm_S) : Prop := u_ = none ∧ gi S1_ ∧ ai_fr (sx_W vw_327) S0_ S1_ ∧ (rg b_ n_ T_ (pb (p_pl b_ n_ K_ f_ p_) fun r_ => .inr r_.1) S1_ ∧ ∀ r_, p_pl b_ n_ K_ f_ p_ = .inr r_ → ∀ l_ : List Int, l_.length = gl_ → stk (fun j_ => S0_.2.2.1 139 0 (8 * j_)) l_ → stk (fun j_ => S1_.2.2.1 139 0 (8 * j_)) (r_.2.1 :: l_))
set_option maxHeartbeats 1500000 in
theorem vl_327 {sc_ : Nat × (Nat → Int)} (b_ : Nat → Int) (n_ : Nat) (T_ : Nat) (mo_ : Int) (p_ : Nat) (i_ : Nat) (gl_ : Nat) (K_ : Nat) (f_ : Nat → Nat) (S0_ : sm_S) (ht_ : rtab b_ n_ T_ S0_) (hf_ : (S0_.1 13 0 10) = 0) (hi_ : (S0_.1 13 0 9) = (i_ : Int) ∧ rp b_ n_ T_ i_ p_) (hv_ : (S0_.1 13 0 34) = (gl_ : Int) ∧ gl_ ≤ 1000) (hmo_ : (S0_.1 13 0 27) = mo_) (hw_ : (S0_.1 13 0 32) ≤ 800) (hr_ : inr_ b_ n_ T_ K_ f_ S0_) : ∀ nn_ : Nat, (∀ (k_ : Int) (i2_ : Int) (S_ : sm_S), gi S_ → ai_fr (sx_W vw_327) S0_ S_ → ((0 ≤ i2_ ∧ i2_ ≤ (K_ : Int)) ∧ (k_ = p_fd (fun s_ => nm_q b_ n_ (f_ s_) p_) i2_.toNat) ∧ (lx_kd b_ n_ p_ = 1) ∧ (S_ = S0_) ∧ True) → (((K_ : Int) - i2_).toNat) < nn_ → sm_T (mt_P sc_) 3 327 (27, [some (.inr (.inr (some (13, 0)))), some (.inl k_), some (.inl i2_)], [], S_) (fun r_ => ∃ u_ S1_, r_ = (.inl u_, S1_, 0) ∧ vq_327 b_ n_ T_ mo_ p_ i_ gl_ K_ f_ S0_ u_ S1_)) := by
  intro nn_
  induction nn_ with
  | zero => exact fun _ _ _ _ _ _ h_ => absurd h_ (Nat.not_lt_zero _)
  | succ nn_ ih_ =>
    rintro k_ i2_ S_ hI_ hF_ ⟨h0_, h1_, h9_, hS_, -⟩ hm_
    have ht1_ : rtab b_ n_ T_ S_ := by rw [hS_]; exact ht_
    have hx_ : rg b_ n_ T_ (.inr p_) S0_ := ⟨hf_, i_, hi_.1, hi_.2⟩
    have hi9_ := hi_.2.1
    have hT_ := ht_.2.1
    have ra_ := rp_at ht_ hi_.2
    have rk_ := r_st_3 (lx_kd_r hi_.2.2.2.1)
    have e4_ : (S0_.1 13 0 9).toNat = i_ := by omega
    have hK_ : S_.1 13 0 80 = (K_ : Int) := by rw [hS_]; exact hr_.1
    have hK3_ := hr_.2.1
    have fdb_ := p_fd_b (f_ := fun s_ => nm_q b_ n_ (f_ s_) p_) i2_.toNat
    have hat_ : S_.1 13 0 9 = (i_ : Int) := by rw [hS_]; exact hi_.1
    have hvl_ : S_.1 13 0 34 = (gl_ : Int) := by rw [hS_]; exact hv_.1
    have eK_ : ¬ i2_ < (K_ : Int) → i2_.toNat = K_ := fun z_ => by omega
    have bx1_ : 0 ≤ S_.1 13 0 80 ∧ S_.1 13 0 80 ≤ 3 := hI_.1 13 0 80 rfl
    refine sm_T_go 3 (c1 := (32, [some (.inr (.inr (some (13, 0)))), some (.inl k_), some (.inl i2_)], [.inl (S_.1 13 0 80), .inl i2_], S_)) rfl ?_
    refine sm_T_br (a := 3) (z := 32) rfl (fun cx2_ => ?_) (fun cx2_ => ?_)
    · have cx2_ : (S_.1 13 0 80) ≤ i2_ := of_decide_eq_true cx2_
      have eK2_ : i2_.toNat = K_ := by omega
      rw [eK2_] at h1_ fdb_
      refine sm_T_go 2 (c1 := (66, [some (.inr (.inr (some (13, 0)))), some (.inl k_), some (.inl i2_)], [.inl (-1), .inl k_], S_)) rfl ?_
      refine sm_T_br (a := 1) (z := 14) rfl (fun cx3_ => ?_) (fun cx3_ => ?_)
      · have cx3_ : k_ ≠ (-1) := of_decide_eq_true cx3_
        have bx4_ : 0 ≤ S_.1 13 0 34 ∧ S_.1 13 0 34 ≤ 1023 := hI_.1 13 0 34 rfl
        refine sm_T_go 5 (c1 := (90, [some (.inr (.inr (some (13, 0)))), some (.inl k_), some (.inl i2_)], [.inl (S_.1 13 0 34), .inl 8, .inr (.inr (some (139, 0)))], S_)) rfl ?_
        refine sm_T_bin (w := 8 * (S_.1 13 0 34)) rfl (bi_mul (by omega) (by omega) (by omega)) ?_
        refine sm_T_go 1 (c1 := (92, [some (.inr (.inr (some (13, 0)))), some (.inl k_), some (.inl i2_)], [.inl k_, .inl (8 * (S_.1 13 0 34)), .inr (.inr (some (139, 0)))], S_)) rfl ?_
        refine sm_T_b0 (a := 1) (z := 9) rfl (fun cx5_ => ?_) (fun cx5_ => ?_)
        · have cx5_ : k_ ≠ 0 := of_decide_eq_true cx5_
          refine sm_T_go 2 (c1 := (103, [some (.inr (.inr (some (13, 0)))), some (.inl k_), some (.inl i2_)], [.inl 1, .inl k_, .inl (8 * (S_.1 13 0 34)), .inr (.inr (some (139, 0)))], S_)) rfl ?_
          refine sm_T_br (a := 1) (z := 9) rfl (fun cx6_ => ?_) (fun cx6_ => ?_)
          · have cx6_ : k_ ≠ 1 := of_decide_eq_true cx6_
            refine sm_T_go 1 (c1 := (115, [some (.inr (.inr (some (13, 0)))), some (.inl k_), some (.inl i2_)], [.inl 240, .inl (8 * (S_.1 13 0 34)), .inr (.inr (some (139, 0)))], S_)) rfl ?_
            refine sm_T_iast (n := 8192) rfl rfl (by omega) (by omega) ?_
            have hIx7_ : gi (sm_aI S_ 139 0 (8 * (S_.1 13 0 34)).toNat 240) := gi_aI hI_ (show 0 ≤ 240 ∧ 240 ≤ 2047 from ⟨by omega, by omega⟩)
            have hFx8_ : ai_fr (sx_W vw_327) S0_ (sm_aI S_ 139 0 (8 * (S_.1 13 0 34)).toNat 240) := ai_fr_tr hF_ (ai_fr_aI rfl)
            refine sm_T_go 5 (c1 := (125, [some (.inr (.inr (some (13, 0)))), some (.inl k_), some (.inl i2_)], [.inl 1, .inl (S_.1 13 0 34), .inr (.inr (some (138, 0)))], sm_aI S_ 139 0 (8 * (S_.1 13 0 34)).toNat 240)) rfl ?_
            refine sm_T_iast (n := 1024) rfl rfl (by omega) (by omega) ?_
            have hIx9_ : gi (sm_aI (sm_aI S_ 139 0 (8 * (S_.1 13 0 34)).toNat 240) 138 0 (S_.1 13 0 34).toNat 1) := gi_aI hIx7_ (show (-2147483648) ≤ 1 ∧ 1 ≤ 2147483647 from ⟨by omega, by omega⟩)
            have hFx10_ : ai_fr (sx_W vw_327) S0_ (sm_aI (sm_aI S_ 139 0 (8 * (S_.1 13 0 34)).toNat 240) 138 0 (S_.1 13 0 34).toNat 1) := ai_fr_tr hFx8_ (ai_fr_aI rfl)
            refine sm_T_go 1 (c1 := (127, [some (.inr (.inr (some (13, 0)))), some (.inl k_), some (.inl i2_)], [.inr (.inr (some (13, 0)))], sm_aI (sm_aI S_ 139 0 (8 * (S_.1 13 0 34)).toNat 240) 138 0 (S_.1 13 0 34).toNat 1)) rfl ?_
            refine sm_T_cal (d1 := 2) (Q1 := vq_297 b_ n_ T_ (.inr p_) (sm_aI (sm_aI S_ 139 0 (8 * (S_.1 13 0 34)).toNat 240) 138 0 (S_.1 13 0 34).toNat 1)) rfl rfl (by decide) (vc_297 b_ n_ T_ (.inr p_) (sm_aI (sm_aI S_ 139 0 (8 * (S_.1 13 0 34)).toNat 240) 138 0 (S_.1 13 0 34).toNat 1) hIx9_ (by exact rtab_fr ht_ hFx10_ rfl rfl rfl rfl rfl) (by (rw [hS_]; exact hx_)) (by (intro q_ e_; cases e_; omega))) (fun u_ Sx11_ px14_ => ?_)
            obtain ⟨rfl, hIx12_, hFx13_, px14_⟩ := px14_
            have hFx15_ : ai_fr (sx_W vw_327) S0_ Sx11_ := ai_fr_tr hFx10_ (fr_le hFx13_ rfl)
            have g127_ := px14_.1
            rw [pb_r rfl] at g127_
            have l127_ := fr_arr (t := 139) (i := 0) hFx13_ rfl
            refine sm_T_rv rfl ⟨_, _, rfl, rfl, hIx12_, hFx15_, ?_⟩
            subst hS_
            have hp_ : p_pl b_ n_ K_ f_ p_ = pb (p_ad b_ n_ p_) fun q_ => .inr (q_, if p_fd (fun s_ => nm_q b_ n_ (f_ s_) p_) K_ = 0 then 170 else if p_fd (fun s_ => nm_q b_ n_ (f_ s_) p_) K_ = 1 then 204 else 240, []) := by unfold p_pl; rw [if_pos h9_, if_neg (by omega)]
            refine ⟨?_, fun r_ hr_ l_ hl_ hs_ => ?_⟩
            · rw [hp_]
              cases hq_ : p_ad b_ n_ p_ with
              | inl e_ => rw [hq_] at g127_; exact g127_
              | inr q_ => rw [hq_] at g127_; exact g127_
            · rw [hp_] at hr_
              obtain ⟨q_, z1_, z2_⟩ := pb_inr hr_
              cases z2_
              rw [l127_]
              refine stk_8o (stk_8p (by omega) ?_ hs_) (by decide)
              first | (rw [if_pos (by omega)]) | (rw [if_neg (by omega), if_pos (by omega)]) | (rw [if_neg (by omega), if_neg (by omega)])
          · have cx6_ : ¬ (k_ ≠ 1) := of_decide_eq_false cx6_
            refine sm_T_go 2 (c1 := (115, [some (.inr (.inr (some (13, 0)))), some (.inl k_), some (.inl i2_)], [.inl 204, .inl (8 * (S_.1 13 0 34)), .inr (.inr (some (139, 0)))], S_)) rfl ?_
            refine sm_T_iast (n := 8192) rfl rfl (by omega) (by omega) ?_
            have hIx16_ : gi (sm_aI S_ 139 0 (8 * (S_.1 13 0 34)).toNat 204) := gi_aI hI_ (show 0 ≤ 204 ∧ 204 ≤ 2047 from ⟨by omega, by omega⟩)
            have hFx17_ : ai_fr (sx_W vw_327) S0_ (sm_aI S_ 139 0 (8 * (S_.1 13 0 34)).toNat 204) := ai_fr_tr hF_ (ai_fr_aI rfl)
            refine sm_T_go 5 (c1 := (125, [some (.inr (.inr (some (13, 0)))), some (.inl k_), some (.inl i2_)], [.inl 1, .inl (S_.1 13 0 34), .inr (.inr (some (138, 0)))], sm_aI S_ 139 0 (8 * (S_.1 13 0 34)).toNat 204)) rfl ?_
            refine sm_T_iast (n := 1024) rfl rfl (by omega) (by omega) ?_
            have hIx18_ : gi (sm_aI (sm_aI S_ 139 0 (8 * (S_.1 13 0 34)).toNat 204) 138 0 (S_.1 13 0 34).toNat 1) := gi_aI hIx16_ (show (-2147483648) ≤ 1 ∧ 1 ≤ 2147483647 from ⟨by omega, by omega⟩)
            have hFx19_ : ai_fr (sx_W vw_327) S0_ (sm_aI (sm_aI S_ 139 0 (8 * (S_.1 13 0 34)).toNat 204) 138 0 (S_.1 13 0 34).toNat 1) := ai_fr_tr hFx17_ (ai_fr_aI rfl)
            refine sm_T_go 1 (c1 := (127, [some (.inr (.inr (some (13, 0)))), some (.inl k_), some (.inl i2_)], [.inr (.inr (some (13, 0)))], sm_aI (sm_aI S_ 139 0 (8 * (S_.1 13 0 34)).toNat 204) 138 0 (S_.1 13 0 34).toNat 1)) rfl ?_
            refine sm_T_cal (d1 := 2) (Q1 := vq_297 b_ n_ T_ (.inr p_) (sm_aI (sm_aI S_ 139 0 (8 * (S_.1 13 0 34)).toNat 204) 138 0 (S_.1 13 0 34).toNat 1)) rfl rfl (by decide) (vc_297 b_ n_ T_ (.inr p_) (sm_aI (sm_aI S_ 139 0 (8 * (S_.1 13 0 34)).toNat 204) 138 0 (S_.1 13 0 34).toNat 1) hIx18_ (by exact rtab_fr ht_ hFx19_ rfl rfl rfl rfl rfl) (by (rw [hS_]; exact hx_)) (by (intro q_ e_; cases e_; omega))) (fun u_ Sx20_ px23_ => ?_)
            obtain ⟨rfl, hIx21_, hFx22_, px23_⟩ := px23_
            have hFx24_ : ai_fr (sx_W vw_327) S0_ Sx20_ := ai_fr_tr hFx19_ (fr_le hFx22_ rfl)
            have g127_ := px23_.1
            rw [pb_r rfl] at g127_
            have l127_ := fr_arr (t := 139) (i := 0) hFx22_ rfl
            refine sm_T_rv rfl ⟨_, _, rfl, rfl, hIx21_, hFx24_, ?_⟩
            subst hS_
            have hp_ : p_pl b_ n_ K_ f_ p_ = pb (p_ad b_ n_ p_) fun q_ => .inr (q_, if p_fd (fun s_ => nm_q b_ n_ (f_ s_) p_) K_ = 0 then 170 else if p_fd (fun s_ => nm_q b_ n_ (f_ s_) p_) K_ = 1 then 204 else 240, []) := by unfold p_pl; rw [if_pos h9_, if_neg (by omega)]
            refine ⟨?_, fun r_ hr_ l_ hl_ hs_ => ?_⟩
            · rw [hp_]
              cases hq_ : p_ad b_ n_ p_ with
              | inl e_ => rw [hq_] at g127_; exact g127_
              | inr q_ => rw [hq_] at g127_; exact g127_
            · rw [hp_] at hr_
              obtain ⟨q_, z1_, z2_⟩ := pb_inr hr_
              cases z2_
              rw [l127_]
              refine stk_8o (stk_8p (by omega) ?_ hs_) (by decide)
              first | (rw [if_pos (by omega)]) | (rw [if_neg (by omega), if_pos (by omega)]) | (rw [if_neg (by omega), if_neg (by omega)])
        · have cx5_ : ¬ (k_ ≠ 0) := of_decide_eq_false cx5_
          refine sm_T_go 2 (c1 := (115, [some (.inr (.inr (some (13, 0)))), some (.inl k_), some (.inl i2_)], [.inl 170, .inl (8 * (S_.1 13 0 34)), .inr (.inr (some (139, 0)))], S_)) rfl ?_
          refine sm_T_iast (n := 8192) rfl rfl (by omega) (by omega) ?_
          have hIx25_ : gi (sm_aI S_ 139 0 (8 * (S_.1 13 0 34)).toNat 170) := gi_aI hI_ (show 0 ≤ 170 ∧ 170 ≤ 2047 from ⟨by omega, by omega⟩)
          have hFx26_ : ai_fr (sx_W vw_327) S0_ (sm_aI S_ 139 0 (8 * (S_.1 13 0 34)).toNat 170) := ai_fr_tr hF_ (ai_fr_aI rfl)
          refine sm_T_go 5 (c1 := (125, [some (.inr (.inr (some (13, 0)))), some (.inl k_), some (.inl i2_)], [.inl 1, .inl (S_.1 13 0 34), .inr (.inr (some (138, 0)))], sm_aI S_ 139 0 (8 * (S_.1 13 0 34)).toNat 170)) rfl ?_
          refine sm_T_iast (n := 1024) rfl rfl (by omega) (by omega) ?_
          have hIx27_ : gi (sm_aI (sm_aI S_ 139 0 (8 * (S_.1 13 0 34)).toNat 170) 138 0 (S_.1 13 0 34).toNat 1) := gi_aI hIx25_ (show (-2147483648) ≤ 1 ∧ 1 ≤ 2147483647 from ⟨by omega, by omega⟩)
          have hFx28_ : ai_fr (sx_W vw_327) S0_ (sm_aI (sm_aI S_ 139 0 (8 * (S_.1 13 0 34)).toNat 170) 138 0 (S_.1 13 0 34).toNat 1) := ai_fr_tr hFx26_ (ai_fr_aI rfl)
          refine sm_T_go 1 (c1 := (127, [some (.inr (.inr (some (13, 0)))), some (.inl k_), some (.inl i2_)], [.inr (.inr (some (13, 0)))], sm_aI (sm_aI S_ 139 0 (8 * (S_.1 13 0 34)).toNat 170) 138 0 (S_.1 13 0 34).toNat 1)) rfl ?_
          refine sm_T_cal (d1 := 2) (Q1 := vq_297 b_ n_ T_ (.inr p_) (sm_aI (sm_aI S_ 139 0 (8 * (S_.1 13 0 34)).toNat 170) 138 0 (S_.1 13 0 34).toNat 1)) rfl rfl (by decide) (vc_297 b_ n_ T_ (.inr p_) (sm_aI (sm_aI S_ 139 0 (8 * (S_.1 13 0 34)).toNat 170) 138 0 (S_.1 13 0 34).toNat 1) hIx27_ (by exact rtab_fr ht_ hFx28_ rfl rfl rfl rfl rfl) (by (rw [hS_]; exact hx_)) (by (intro q_ e_; cases e_; omega))) (fun u_ Sx29_ px32_ => ?_)
          obtain ⟨rfl, hIx30_, hFx31_, px32_⟩ := px32_
          have hFx33_ : ai_fr (sx_W vw_327) S0_ Sx29_ := ai_fr_tr hFx28_ (fr_le hFx31_ rfl)
          have g127_ := px32_.1
          rw [pb_r rfl] at g127_
          have l127_ := fr_arr (t := 139) (i := 0) hFx31_ rfl
          refine sm_T_rv rfl ⟨_, _, rfl, rfl, hIx30_, hFx33_, ?_⟩
          subst hS_
          have hp_ : p_pl b_ n_ K_ f_ p_ = pb (p_ad b_ n_ p_) fun q_ => .inr (q_, if p_fd (fun s_ => nm_q b_ n_ (f_ s_) p_) K_ = 0 then 170 else if p_fd (fun s_ => nm_q b_ n_ (f_ s_) p_) K_ = 1 then 204 else 240, []) := by unfold p_pl; rw [if_pos h9_, if_neg (by omega)]
          refine ⟨?_, fun r_ hr_ l_ hl_ hs_ => ?_⟩
          · rw [hp_]
            cases hq_ : p_ad b_ n_ p_ with
            | inl e_ => rw [hq_] at g127_; exact g127_
            | inr q_ => rw [hq_] at g127_; exact g127_
          · rw [hp_] at hr_
            obtain ⟨q_, z1_, z2_⟩ := pb_inr hr_
            cases z2_
            rw [l127_]
            refine stk_8o (stk_8p (by omega) ?_ hs_) (by decide)
            first | (rw [if_pos (by omega)]) | (rw [if_neg (by omega), if_pos (by omega)]) | (rw [if_neg (by omega), if_neg (by omega)])
      · have cx3_ : ¬ (k_ ≠ (-1)) := of_decide_eq_false cx3_
        have bx34_ : 0 ≤ S_.1 13 0 9 ∧ S_.1 13 0 9 ≤ 1280 := hI_.1 13 0 9 rfl
        refine sm_T_go 4 (c1 := (76, [some (.inr (.inr (some (13, 0)))), some (.inl k_), some (.inl i2_)], [.inl (S_.1 13 0 9), .inl 11, .inr (.inr (some (13, 0)))], S_)) rfl ?_
        refine sm_T_cal (d1 := 0) (Q1 := vq_293 11 (S_.1 13 0 9) S_) rfl rfl (by decide) (vc_293 11 (S_.1 13 0 9) S_ hI_ (by decide) (by omega)) (fun u_ Sx35_ px38_ => ?_)
        obtain ⟨rfl, hIx36_, hFx37_, px38_⟩ := px38_
        have hFx39_ : ai_fr (sx_W vw_327) S0_ Sx35_ := ai_fr_tr hF_ (fr_le hFx37_ rfl)
        have ex40_ : Sx35_.1 13 0 80 = S_.1 13 0 80 := hFx37_.1 13 0 80 rfl
        have ex41_ : Sx35_.1 13 0 9 = S_.1 13 0 9 := hFx37_.1 13 0 9 rfl
        have e76_ := px38_
        refine sm_T_rv rfl ⟨_, _, rfl, rfl, hIx36_, hFx39_, ?_⟩
        have hp_ : p_pl b_ n_ K_ f_ p_ = .inl (11, p_) := by unfold p_pl; rw [if_pos h9_, if_pos (by omega)]
        refine ⟨?_, fun r_ hr_ => by rw [hp_] at hr_; cases hr_⟩
        rw [hp_]
        rw [hS_] at e76_
        rcases e76_ with z_ | z_
        · exact absurd hf_ z_.1
        · refine ⟨z_.2.1.trans (if_neg ?_), ?_, by show (11 : Int) ≠ 0; decide⟩
          · rw [e4_, ra_.1]; exact rk_.2.2.2.2.2
          · rw [z_.2.2, e4_]; exact ra_.2.1
    · have cx2_ : ¬ ((S_.1 13 0 80) ≤ i2_) := of_decide_eq_false cx2_
      refine sm_T_go 4 (c1 := (41, [some (.inr (.inr (some (13, 0)))), some (.inl k_), some (.inl i2_)], [.inl i2_, .inr (.inr (some (177, 0))), .inr (.inr (some (13, 0)))], S_)) rfl ?_
      refine sm_T_iald (n := 3) rfl rfl (by omega) (by omega) ?_
      have bx42_ : 0 ≤ S_.2.2.1 177 0 i2_.toNat ∧ S_.2.2.1 177 0 i2_.toNat ≤ 1280 := hI_.2 177 0 _
      have bx43_ : 0 ≤ S_.1 13 0 9 ∧ S_.1 13 0 9 ≤ 1280 := hI_.1 13 0 9 rfl
      refine sm_T_go 2 (c1 := (46, [some (.inr (.inr (some (13, 0)))), some (.inl k_), some (.inl i2_)], [.inl (S_.1 13 0 9), .inl (S_.2.2.1 177 0 i2_.toNat), .inr (.inr (some (13, 0)))], S_)) rfl ?_
      refine sm_T_cal (d1 := 0) (Q1 := vq_301 (S_.2.2.1 177 0 i2_.toNat) (S_.1 13 0 9) b_ n_ T_ (f_ i2_.toNat) p_ S_) rfl rfl (by decide) (vc_301 (S_.2.2.1 177 0 i2_.toNat) (S_.1 13 0 9) b_ n_ T_ (f_ i2_.toNat) p_ S_ hI_ (by exact ht1_) (by rw [hS_]; exact hr_.2.2.1 i2_.toNat (by omega)) (by rw [hS_, hi_.1]; exact (rp_rtk ht_ hi_.2 h9_).1)) (fun u_ Sx44_ px47_ => ?_)
      obtain ⟨rfl, vx49_, rfl, px47_⟩ := px47_
      have e46_ := px47_
      refine sm_T_b0 (a := 0) (z := 7) rfl (fun cx50_ => ?_) (fun cx50_ => ?_)
      · have cx50_ : vx49_ = 0 := of_decide_eq_true cx50_
        refine sm_T_go 2 (c1 := (58, [some (.inr (.inr (some (13, 0)))), some (.inl k_), some (.inl i2_)], [], S_)) rfl ?_
        refine sm_T_inc (a := 2) (z := 1) (v := i2_) (w := i2_ + 1) rfl rfl (by omega) (by omega) (by omega) ?_
        refine sm_T_go 1 (c1 := (27, [some (.inr (.inr (some (13, 0)))), some (.inl k_), some (.inl (i2_ + 1))], [], S_)) rfl ?_
        refine ih_ k_ (i2_ + 1) S_ hI_ hF_ ⟨?_, ?_, ?_, ?_, trivial⟩ ?_
        · omega
        · rw [show (i2_ + 1).toNat = i2_.toNat + 1 by omega]
          by_cases g_ : nm_q b_ n_ (f_ i2_.toNat) p_ = true
          · rw [if_pos g_] at e46_
            first | (exfalso; omega) | (rw [fd_u (g_ := fun s_ => nm_q b_ n_ (f_ s_) p_) g_ (fun j_ hj_ => (by by_cases z_ : nm_q b_ n_ (f_ j_) p_ = true; (exact absurd (nm_q_2 z_ g_) (by rw [hr_.2.2.2 j_ i2_.toNat hj_ (by omega)]; decide)); (exact Bool.eq_false_iff.mpr z_)))]; omega)
          · rw [if_neg g_] at e46_
            first | (exfalso; omega) | (rw [fd_n (g_ := fun s_ => nm_q b_ n_ (f_ s_) p_) (Bool.eq_false_iff.mpr g_)]; exact h1_)
        · exact h9_
        · exact hS_
        · omega
      · have cx50_ : ¬ (vx49_ = 0) := of_decide_eq_false cx50_
        refine sm_T_go 3 (c1 := (58, [some (.inr (.inr (some (13, 0)))), some (.inl i2_), some (.inl i2_)], [], S_)) rfl ?_
        refine sm_T_inc (a := 2) (z := 1) (v := i2_) (w := i2_ + 1) rfl rfl (by omega) (by omega) (by omega) ?_
        refine sm_T_go 1 (c1 := (27, [some (.inr (.inr (some (13, 0)))), some (.inl i2_), some (.inl (i2_ + 1))], [], S_)) rfl ?_
        refine ih_ i2_ (i2_ + 1) S_ hI_ hF_ ⟨?_, ?_, ?_, ?_, trivial⟩ ?_
        · omega
        · rw [show (i2_ + 1).toNat = i2_.toNat + 1 by omega]
          by_cases g_ : nm_q b_ n_ (f_ i2_.toNat) p_ = true
          · rw [if_pos g_] at e46_
            first | (exfalso; omega) | (rw [fd_u (g_ := fun s_ => nm_q b_ n_ (f_ s_) p_) g_ (fun j_ hj_ => (by by_cases z_ : nm_q b_ n_ (f_ j_) p_ = true; (exact absurd (nm_q_2 z_ g_) (by rw [hr_.2.2.2 j_ i2_.toNat hj_ (by omega)]; decide)); (exact Bool.eq_false_iff.mpr z_)))]; omega)
          · rw [if_neg g_] at e46_
            first | (exfalso; omega) | (rw [fd_n (g_ := fun s_ => nm_q b_ n_ (f_ s_) p_) (Bool.eq_false_iff.mpr g_)]; exact h1_)
        · exact h9_
        · exact hS_
        · omega
set_option maxHeartbeats 1500000 in
theorem vc_327 {sc_ : Nat × (Nat → Int)} (b_ : Nat → Int) (n_ : Nat) (T_ : Nat) (mo_ : Int) (p_ : Nat) (i_ : Nat) (gl_ : Nat) (K_ : Nat) (f_ : Nat → Nat) (S0_ : sm_S) (hI_ : gi S0_) (ht_ : rtab b_ n_ T_ S0_) (hf_ : (S0_.1 13 0 10) = 0) (hi_ : (S0_.1 13 0 9) = (i_ : Int) ∧ rp b_ n_ T_ i_ p_) (hv_ : (S0_.1 13 0 34) = (gl_ : Int) ∧ gl_ ≤ 1000) (hmo_ : (S0_.1 13 0 27) = mo_) (hw_ : (S0_.1 13 0 32) ≤ 800) (hr_ : inr_ b_ n_ T_ K_ f_ S0_) : sm_T (mt_P sc_) 3 327 (0, [some (.inr (.inr (some (13, 0)))), none, none], [], S0_) (fun r_ => ∃ u_ S1_, r_ = (.inl u_, S1_, 0) ∧ vq_327 b_ n_ T_ mo_ p_ i_ gl_ K_ f_ S0_ u_ S1_) := by
  have hF_ : ai_fr (sx_W vw_327) S0_ S0_ := ai_fr_rf
  have hx_ : rg b_ n_ T_ (.inr p_) S0_ := ⟨hf_, i_, hi_.1, hi_.2⟩
  have hi9_ := hi_.2.1
  have hT_ := ht_.2.1
  have ra_ := rp_at ht_ hi_.2
  have rk_ := r_st_3 (lx_kd_r hi_.2.2.2.1)
  have e4_ : (S0_.1 13 0 9).toNat = i_ := by omega
  have so4_ : S0_.2.2.1 119 0 (S0_.1 13 0 9).toNat = r_st (lx_kd b_ n_ p_) := by rw [e4_]; exact ra_.1
  have bx1_ : 0 ≤ S0_.1 13 0 9 ∧ S0_.1 13 0 9 ≤ 1280 := hI_.1 13 0 9 rfl
  refine sm_T_go 4 (c1 := (8, [some (.inr (.inr (some (13, 0)))), none, none], [.inl (S0_.1 13 0 9), .inr (.inr (some (119, 0)))], S0_)) rfl ?_
  refine sm_T_bald (n := 65537) rfl rfl (by omega) (by omega) ?_
  have bx2_ : (-128) ≤ S0_.2.2.1 119 0 (S0_.1 13 0 9).toNat ∧ S0_.2.2.1 119 0 (S0_.1 13 0 9).toNat ≤ 127 := hI_.2 119 0 _
  refine sm_T_go 1 (c1 := (10, [some (.inr (.inr (some (13, 0)))), none, none], [.inl 1, .inl (S0_.2.2.1 119 0 (S0_.1 13 0 9).toNat)], S0_)) rfl ?_
  refine sm_T_br (a := 0) (z := 13) rfl (fun cx3_ => ?_) (fun cx3_ => ?_)
  · have cx3_ : (S0_.2.2.1 119 0 (S0_.1 13 0 9).toNat) = 1 := of_decide_eq_true cx3_
    refine sm_T_go 4 (c1 := (27, [some (.inr (.inr (some (13, 0)))), some (.inl (-1)), some (.inl 0)], [], S0_)) rfl ?_
    refine (vl_327 b_ n_ T_ mo_ p_ i_ gl_ K_ f_ S0_ ht_ hf_ hi_ hv_ hmo_ hw_ hr_ _) (-1) 0 S0_ hI_ hF_ ⟨?_, ?_, ?_, ?_, trivial⟩ (Nat.lt_succ_self _)
    · (have := hr_.2.1); omega
    · rfl
    · exact rk_.2.1.mp (by omega)
    · rfl
  · have cx3_ : ¬ ((S0_.2.2.1 119 0 (S0_.1 13 0 9).toNat) = 1) := of_decide_eq_false cx3_
    refine sm_T_go 4 (c1 := (19, [some (.inr (.inr (some (13, 0)))), none, none], [.inl (S0_.1 13 0 9), .inl 2, .inr (.inr (some (13, 0)))], S0_)) rfl ?_
    refine sm_T_cal (d1 := 0) (Q1 := vq_293 2 (S0_.1 13 0 9) S0_) rfl rfl (by decide) (vc_293 2 (S0_.1 13 0 9) S0_ hI_ (by decide) (by omega)) (fun u_ Sx4_ px7_ => ?_)
    obtain ⟨rfl, hIx5_, hFx6_, px7_⟩ := px7_
    have hFx8_ : ai_fr (sx_W vw_327) S0_ Sx4_ := ai_fr_tr hF_ (fr_le hFx6_ rfl)
    have ex9_ : Sx4_.1 13 0 9 = S0_.1 13 0 9 := hFx6_.1 13 0 9 rfl
    have e19_ := px7_
    refine sm_T_rv rfl ⟨_, _, rfl, rfl, hIx5_, hFx8_, ?_⟩
    have hp_ : p_pl b_ n_ K_ f_ p_ = .inl (2, p_) := if_neg (fun z_ => by have := rk_.2.1.mpr z_; omega)
    refine ⟨?_, fun r_ hr_ => by rw [hp_] at hr_; cases hr_⟩
    rw [hp_]
    rcases e19_ with z_ | z_
    · exact absurd hf_ z_.1
    · refine ⟨z_.2.1.trans (if_neg ?_), ?_, by show (2 : Int) ≠ 0; decide⟩
      · rw [e4_, ra_.1]; exact rk_.2.2.2.2.2
      · rw [z_.2.2, e4_]; exact ra_.2.1
end
/-! 99.yea -/
section
/-! the reference: operands; written by wip/p55/gen/vg -/

/-! operands -/
theorem wl_op {b_ : Nat → Int} {n_ T_ i_ p_ : Nat} {t_ : Bool} {o_ : List (Int × Nat)} {w_ : List (Int × Int)} (h_ : wt b_ n_ T_ t_ o_ w_) (hp_ : rtp b_ n_ T_ (i_ : Int) p_) : wl b_ n_ T_ ((if t_ = true then -2 else -1, p_) :: o_) ((40, (i_ : Int)) :: w_) := by
  refine ⟨(i_ : Int), w_, ?_, hp_, ?_⟩
  · cases t_ <;> rfl
  · rcases h_ with ⟨h1_, h2_⟩ | ⟨u_, h1_, h2_⟩
    · subst h1_
      exact Or.inl ⟨by decide, h2_⟩
    · right
      refine ⟨by cases t_ <;> decide, u_, ?_, h2_⟩
      rw [h1_]
      cases t_ <;> rfl
theorem ws_top {z_ : Int} {y_ : Int × Int} {u_ : List (Int × Int)} {k_ : Nat} {S_ : sm_S} (h_ : ws (y_ :: u_) S_) (hk_ : k_ = u_.length) : ws ((y_.1, z_) :: u_) (sm_aI S_ 137 0 k_ z_) := by
  refine ⟨h_.1, ?_, ?_⟩
  · exact stk_ot h_.2.1 (by decide)
  · exact stk_pu (by rw [List.length_map]; exact hk_) rfl h_.2.2.2
theorem rp_rtp {b_ : Nat → Int} {n_ T_ i_ p_ : Nat} {S_ : sm_S} (ht_ : rtab b_ n_ T_ S_) (h_ : rp b_ n_ T_ i_ p_) (hk_ : lx_kd b_ n_ p_ ≠ 0) : rtp b_ n_ T_ (i_ : Int) p_ := by
  have h1_ := rp_at ht_ h_
  have h2_ : p_ < n_ := by
    by_cases g_ : p_ < n_
    · exact g_
    · exfalso
      apply hk_
      rw [show p_ = n_ by have := h1_.2.2.2.1; omega]
      exact lx_kd_n
  exact ⟨i_, rfl, h1_.2.2.2.2.1.mpr h2_, h_.2.1, h2_⟩
def r_en (b_ : Nat → Int) (n_ T_ : Nat) (mo_ : Int) (A_ : pA) (M_ K_ : Nat) (f_ : Nat → Nat) (S_ : sm_S) : Prop := (mo_ = 0 → a_ok b_ n_ A_ M_ ∧ S_.1 13 0 28 = (M_ : Int) ∧ ∀ m_, m_ ≤ M_ → re1 b_ n_ T_ A_ m_ S_) ∧ (mo_ = 2 → inr_ b_ n_ T_ K_ f_ S_)
theorem vs_137 {mo_ z_ : Int} {k_ : Nat} {g_ : List Int} {S_ : sm_S} (h_ : vs mo_ g_ S_) : vs mo_ g_ (sm_aI S_ 137 0 k_ z_) := ⟨h_.1, fun q_ => stk_ot (h_.2.1 q_) (by decide), fun q_ => stk_8o (h_.2.2 q_) (by decide)⟩
theorem vs_pu {mo_ x_ : Int} {g_ : List Int} {S'_ : sm_S} (h0_ : S'_.1 13 0 34 = (g_.length : Int) + 1) (h1_ : mo_ ≠ 2 → stk (S'_.2.2.1 138 0) (x_ :: g_)) (h2_ : mo_ = 2 → stk (fun j_ => S'_.2.2.1 139 0 (8 * j_)) (x_ :: g_)) : vs mo_ (x_ :: g_) S'_ := ⟨by rw [h0_, List.length_cons]; push_cast; rfl, h1_, h2_⟩
theorem x1_b : i_xor 1 1 = 0 ∧ i_xor 0 1 = 1 := by decide +kernel
end
/-! 99.yeb -/
section
/-! M_.operand -/
def vw_319 : sx_Wl := ([(13, 9), (13, 10), (13, 11), (13, 32), (13, 33), (13, 34)], [136, 137, 138, 139], [])
def vq_319 (b_ : Nat → Int) (n_ : Nat) (T_ : Nat) (mo_ : Int) (t_ : Bool) (p_ : Nat) (o_ : List (Int × Nat)) (g_ : List Int) (c_ : List Int) (A_ : pA) (M_ : Nat) (K_ : Nat) (f_ : Nat → Nat) (S0_ : sm_S) (u_ : Option sm_V) (S1_ : sm_S) : Prop := ∃ v_ : Int, u_ = some (.inl v_) ∧ gi S1_ ∧ ai_fr (sx_W vw_319) S0_ S1_ ∧ ((∀ e_, p_st b_ n_ (mdo mo_) (p_pm b_ n_ (mdo mo_) A_ M_ K_ f_) (0, t_, p_, o_, g_, c_) = .inl e_ → rwr mo_ e_ S1_) ∧ ∀ y_, p_st b_ n_ (mdo mo_) (p_pm b_ n_ (mdo mo_) A_ M_ K_ f_) (0, t_, p_, o_, g_, c_) = .inr (.inl y_) → rx b_ n_ T_ mo_ y_.2.1 y_.1 y_.2.2.1 y_.2.2.2.1 y_.2.2.2.2.1 S1_ ∧ v_ = (y_.1 : Int))
set_option maxHeartbeats 3000000 in
theorem vc_319 {sc_ : Nat × (Nat → Int)} (b_ : Nat → Int) (n_ : Nat) (T_ : Nat) (mo_ : Int) (t_ : Bool) (p_ : Nat) (o_ : List (Int × Nat)) (g_ : List Int) (c_ : List Int) (A_ : pA) (M_ : Nat) (K_ : Nat) (f_ : Nat → Nat) (S0_ : sm_S) (hI_ : gi S0_) (ht_ : rtab b_ n_ T_ S0_) (hx_ : rx b_ n_ T_ mo_ t_ 0 p_ o_ g_ S0_) (hok_ : x_ok b_ n_ (mdo mo_) (0, t_, p_, o_, g_, c_)) (hmo_ : mo_ = 0 ∨ mo_ = 2) (hen_ : r_en b_ n_ T_ mo_ A_ M_ K_ f_ S0_) (hprk : pr_ok b_ n_ (p_pm b_ n_ (mdo mo_) A_ M_ K_ f_)) : sm_T (mt_P sc_) 6 319 (0, [some (.inr (.inr (some (13, 0))))], [], S0_) (fun r_ => ∃ u_ S1_, r_ = (.inl u_, S1_, 0) ∧ vq_319 b_ n_ T_ mo_ t_ p_ o_ g_ c_ A_ M_ K_ f_ S0_ u_ S1_) := by
  have hF_ : ai_fr (sx_W vw_319) S0_ S0_ := ai_fr_rf
  obtain ⟨hg_, ⟨w0_, hw_, hwt_⟩, hop_, hv_, hmo1_⟩ := id hx_
  have hwt_ : wt b_ n_ T_ t_ o_ w0_ := by rcases hwt_ with z_ | z_; (exact z_.2); (exact absurd z_.1 (by decide))
  obtain ⟨i_, hi1_, hi2_⟩ := id hg_.2
  have hf_ := hg_.1
  have hT_ := ht_.2.1
  have hi9_ := hi2_.1
  have ra_ := rp_at ht_ hi2_
  have rk_ := r_st_3 (lx_kd_r hi2_.2.2.1)
  have e4_ : (S0_.1 13 0 9).toNat = i_ := by omega
  have so4_ : S0_.2.2.1 119 0 (S0_.1 13 0 9).toNat = r_st (lx_kd b_ n_ p_) := by rw [e4_]; exact ra_.1
  have pl4_ : S0_.2.2.1 120 0 (S0_.1 13 0 9).toNat = (p_ : Int) := by rw [e4_]; exact ra_.2.1
  have lim_ := o_lim hok_.2.1.1 hok_.2.1.2.1
  have lim1_ : o_.length ≤ 365 := lim_.1
  have wlen : w0_.length ≤ 731 := by rcases hwt_ with z_ | ⟨u_, z1_, z2_⟩; (have := wl_len z_.2; omega); (have := wl_len z2_; rw [z1_, List.length_cons]; omega)
  have hww_ := hw_.1
  have tp_ := wt_tp hwt_ hok_.2.1.1
  have gl1_ : g_.length = o_hl o_ + 0 := hok_.2.1.2.2.1
  have gl2_ : o_hl o_ ≤ 425 := lim_.2
  have hn1_ := ht_.1
  refine sm_T_go 2 (c1 := (3, [some (.inr (.inr (some (13, 0))))], [.inl 33, .inr (.inr (some (13, 0)))], S0_)) rfl ?_
  refine sm_T_cal (d1 := 0) (Q1 := vq_295 33 b_ n_ T_ (.inr p_) S0_) rfl rfl (by decide) (vc_295 33 b_ n_ T_ (.inr p_) S0_ hI_ (by exact ht_) (by exact hg_) (by decide)) (fun u_ Sx1_ px4_ => ?_)
  obtain ⟨rfl, vx6_, rfl, px4_⟩ := px4_
  have e3_ := px4_.2 p_ rfl
  have r3_ := px4_.1.1
  refine sm_T_b0 (a := 0) (z := 43) rfl (fun cx7_ => ?_) (fun cx7_ => ?_)
  · have cx7_ : vx6_ = 0 := of_decide_eq_true cx7_
    refine sm_T_go 2 (c1 := (52, [some (.inr (.inr (some (13, 0))))], [.inl 40, .inr (.inr (some (13, 0)))], S0_)) rfl ?_
    refine sm_T_cal (d1 := 0) (Q1 := vq_295 40 b_ n_ T_ (.inr p_) S0_) rfl rfl (by decide) (vc_295 40 b_ n_ T_ (.inr p_) S0_ hI_ (by exact ht_) (by exact hg_) (by decide)) (fun u_ Sx8_ px11_ => ?_)
    obtain ⟨rfl, vx13_, rfl, px11_⟩ := px11_
    have e52_ := px11_.2 p_ rfl
    have r52_ := px11_.1.1
    have n33_ : lx_kd b_ n_ p_ ≠ 33 := fun z_ => by have := e3_.mpr z_; omega
    refine sm_T_b0 (a := 0) (z := 11) rfl (fun cx14_ => ?_) (fun cx14_ => ?_)
    · have cx14_ : vx13_ = 0 := of_decide_eq_true cx14_
      have n40_ : lx_kd b_ n_ p_ ≠ 40 := fun z_ => by have := e52_.mpr z_; omega
      have bx15_ : 0 ≤ S0_.1 13 0 27 ∧ S0_.1 13 0 27 ≤ 2 := hI_.1 13 0 27 rfl
      refine sm_T_go 3 (c1 := (71, [some (.inr (.inr (some (13, 0))))], [.inl 2, .inl (S0_.1 13 0 27)], S0_)) rfl ?_
      refine sm_T_br (a := 1) (z := 10) rfl (fun cx16_ => ?_) (fun cx16_ => ?_)
      · have cx16_ : (S0_.1 13 0 27) ≠ 2 := of_decide_eq_true cx16_
        have bx17_ : 0 ≤ S0_.1 13 0 9 ∧ S0_.1 13 0 9 ≤ 1280 := hI_.1 13 0 9 rfl
        refine sm_T_go 4 (c1 := (89, [some (.inr (.inr (some (13, 0))))], [.inl (S0_.1 13 0 9), .inr (.inr (some (119, 0)))], S0_)) rfl ?_
        refine sm_T_bald (n := 65537) rfl rfl (by omega) (by omega) ?_
        have bx18_ : (-128) ≤ S0_.2.2.1 119 0 (S0_.1 13 0 9).toNat ∧ S0_.2.2.1 119 0 (S0_.1 13 0 9).toNat ≤ 127 := hI_.2 119 0 _
        refine sm_T_go 1 (c1 := (91, [some (.inr (.inr (some (13, 0))))], [.inl 2, .inl (S0_.2.2.1 119 0 (S0_.1 13 0 9).toNat)], S0_)) rfl ?_
        refine sm_T_br (a := 1) (z := 10) rfl (fun cx19_ => ?_) (fun cx19_ => ?_)
        · have cx19_ : (S0_.2.2.1 119 0 (S0_.1 13 0 9).toNat) ≠ 2 := of_decide_eq_true cx19_
          refine sm_T_go 4 (c1 := (109, [some (.inr (.inr (some (13, 0))))], [.inl (S0_.1 13 0 9), .inr (.inr (some (119, 0)))], S0_)) rfl ?_
          refine sm_T_bald (n := 65537) rfl rfl (by omega) (by omega) ?_
          refine sm_T_go 1 (c1 := (111, [some (.inr (.inr (some (13, 0))))], [.inl 1, .inl (S0_.2.2.1 119 0 (S0_.1 13 0 9).toNat)], S0_)) rfl ?_
          refine sm_T_br (a := 1) (z := 10) rfl (fun cx20_ => ?_) (fun cx20_ => ?_)
          · have cx20_ : (S0_.2.2.1 119 0 (S0_.1 13 0 9).toNat) ≠ 1 := of_decide_eq_true cx20_
            refine sm_T_go 4 (c1 := (127, [some (.inr (.inr (some (13, 0))))], [.inl (S0_.1 13 0 9), .inl 2, .inr (.inr (some (13, 0)))], S0_)) rfl ?_
            refine sm_T_cal (d1 := 0) (Q1 := vq_293 2 (S0_.1 13 0 9) S0_) rfl rfl (by decide) (vc_293 2 (S0_.1 13 0 9) S0_ hI_ (by decide) (by omega)) (fun u_ Sx21_ px24_ => ?_)
            obtain ⟨rfl, hIx22_, hFx23_, px24_⟩ := px24_
            have hFx25_ : ai_fr (sx_W vw_319) S0_ Sx21_ := ai_fr_tr hF_ (fr_le hFx23_ rfl)
            have ex26_ : Sx21_.1 13 0 27 = S0_.1 13 0 27 := hFx23_.1 13 0 27 rfl
            have ex27_ : Sx21_.1 13 0 9 = S0_.1 13 0 9 := hFx23_.1 13 0 9 rfl
            have m2_ : mo_ ≠ 2 := by omega
            have pe_ : (p_pm b_ n_ (mdo mo_) A_ M_ K_ f_) p_ = .inl (2, p_) := by unfold p_pm mdo; rw [if_neg (by rw [decide_eq_false m2_]; decide)]; unfold p_pd; rw [if_neg (fun z_ => by have := rk_.2.2.1.mpr z_; omega), if_neg (fun z_ => by have := rk_.2.1.mpr z_; omega)]
            have gq_ : rg b_ n_ T_ (pb ((p_pm b_ n_ (mdo mo_) A_ M_ K_ f_) p_) fun r_ => .inr r_.1) Sx21_ := by rw [pe_]; rcases px24_ with z_ | z_; (exact absurd hf_ z_.1); (exact ⟨z_.2.1.trans (if_neg (by rw [so4_]; exact rk_.2.2.2.2.2)), z_.2.2.trans pl4_, by show (2 : Int) ≠ 0; decide⟩)
            have ws9_ := ws_fr hw_ hFx23_ rfl rfl rfl
            have op9_ := (hFx23_.1 13 0 33 rfl).trans hop_
            have vl9_ := (hFx23_.1 13 0 34 rfl).trans hv_.1
            have wt9_ : Sx21_.1 13 0 32 ≤ 800 := by rw [hFx23_.1 13 0 32 rfl, hww_]; omega
            have mo9_ := (hFx23_.1 13 0 27 rfl).trans hmo1_
            have vq_ : ∀ r_, (p_pm b_ n_ (mdo mo_) A_ M_ K_ f_) p_ = .inr r_ → (mo_ ≠ 2 → stk (Sx21_.2.2.1 138 0) (r_.2.1 :: g_)) ∧ (mo_ = 2 → stk (fun j_ => Sx21_.2.2.1 139 0 (8 * j_)) (r_.2.1 :: g_)) := fun r_ hr_ => by rw [pe_] at hr_; cases hr_
            refine sm_T_go 1 (c1 := (131, [some (.inr (.inr (some (13, 0))))], [.inr (.inr (some (13, 0)))], Sx21_)) rfl ?_
            refine sm_T_cal (d1 := 0) (Q1 := vq_292  Sx21_) rfl rfl (by decide) (vc_292  Sx21_ hIx22_ ) (fun u_ Sx28_ px31_ => ?_)
            obtain ⟨rfl, vx33_, rfl, px31_⟩ := px31_
            have e131_ := px31_
            refine sm_T_b0 (a := 0) (z := 17) rfl (fun cx34_ => ?_) (fun cx34_ => ?_)
            · have cx34_ : vx33_ = 0 := of_decide_eq_true cx34_
              have hz_ := wr_if e131_ (by omega)
              refine sm_T_go 1 (c1 := (152, [some (.inr (.inr (some (13, 0))))], [.inr (.inr (some (13, 0)))], Sx21_)) rfl ?_
              refine sm_T_cal (d1 := 0) (Q1 := vq_292  Sx21_) rfl rfl (by decide) (vc_292  Sx21_ hIx22_ ) (fun u_ Sx35_ px38_ => ?_)
              obtain ⟨rfl, vx40_, rfl, px38_⟩ := px38_
              have e152_ := px38_
              refine sm_T_rz rfl (by (rw [e152_]; split; (right; rfl); (left; rfl))) ⟨_, _, rfl, _, rfl, hIx22_, hFx25_, ?_⟩
              first | (refine ⟨fun e_ he_ => ?_, fun y_ hy_ => ?_⟩; (rw [pA_p n33_ n40_, hpr_] at he_; cases he_); (rw [pA_p n33_ n40_, hpr_] at hy_; cases hy_; exact ⟨⟨g148_, ⟨w1_, ws148_, Or.inr ⟨rfl, wl148_⟩⟩, op148_, v148_, mo148_⟩, by rw [e152_, if_pos g148_.1]; rfl⟩)) | (cases hq_ : (p_pm b_ n_ (mdo mo_) A_ M_ K_ f_) p_ with | inr r_ => (exfalso; rw [hq_] at gq_; exact hz_ gq_.1) | inl e2_ => (rw [hq_] at gq_; refine ⟨fun e_ he_ => ?_, fun y_ hy_ => ?_⟩; (rw [pA_p n33_ n40_, hq_] at he_; cases he_; exact ⟨gq_.1, gq_.2.1, gq_.2.2, wt9_, mo9_⟩); (rw [pA_p n33_ n40_, hq_] at hy_; cases hy_)))
            · have cx34_ : ¬ (vx33_ = 0) := of_decide_eq_false cx34_
              have hz_ := rt_if e131_ (by omega)
              obtain ⟨r_, hpr_⟩ : ∃ r_, (p_pm b_ n_ (mdo mo_) A_ M_ K_ f_) p_ = .inr r_ := by cases hq_ : (p_pm b_ n_ (mdo mo_) A_ M_ K_ f_) p_ with | inl e_ => (exfalso; rw [hq_] at gq_; exact gq_.2.2 (gq_.1.symm.trans hz_)) | inr r_ => exact ⟨r_, rfl⟩
              rw [hpr_] at gq_
              have rb := hprk p_ r_ hok_.2.2.1 hok_.2.2.2.1 hpr_
              have bx41_ : 0 ≤ Sx21_.1 13 0 34 ∧ Sx21_.1 13 0 34 ≤ 1023 := hIx22_.1 13 0 34 rfl
              refine sm_T_go 4 (c1 := (143, [some (.inr (.inr (some (13, 0))))], [.inl 1, .inl (Sx21_.1 13 0 34), .inr (.inr (some (13, 0)))], Sx21_)) rfl ?_
              refine sm_T_bin (w := (Sx21_.1 13 0 34) + 1) rfl (bi_add (by omega) (by omega) (by omega)) ?_
              have hIx42_ : gi (sm_pI Sx21_ 13 0 34 ((Sx21_.1 13 0 34) + 1)) := gi_pI hIx22_ (show 0 ≤ (Sx21_.1 13 0 34) + 1 ∧ (Sx21_.1 13 0 34) + 1 ≤ 1023 from ⟨by omega, by omega⟩)
              have hFx43_ : ai_fr (sx_W vw_319) S0_ (sm_pI Sx21_ 13 0 34 ((Sx21_.1 13 0 34) + 1)) := ai_fr_tr hFx25_ (ai_fr_pI rfl)
              refine sm_T_go 2 (c1 := (148, [some (.inr (.inr (some (13, 0))))], [.inr (.inr (some (13, 0)))], sm_pI Sx21_ 13 0 34 ((Sx21_.1 13 0 34) + 1))) rfl ?_
              refine sm_T_cal (d1 := 1) (Q1 := vq_317 b_ n_ T_ mo_ t_ o_ r_.2.1 g_ (r_.2.2 ++ c_) w0_ (sm_pI Sx21_ 13 0 34 ((Sx21_.1 13 0 34) + 1))) rfl rfl (by decide) (vc_317 b_ n_ T_ mo_ t_ o_ r_.2.1 g_ (r_.2.2 ++ c_) w0_ (sm_pI Sx21_ 13 0 34 ((Sx21_.1 13 0 34) + 1)) hIx42_ (by exact ws9_) (by exact hwt_) (by exact hok_.2.1.1) (by exact vs_pu (by show _ + 1 = _; omega) (vq_ r_ hpr_).1 (vq_ r_ hpr_).2) (by exact mo9_) (by omega) (by exact rb.2.2.2.1)) (fun u_ Sx44_ px47_ => ?_)
              obtain ⟨rfl, hIx45_, hFx46_, px47_⟩ := px47_
              have hFx48_ : ai_fr (sx_W vw_319) S0_ Sx44_ := ai_fr_tr hFx43_ (fr_le hFx46_ rfl)
              obtain ⟨w1_, ws148_, wl148_, v148_⟩ := px47_
              have g148_ := rg_fr (b_ := b_) (n_ := n_) (T_ := T_) (x_ := .inr r_.1) (S_ := (sm_pI Sx21_ 13 0 34 ((Sx21_.1 13 0 34) + 1))) gq_ hFx46_ rfl rfl rfl
              have op148_ := (hFx46_.1 13 0 33 rfl).trans op9_
              have mo148_ := (hFx46_.1 13 0 27 rfl).trans mo9_
              refine sm_T_go 1 (c1 := (152, [some (.inr (.inr (some (13, 0))))], [.inr (.inr (some (13, 0)))], Sx44_)) rfl ?_
              refine sm_T_cal (d1 := 0) (Q1 := vq_292  Sx44_) rfl rfl (by decide) (vc_292  Sx44_ hIx45_ ) (fun u_ Sx49_ px52_ => ?_)
              obtain ⟨rfl, vx54_, rfl, px52_⟩ := px52_
              have e152_ := px52_
              refine sm_T_rz rfl (by (rw [e152_]; split; (right; rfl); (left; rfl))) ⟨_, _, rfl, _, rfl, hIx45_, hFx48_, ?_⟩
              first | (refine ⟨fun e_ he_ => ?_, fun y_ hy_ => ?_⟩; (rw [pA_p n33_ n40_, hpr_] at he_; cases he_); (rw [pA_p n33_ n40_, hpr_] at hy_; cases hy_; exact ⟨⟨g148_, ⟨w1_, ws148_, Or.inr ⟨rfl, wl148_⟩⟩, op148_, v148_, mo148_⟩, by rw [e152_, if_pos g148_.1]; rfl⟩)) | (cases hq_ : (p_pm b_ n_ (mdo mo_) A_ M_ K_ f_) p_ with | inr r_ => (exfalso; rw [hq_] at gq_; exact hz_ gq_.1) | inl e2_ => (rw [hq_] at gq_; refine ⟨fun e_ he_ => ?_, fun y_ hy_ => ?_⟩; (rw [pA_p n33_ n40_, hq_] at he_; cases he_; exact ⟨gq_.1, gq_.2.1, gq_.2.2, wt9_, mo9_⟩); (rw [pA_p n33_ n40_, hq_] at hy_; cases hy_)))
          · have cx20_ : ¬ ((S0_.2.2.1 119 0 (S0_.1 13 0 9).toNat) ≠ 1) := of_decide_eq_false cx20_
            refine sm_T_go 1 (c1 := (115, [some (.inr (.inr (some (13, 0))))], [.inr (.inr (some (13, 0)))], S0_)) rfl ?_
            refine sm_T_cal (d1 := 5) (Q1 := vq_324 b_ n_ T_ mo_ p_ i_ g_.length A_ M_ S0_) rfl rfl (by decide) (vc_324 b_ n_ T_ mo_ p_ i_ g_.length A_ M_ S0_ hI_ (by exact ht_) (by exact hf_) (by exact ⟨hi1_, hi2_⟩) (by exact ⟨hv_.1, by omega⟩) (by exact hmo1_) (by omega) (by exact (hen_.1 (by omega)).1) (by exact (hen_.1 (by omega)).2.1) (by exact (hen_.1 (by omega)).2.2) (by exact rk_.2.1.mp (by omega)) (by omega)) (fun u_ Sx55_ px58_ => ?_)
            obtain ⟨rfl, hIx56_, hFx57_, px58_⟩ := px58_
            have hFx59_ : ai_fr (sx_W vw_319) S0_ Sx55_ := ai_fr_tr hF_ (fr_le hFx57_ rfl)
            have ex60_ : Sx55_.1 13 0 27 = S0_.1 13 0 27 := hFx57_.1 13 0 27 rfl
            have m2_ : mo_ ≠ 2 := by omega
            have kk_ : lx_kd b_ n_ p_ = 1 := rk_.2.1.mp (by omega)
            have pe_ : (p_pm b_ n_ (mdo mo_) A_ M_ K_ f_) p_ = p_na b_ n_ A_ M_ p_ := by unfold p_pm mdo; rw [if_neg (by rw [decide_eq_false m2_]; decide)]; unfold p_pd; rw [if_neg (by omega), if_pos kk_]
            have gq_ : rg b_ n_ T_ (pb ((p_pm b_ n_ (mdo mo_) A_ M_ K_ f_) p_) fun r_ => .inr r_.1) Sx55_ := by rw [pe_]; exact px58_.1
            have ws9_ := ws_fr hw_ hFx57_ rfl rfl rfl
            have op9_ := (hFx57_.1 13 0 33 rfl).trans hop_
            have vl9_ := (hFx57_.1 13 0 34 rfl).trans hv_.1
            have wt9_ : Sx55_.1 13 0 32 ≤ 800 := by rw [hFx57_.1 13 0 32 rfl, hww_]; omega
            have mo9_ := (hFx57_.1 13 0 27 rfl).trans hmo1_
            have vq_ : ∀ r_, (p_pm b_ n_ (mdo mo_) A_ M_ K_ f_) p_ = .inr r_ → (mo_ ≠ 2 → stk (Sx55_.2.2.1 138 0) (r_.2.1 :: g_)) ∧ (mo_ = 2 → stk (fun j_ => Sx55_.2.2.1 139 0 (8 * j_)) (r_.2.1 :: g_)) := fun r_ hr_ => ⟨fun _ => px58_.2 r_ (pe_.symm.trans hr_) g_ rfl (hv_.2.1 m2_), fun z_ => absurd z_ m2_⟩
            refine sm_T_go 2 (c1 := (131, [some (.inr (.inr (some (13, 0))))], [.inr (.inr (some (13, 0)))], Sx55_)) rfl ?_
            refine sm_T_cal (d1 := 0) (Q1 := vq_292  Sx55_) rfl rfl (by decide) (vc_292  Sx55_ hIx56_ ) (fun u_ Sx61_ px64_ => ?_)
            obtain ⟨rfl, vx66_, rfl, px64_⟩ := px64_
            have e131_ := px64_
            refine sm_T_b0 (a := 0) (z := 17) rfl (fun cx67_ => ?_) (fun cx67_ => ?_)
            · have cx67_ : vx66_ = 0 := of_decide_eq_true cx67_
              have hz_ := wr_if e131_ (by omega)
              refine sm_T_go 1 (c1 := (152, [some (.inr (.inr (some (13, 0))))], [.inr (.inr (some (13, 0)))], Sx55_)) rfl ?_
              refine sm_T_cal (d1 := 0) (Q1 := vq_292  Sx55_) rfl rfl (by decide) (vc_292  Sx55_ hIx56_ ) (fun u_ Sx68_ px71_ => ?_)
              obtain ⟨rfl, vx73_, rfl, px71_⟩ := px71_
              have e152_ := px71_
              refine sm_T_rz rfl (by (rw [e152_]; split; (right; rfl); (left; rfl))) ⟨_, _, rfl, _, rfl, hIx56_, hFx59_, ?_⟩
              first | (refine ⟨fun e_ he_ => ?_, fun y_ hy_ => ?_⟩; (rw [pA_p n33_ n40_, hpr_] at he_; cases he_); (rw [pA_p n33_ n40_, hpr_] at hy_; cases hy_; exact ⟨⟨g148_, ⟨w1_, ws148_, Or.inr ⟨rfl, wl148_⟩⟩, op148_, v148_, mo148_⟩, by rw [e152_, if_pos g148_.1]; rfl⟩)) | (cases hq_ : (p_pm b_ n_ (mdo mo_) A_ M_ K_ f_) p_ with | inr r_ => (exfalso; rw [hq_] at gq_; exact hz_ gq_.1) | inl e2_ => (rw [hq_] at gq_; refine ⟨fun e_ he_ => ?_, fun y_ hy_ => ?_⟩; (rw [pA_p n33_ n40_, hq_] at he_; cases he_; exact ⟨gq_.1, gq_.2.1, gq_.2.2, wt9_, mo9_⟩); (rw [pA_p n33_ n40_, hq_] at hy_; cases hy_)))
            · have cx67_ : ¬ (vx66_ = 0) := of_decide_eq_false cx67_
              have hz_ := rt_if e131_ (by omega)
              obtain ⟨r_, hpr_⟩ : ∃ r_, (p_pm b_ n_ (mdo mo_) A_ M_ K_ f_) p_ = .inr r_ := by cases hq_ : (p_pm b_ n_ (mdo mo_) A_ M_ K_ f_) p_ with | inl e_ => (exfalso; rw [hq_] at gq_; exact gq_.2.2 (gq_.1.symm.trans hz_)) | inr r_ => exact ⟨r_, rfl⟩
              rw [hpr_] at gq_
              have rb := hprk p_ r_ hok_.2.2.1 hok_.2.2.2.1 hpr_
              have bx74_ : 0 ≤ Sx55_.1 13 0 34 ∧ Sx55_.1 13 0 34 ≤ 1023 := hIx56_.1 13 0 34 rfl
              refine sm_T_go 4 (c1 := (143, [some (.inr (.inr (some (13, 0))))], [.inl 1, .inl (Sx55_.1 13 0 34), .inr (.inr (some (13, 0)))], Sx55_)) rfl ?_
              refine sm_T_bin (w := (Sx55_.1 13 0 34) + 1) rfl (bi_add (by omega) (by omega) (by omega)) ?_
              have hIx75_ : gi (sm_pI Sx55_ 13 0 34 ((Sx55_.1 13 0 34) + 1)) := gi_pI hIx56_ (show 0 ≤ (Sx55_.1 13 0 34) + 1 ∧ (Sx55_.1 13 0 34) + 1 ≤ 1023 from ⟨by omega, by omega⟩)
              have hFx76_ : ai_fr (sx_W vw_319) S0_ (sm_pI Sx55_ 13 0 34 ((Sx55_.1 13 0 34) + 1)) := ai_fr_tr hFx59_ (ai_fr_pI rfl)
              refine sm_T_go 2 (c1 := (148, [some (.inr (.inr (some (13, 0))))], [.inr (.inr (some (13, 0)))], sm_pI Sx55_ 13 0 34 ((Sx55_.1 13 0 34) + 1))) rfl ?_
              refine sm_T_cal (d1 := 1) (Q1 := vq_317 b_ n_ T_ mo_ t_ o_ r_.2.1 g_ (r_.2.2 ++ c_) w0_ (sm_pI Sx55_ 13 0 34 ((Sx55_.1 13 0 34) + 1))) rfl rfl (by decide) (vc_317 b_ n_ T_ mo_ t_ o_ r_.2.1 g_ (r_.2.2 ++ c_) w0_ (sm_pI Sx55_ 13 0 34 ((Sx55_.1 13 0 34) + 1)) hIx75_ (by exact ws9_) (by exact hwt_) (by exact hok_.2.1.1) (by exact vs_pu (by show _ + 1 = _; omega) (vq_ r_ hpr_).1 (vq_ r_ hpr_).2) (by exact mo9_) (by omega) (by exact rb.2.2.2.1)) (fun u_ Sx77_ px80_ => ?_)
              obtain ⟨rfl, hIx78_, hFx79_, px80_⟩ := px80_
              have hFx81_ : ai_fr (sx_W vw_319) S0_ Sx77_ := ai_fr_tr hFx76_ (fr_le hFx79_ rfl)
              obtain ⟨w1_, ws148_, wl148_, v148_⟩ := px80_
              have g148_ := rg_fr (b_ := b_) (n_ := n_) (T_ := T_) (x_ := .inr r_.1) (S_ := (sm_pI Sx55_ 13 0 34 ((Sx55_.1 13 0 34) + 1))) gq_ hFx79_ rfl rfl rfl
              have op148_ := (hFx79_.1 13 0 33 rfl).trans op9_
              have mo148_ := (hFx79_.1 13 0 27 rfl).trans mo9_
              refine sm_T_go 1 (c1 := (152, [some (.inr (.inr (some (13, 0))))], [.inr (.inr (some (13, 0)))], Sx77_)) rfl ?_
              refine sm_T_cal (d1 := 0) (Q1 := vq_292  Sx77_) rfl rfl (by decide) (vc_292  Sx77_ hIx78_ ) (fun u_ Sx82_ px85_ => ?_)
              obtain ⟨rfl, vx87_, rfl, px85_⟩ := px85_
              have e152_ := px85_
              refine sm_T_rz rfl (by (rw [e152_]; split; (right; rfl); (left; rfl))) ⟨_, _, rfl, _, rfl, hIx78_, hFx81_, ?_⟩
              first | (refine ⟨fun e_ he_ => ?_, fun y_ hy_ => ?_⟩; (rw [pA_p n33_ n40_, hpr_] at he_; cases he_); (rw [pA_p n33_ n40_, hpr_] at hy_; cases hy_; exact ⟨⟨g148_, ⟨w1_, ws148_, Or.inr ⟨rfl, wl148_⟩⟩, op148_, v148_, mo148_⟩, by rw [e152_, if_pos g148_.1]; rfl⟩)) | (cases hq_ : (p_pm b_ n_ (mdo mo_) A_ M_ K_ f_) p_ with | inr r_ => (exfalso; rw [hq_] at gq_; exact hz_ gq_.1) | inl e2_ => (rw [hq_] at gq_; refine ⟨fun e_ he_ => ?_, fun y_ hy_ => ?_⟩; (rw [pA_p n33_ n40_, hq_] at he_; cases he_; exact ⟨gq_.1, gq_.2.1, gq_.2.2, wt9_, mo9_⟩); (rw [pA_p n33_ n40_, hq_] at hy_; cases hy_)))
        · have cx19_ : ¬ ((S0_.2.2.1 119 0 (S0_.1 13 0 9).toNat) ≠ 2) := of_decide_eq_false cx19_
          refine sm_T_go 1 (c1 := (95, [some (.inr (.inr (some (13, 0))))], [.inr (.inr (some (13, 0)))], S0_)) rfl ?_
          refine sm_T_cal (d1 := 4) (Q1 := vq_322 b_ n_ T_ mo_ p_ i_ g_.length S0_) rfl rfl (by decide) (vc_322 b_ n_ T_ mo_ p_ i_ g_.length S0_ hI_ (by exact ht_) (by exact hf_) (by exact ⟨hi1_, hi2_⟩) (by exact ⟨hv_.1, by omega⟩) (by exact hmo1_) (by omega) (by exact rk_.2.2.1.mp (by omega)) (by omega) (by exact lx_vl_0 (rk_.2.2.1.mp (by omega)))) (fun u_ Sx88_ px91_ => ?_)
          obtain ⟨rfl, hIx89_, hFx90_, px91_⟩ := px91_
          have hFx92_ : ai_fr (sx_W vw_319) S0_ Sx88_ := ai_fr_tr hF_ (fr_le hFx90_ rfl)
          have ex93_ : Sx88_.1 13 0 27 = S0_.1 13 0 27 := hFx90_.1 13 0 27 rfl
          have m2_ : mo_ ≠ 2 := by omega
          have kk_ : lx_kd b_ n_ p_ = 2 := rk_.2.2.1.mp (by omega)
          have pe_ : (p_pm b_ n_ (mdo mo_) A_ M_ K_ f_) p_ = p_co b_ n_ p_ := by unfold p_pm mdo; rw [if_neg (by rw [decide_eq_false m2_]; decide)]; unfold p_pd; rw [if_pos kk_]
          have gq_ : rg b_ n_ T_ (pb ((p_pm b_ n_ (mdo mo_) A_ M_ K_ f_) p_) fun r_ => .inr r_.1) Sx88_ := by rw [pe_]; cases hq_ : p_co b_ n_ p_ with | inl e_ => (have z_ := px91_.1 e_ hq_; exact ⟨z_.1, z_.2.1, z_.2.2.1⟩) | inr r_ => exact (px91_.2 r_ hq_).1
          have ws9_ := ws_fr hw_ hFx90_ rfl rfl rfl
          have op9_ := (hFx90_.1 13 0 33 rfl).trans hop_
          have vl9_ := (hFx90_.1 13 0 34 rfl).trans hv_.1
          have wt9_ : Sx88_.1 13 0 32 ≤ 800 := by rw [hFx90_.1 13 0 32 rfl, hww_]; omega
          have mo9_ := (hFx90_.1 13 0 27 rfl).trans hmo1_
          have vq_ : ∀ r_, (p_pm b_ n_ (mdo mo_) A_ M_ K_ f_) p_ = .inr r_ → (mo_ ≠ 2 → stk (Sx88_.2.2.1 138 0) (r_.2.1 :: g_)) ∧ (mo_ = 2 → stk (fun j_ => Sx88_.2.2.1 139 0 (8 * j_)) (r_.2.1 :: g_)) := fun r_ hr_ => ⟨fun _ => (px91_.2 r_ (pe_.symm.trans hr_)).2 g_ rfl (hv_.2.1 m2_), fun z_ => absurd z_ m2_⟩
          refine sm_T_go 2 (c1 := (131, [some (.inr (.inr (some (13, 0))))], [.inr (.inr (some (13, 0)))], Sx88_)) rfl ?_
          refine sm_T_cal (d1 := 0) (Q1 := vq_292  Sx88_) rfl rfl (by decide) (vc_292  Sx88_ hIx89_ ) (fun u_ Sx94_ px97_ => ?_)
          obtain ⟨rfl, vx99_, rfl, px97_⟩ := px97_
          have e131_ := px97_
          refine sm_T_b0 (a := 0) (z := 17) rfl (fun cx100_ => ?_) (fun cx100_ => ?_)
          · have cx100_ : vx99_ = 0 := of_decide_eq_true cx100_
            have hz_ := wr_if e131_ (by omega)
            refine sm_T_go 1 (c1 := (152, [some (.inr (.inr (some (13, 0))))], [.inr (.inr (some (13, 0)))], Sx88_)) rfl ?_
            refine sm_T_cal (d1 := 0) (Q1 := vq_292  Sx88_) rfl rfl (by decide) (vc_292  Sx88_ hIx89_ ) (fun u_ Sx101_ px104_ => ?_)
            obtain ⟨rfl, vx106_, rfl, px104_⟩ := px104_
            have e152_ := px104_
            refine sm_T_rz rfl (by (rw [e152_]; split; (right; rfl); (left; rfl))) ⟨_, _, rfl, _, rfl, hIx89_, hFx92_, ?_⟩
            first | (refine ⟨fun e_ he_ => ?_, fun y_ hy_ => ?_⟩; (rw [pA_p n33_ n40_, hpr_] at he_; cases he_); (rw [pA_p n33_ n40_, hpr_] at hy_; cases hy_; exact ⟨⟨g148_, ⟨w1_, ws148_, Or.inr ⟨rfl, wl148_⟩⟩, op148_, v148_, mo148_⟩, by rw [e152_, if_pos g148_.1]; rfl⟩)) | (cases hq_ : (p_pm b_ n_ (mdo mo_) A_ M_ K_ f_) p_ with | inr r_ => (exfalso; rw [hq_] at gq_; exact hz_ gq_.1) | inl e2_ => (rw [hq_] at gq_; refine ⟨fun e_ he_ => ?_, fun y_ hy_ => ?_⟩; (rw [pA_p n33_ n40_, hq_] at he_; cases he_; exact ⟨gq_.1, gq_.2.1, gq_.2.2, wt9_, mo9_⟩); (rw [pA_p n33_ n40_, hq_] at hy_; cases hy_)))
          · have cx100_ : ¬ (vx99_ = 0) := of_decide_eq_false cx100_
            have hz_ := rt_if e131_ (by omega)
            obtain ⟨r_, hpr_⟩ : ∃ r_, (p_pm b_ n_ (mdo mo_) A_ M_ K_ f_) p_ = .inr r_ := by cases hq_ : (p_pm b_ n_ (mdo mo_) A_ M_ K_ f_) p_ with | inl e_ => (exfalso; rw [hq_] at gq_; exact gq_.2.2 (gq_.1.symm.trans hz_)) | inr r_ => exact ⟨r_, rfl⟩
            rw [hpr_] at gq_
            have rb := hprk p_ r_ hok_.2.2.1 hok_.2.2.2.1 hpr_
            have bx107_ : 0 ≤ Sx88_.1 13 0 34 ∧ Sx88_.1 13 0 34 ≤ 1023 := hIx89_.1 13 0 34 rfl
            refine sm_T_go 4 (c1 := (143, [some (.inr (.inr (some (13, 0))))], [.inl 1, .inl (Sx88_.1 13 0 34), .inr (.inr (some (13, 0)))], Sx88_)) rfl ?_
            refine sm_T_bin (w := (Sx88_.1 13 0 34) + 1) rfl (bi_add (by omega) (by omega) (by omega)) ?_
            have hIx108_ : gi (sm_pI Sx88_ 13 0 34 ((Sx88_.1 13 0 34) + 1)) := gi_pI hIx89_ (show 0 ≤ (Sx88_.1 13 0 34) + 1 ∧ (Sx88_.1 13 0 34) + 1 ≤ 1023 from ⟨by omega, by omega⟩)
            have hFx109_ : ai_fr (sx_W vw_319) S0_ (sm_pI Sx88_ 13 0 34 ((Sx88_.1 13 0 34) + 1)) := ai_fr_tr hFx92_ (ai_fr_pI rfl)
            refine sm_T_go 2 (c1 := (148, [some (.inr (.inr (some (13, 0))))], [.inr (.inr (some (13, 0)))], sm_pI Sx88_ 13 0 34 ((Sx88_.1 13 0 34) + 1))) rfl ?_
            refine sm_T_cal (d1 := 1) (Q1 := vq_317 b_ n_ T_ mo_ t_ o_ r_.2.1 g_ (r_.2.2 ++ c_) w0_ (sm_pI Sx88_ 13 0 34 ((Sx88_.1 13 0 34) + 1))) rfl rfl (by decide) (vc_317 b_ n_ T_ mo_ t_ o_ r_.2.1 g_ (r_.2.2 ++ c_) w0_ (sm_pI Sx88_ 13 0 34 ((Sx88_.1 13 0 34) + 1)) hIx108_ (by exact ws9_) (by exact hwt_) (by exact hok_.2.1.1) (by exact vs_pu (by show _ + 1 = _; omega) (vq_ r_ hpr_).1 (vq_ r_ hpr_).2) (by exact mo9_) (by omega) (by exact rb.2.2.2.1)) (fun u_ Sx110_ px113_ => ?_)
            obtain ⟨rfl, hIx111_, hFx112_, px113_⟩ := px113_
            have hFx114_ : ai_fr (sx_W vw_319) S0_ Sx110_ := ai_fr_tr hFx109_ (fr_le hFx112_ rfl)
            obtain ⟨w1_, ws148_, wl148_, v148_⟩ := px113_
            have g148_ := rg_fr (b_ := b_) (n_ := n_) (T_ := T_) (x_ := .inr r_.1) (S_ := (sm_pI Sx88_ 13 0 34 ((Sx88_.1 13 0 34) + 1))) gq_ hFx112_ rfl rfl rfl
            have op148_ := (hFx112_.1 13 0 33 rfl).trans op9_
            have mo148_ := (hFx112_.1 13 0 27 rfl).trans mo9_
            refine sm_T_go 1 (c1 := (152, [some (.inr (.inr (some (13, 0))))], [.inr (.inr (some (13, 0)))], Sx110_)) rfl ?_
            refine sm_T_cal (d1 := 0) (Q1 := vq_292  Sx110_) rfl rfl (by decide) (vc_292  Sx110_ hIx111_ ) (fun u_ Sx115_ px118_ => ?_)
            obtain ⟨rfl, vx120_, rfl, px118_⟩ := px118_
            have e152_ := px118_
            refine sm_T_rz rfl (by (rw [e152_]; split; (right; rfl); (left; rfl))) ⟨_, _, rfl, _, rfl, hIx111_, hFx114_, ?_⟩
            first | (refine ⟨fun e_ he_ => ?_, fun y_ hy_ => ?_⟩; (rw [pA_p n33_ n40_, hpr_] at he_; cases he_); (rw [pA_p n33_ n40_, hpr_] at hy_; cases hy_; exact ⟨⟨g148_, ⟨w1_, ws148_, Or.inr ⟨rfl, wl148_⟩⟩, op148_, v148_, mo148_⟩, by rw [e152_, if_pos g148_.1]; rfl⟩)) | (cases hq_ : (p_pm b_ n_ (mdo mo_) A_ M_ K_ f_) p_ with | inr r_ => (exfalso; rw [hq_] at gq_; exact hz_ gq_.1) | inl e2_ => (rw [hq_] at gq_; refine ⟨fun e_ he_ => ?_, fun y_ hy_ => ?_⟩; (rw [pA_p n33_ n40_, hq_] at he_; cases he_; exact ⟨gq_.1, gq_.2.1, gq_.2.2, wt9_, mo9_⟩); (rw [pA_p n33_ n40_, hq_] at hy_; cases hy_)))
      · have cx16_ : ¬ ((S0_.1 13 0 27) ≠ 2) := of_decide_eq_false cx16_
        refine sm_T_go 1 (c1 := (75, [some (.inr (.inr (some (13, 0))))], [.inr (.inr (some (13, 0)))], S0_)) rfl ?_
        refine sm_T_cal (d1 := 3) (Q1 := vq_327 b_ n_ T_ mo_ p_ i_ g_.length K_ f_ S0_) rfl rfl (by decide) (vc_327 b_ n_ T_ mo_ p_ i_ g_.length K_ f_ S0_ hI_ (by exact ht_) (by exact hf_) (by exact ⟨hi1_, hi2_⟩) (by exact ⟨hv_.1, by omega⟩) (by exact hmo1_) (by omega) (by exact hen_.2 (by omega))) (fun u_ Sx121_ px124_ => ?_)
        obtain ⟨rfl, hIx122_, hFx123_, px124_⟩ := px124_
        have hFx125_ : ai_fr (sx_W vw_319) S0_ Sx121_ := ai_fr_tr hF_ (fr_le hFx123_ rfl)
        have ex126_ : Sx121_.1 13 0 27 = S0_.1 13 0 27 := hFx123_.1 13 0 27 rfl
        have m2_ : mo_ = 2 := by omega
        have pe_ : (p_pm b_ n_ (mdo mo_) A_ M_ K_ f_) p_ = p_pl b_ n_ K_ f_ p_ := by unfold p_pm mdo; rw [if_pos (decide_eq_true m2_)]
        have gq_ : rg b_ n_ T_ (pb ((p_pm b_ n_ (mdo mo_) A_ M_ K_ f_) p_) fun r_ => .inr r_.1) Sx121_ := by rw [pe_]; exact px124_.1
        have ws9_ := ws_fr hw_ hFx123_ rfl rfl rfl
        have op9_ := (hFx123_.1 13 0 33 rfl).trans hop_
        have vl9_ := (hFx123_.1 13 0 34 rfl).trans hv_.1
        have wt9_ : Sx121_.1 13 0 32 ≤ 800 := by rw [hFx123_.1 13 0 32 rfl, hww_]; omega
        have mo9_ := (hFx123_.1 13 0 27 rfl).trans hmo1_
        have vq_ : ∀ r_, (p_pm b_ n_ (mdo mo_) A_ M_ K_ f_) p_ = .inr r_ → (mo_ ≠ 2 → stk (Sx121_.2.2.1 138 0) (r_.2.1 :: g_)) ∧ (mo_ = 2 → stk (fun j_ => Sx121_.2.2.1 139 0 (8 * j_)) (r_.2.1 :: g_)) := fun r_ hr_ => ⟨fun z_ => absurd m2_ z_, fun _ => px124_.2 r_ (pe_.symm.trans hr_) g_ rfl (hv_.2.2 m2_)⟩
        refine sm_T_go 2 (c1 := (131, [some (.inr (.inr (some (13, 0))))], [.inr (.inr (some (13, 0)))], Sx121_)) rfl ?_
        refine sm_T_cal (d1 := 0) (Q1 := vq_292  Sx121_) rfl rfl (by decide) (vc_292  Sx121_ hIx122_ ) (fun u_ Sx127_ px130_ => ?_)
        obtain ⟨rfl, vx132_, rfl, px130_⟩ := px130_
        have e131_ := px130_
        refine sm_T_b0 (a := 0) (z := 17) rfl (fun cx133_ => ?_) (fun cx133_ => ?_)
        · have cx133_ : vx132_ = 0 := of_decide_eq_true cx133_
          have hz_ := wr_if e131_ (by omega)
          refine sm_T_go 1 (c1 := (152, [some (.inr (.inr (some (13, 0))))], [.inr (.inr (some (13, 0)))], Sx121_)) rfl ?_
          refine sm_T_cal (d1 := 0) (Q1 := vq_292  Sx121_) rfl rfl (by decide) (vc_292  Sx121_ hIx122_ ) (fun u_ Sx134_ px137_ => ?_)
          obtain ⟨rfl, vx139_, rfl, px137_⟩ := px137_
          have e152_ := px137_
          refine sm_T_rz rfl (by (rw [e152_]; split; (right; rfl); (left; rfl))) ⟨_, _, rfl, _, rfl, hIx122_, hFx125_, ?_⟩
          first | (refine ⟨fun e_ he_ => ?_, fun y_ hy_ => ?_⟩; (rw [pA_p n33_ n40_, hpr_] at he_; cases he_); (rw [pA_p n33_ n40_, hpr_] at hy_; cases hy_; exact ⟨⟨g148_, ⟨w1_, ws148_, Or.inr ⟨rfl, wl148_⟩⟩, op148_, v148_, mo148_⟩, by rw [e152_, if_pos g148_.1]; rfl⟩)) | (cases hq_ : (p_pm b_ n_ (mdo mo_) A_ M_ K_ f_) p_ with | inr r_ => (exfalso; rw [hq_] at gq_; exact hz_ gq_.1) | inl e2_ => (rw [hq_] at gq_; refine ⟨fun e_ he_ => ?_, fun y_ hy_ => ?_⟩; (rw [pA_p n33_ n40_, hq_] at he_; cases he_; exact ⟨gq_.1, gq_.2.1, gq_.2.2, wt9_, mo9_⟩); (rw [pA_p n33_ n40_, hq_] at hy_; cases hy_)))
        · have cx133_ : ¬ (vx132_ = 0) := of_decide_eq_false cx133_
          have hz_ := rt_if e131_ (by omega)
          obtain ⟨r_, hpr_⟩ : ∃ r_, (p_pm b_ n_ (mdo mo_) A_ M_ K_ f_) p_ = .inr r_ := by cases hq_ : (p_pm b_ n_ (mdo mo_) A_ M_ K_ f_) p_ with | inl e_ => (exfalso; rw [hq_] at gq_; exact gq_.2.2 (gq_.1.symm.trans hz_)) | inr r_ => exact ⟨r_, rfl⟩
          rw [hpr_] at gq_
          have rb := hprk p_ r_ hok_.2.2.1 hok_.2.2.2.1 hpr_
          have bx140_ : 0 ≤ Sx121_.1 13 0 34 ∧ Sx121_.1 13 0 34 ≤ 1023 := hIx122_.1 13 0 34 rfl
          refine sm_T_go 4 (c1 := (143, [some (.inr (.inr (some (13, 0))))], [.inl 1, .inl (Sx121_.1 13 0 34), .inr (.inr (some (13, 0)))], Sx121_)) rfl ?_
          refine sm_T_bin (w := (Sx121_.1 13 0 34) + 1) rfl (bi_add (by omega) (by omega) (by omega)) ?_
          have hIx141_ : gi (sm_pI Sx121_ 13 0 34 ((Sx121_.1 13 0 34) + 1)) := gi_pI hIx122_ (show 0 ≤ (Sx121_.1 13 0 34) + 1 ∧ (Sx121_.1 13 0 34) + 1 ≤ 1023 from ⟨by omega, by omega⟩)
          have hFx142_ : ai_fr (sx_W vw_319) S0_ (sm_pI Sx121_ 13 0 34 ((Sx121_.1 13 0 34) + 1)) := ai_fr_tr hFx125_ (ai_fr_pI rfl)
          refine sm_T_go 2 (c1 := (148, [some (.inr (.inr (some (13, 0))))], [.inr (.inr (some (13, 0)))], sm_pI Sx121_ 13 0 34 ((Sx121_.1 13 0 34) + 1))) rfl ?_
          refine sm_T_cal (d1 := 1) (Q1 := vq_317 b_ n_ T_ mo_ t_ o_ r_.2.1 g_ (r_.2.2 ++ c_) w0_ (sm_pI Sx121_ 13 0 34 ((Sx121_.1 13 0 34) + 1))) rfl rfl (by decide) (vc_317 b_ n_ T_ mo_ t_ o_ r_.2.1 g_ (r_.2.2 ++ c_) w0_ (sm_pI Sx121_ 13 0 34 ((Sx121_.1 13 0 34) + 1)) hIx141_ (by exact ws9_) (by exact hwt_) (by exact hok_.2.1.1) (by exact vs_pu (by show _ + 1 = _; omega) (vq_ r_ hpr_).1 (vq_ r_ hpr_).2) (by exact mo9_) (by omega) (by exact rb.2.2.2.1)) (fun u_ Sx143_ px146_ => ?_)
          obtain ⟨rfl, hIx144_, hFx145_, px146_⟩ := px146_
          have hFx147_ : ai_fr (sx_W vw_319) S0_ Sx143_ := ai_fr_tr hFx142_ (fr_le hFx145_ rfl)
          obtain ⟨w1_, ws148_, wl148_, v148_⟩ := px146_
          have g148_ := rg_fr (b_ := b_) (n_ := n_) (T_ := T_) (x_ := .inr r_.1) (S_ := (sm_pI Sx121_ 13 0 34 ((Sx121_.1 13 0 34) + 1))) gq_ hFx145_ rfl rfl rfl
          have op148_ := (hFx145_.1 13 0 33 rfl).trans op9_
          have mo148_ := (hFx145_.1 13 0 27 rfl).trans mo9_
          refine sm_T_go 1 (c1 := (152, [some (.inr (.inr (some (13, 0))))], [.inr (.inr (some (13, 0)))], Sx143_)) rfl ?_
          refine sm_T_cal (d1 := 0) (Q1 := vq_292  Sx143_) rfl rfl (by decide) (vc_292  Sx143_ hIx144_ ) (fun u_ Sx148_ px151_ => ?_)
          obtain ⟨rfl, vx153_, rfl, px151_⟩ := px151_
          have e152_ := px151_
          refine sm_T_rz rfl (by (rw [e152_]; split; (right; rfl); (left; rfl))) ⟨_, _, rfl, _, rfl, hIx144_, hFx147_, ?_⟩
          first | (refine ⟨fun e_ he_ => ?_, fun y_ hy_ => ?_⟩; (rw [pA_p n33_ n40_, hpr_] at he_; cases he_); (rw [pA_p n33_ n40_, hpr_] at hy_; cases hy_; exact ⟨⟨g148_, ⟨w1_, ws148_, Or.inr ⟨rfl, wl148_⟩⟩, op148_, v148_, mo148_⟩, by rw [e152_, if_pos g148_.1]; rfl⟩)) | (cases hq_ : (p_pm b_ n_ (mdo mo_) A_ M_ K_ f_) p_ with | inr r_ => (exfalso; rw [hq_] at gq_; exact hz_ gq_.1) | inl e2_ => (rw [hq_] at gq_; refine ⟨fun e_ he_ => ?_, fun y_ hy_ => ?_⟩; (rw [pA_p n33_ n40_, hq_] at he_; cases he_; exact ⟨gq_.1, gq_.2.1, gq_.2.2, wt9_, mo9_⟩); (rw [pA_p n33_ n40_, hq_] at hy_; cases hy_)))
    · have cx14_ : ¬ (vx13_ = 0) := of_decide_eq_false cx14_
      have k40_ : lx_kd b_ n_ p_ = 40 := e52_.mp (by omega)
      refine sm_T_go 2 (c1 := (61, [some (.inr (.inr (some (13, 0))))], [.inl 40, .inr (.inr (some (13, 0)))], S0_)) rfl ?_
      refine sm_T_cal (d1 := 3) (Q1 := vq_318 40 b_ n_ T_ mo_ p_ i_ (o_mk o_) w0_ S0_) rfl rfl (by decide) (vc_318 40 b_ n_ T_ mo_ p_ i_ (o_mk o_) w0_ S0_ hI_ (by exact ht_) (by exact hf_) (by exact ⟨hi1_, hi2_⟩) (by omega) (by exact hw_) (by omega) (by exact ⟨hop_, hok_.2.1.2.1⟩) (by decide) (by exact hmo1_)) (fun u_ Sx154_ px157_ => ?_)
      obtain ⟨rfl, hIx155_, hFx156_, px157_⟩ := px157_
      have hFx158_ : ai_fr (sx_W vw_319) S0_ Sx154_ := ai_fr_tr hF_ (fr_le hFx156_ rfl)
      have e61_ := px157_
      have v61_ := vs_fr hv_ hFx156_ rfl rfl rfl
      have m61_ := (hFx156_.1 13 0 27 rfl).trans hmo1_
      refine sm_T_go 1 (c1 := (65, [some (.inr (.inr (some (13, 0))))], [.inl 0], Sx154_)) rfl ?_
      refine sm_T_rz rfl (by omega) ⟨_, _, rfl, _, rfl, hIx155_, hFx158_, ?_⟩
      by_cases z_ : o_mk o_ = 60
      · refine ⟨fun e_ he_ => ?_, fun y_ hy_ => ?_⟩
        · rw [pA_x k40_ z_] at he_; cases he_; exact e61_.1 z_
        · rw [pA_x k40_ z_] at hy_; cases hy_
      · refine ⟨fun e_ he_ => ?_, fun y_ hy_ => ?_⟩
        · rw [pA_o k40_ z_] at he_
          cases hq_ : p_ad b_ n_ p_ with
          | inr q_ => rw [hq_] at he_; cases he_
          | inl e2_ => rw [hq_] at he_; cases he_; exact (e61_.2 z_).1 _ hq_
        · rw [pA_o k40_ z_] at hy_
          cases hq_ : p_ad b_ n_ p_ with
          | inl e2_ => rw [hq_] at hy_; cases hy_
          | inr q_ =>
            rw [hq_] at hy_
            cases hy_
            obtain ⟨z1_, z2_, z3_⟩ := (e61_.2 z_).2 q_ hq_
            refine ⟨⟨z1_, ⟨_, z2_, Or.inl ⟨rfl, Or.inl ⟨rfl, wl_op hwt_ (rp_rtp ht_ hi2_ (by omega))⟩⟩⟩, ?_, v61_, m61_⟩, rfl⟩
            rw [z3_]
            show _ = (((if (if t_ = true then (-2 : Int) else -1) < 0 then 1 else 0) + o_mk o_ : Nat) : Int)
            rw [if_pos (by split <;> decide)]
            push_cast
            omega
  · have cx7_ : ¬ (vx6_ = 0) := of_decide_eq_false cx7_
    have k33_ : lx_kd b_ n_ p_ = 33 := e3_.mp (by omega)
    refine sm_T_go 1 (c1 := (10, [some (.inr (.inr (some (13, 0))))], [.inr (.inr (some (13, 0)))], S0_)) rfl ?_
    refine sm_T_cal (d1 := 0) (Q1 := vq_312 w0_ S0_) rfl rfl (by decide) (vc_312 w0_ S0_ hI_ (by exact hw_)) (fun u_ Sx159_ px162_ => ?_)
    obtain ⟨rfl, vx164_, rfl, px162_⟩ := px162_
    have e10_ := px162_
    refine sm_T_go 1 (c1 := (15, [some (.inr (.inr (some (13, 0))))], [.inl 33, .inl vx164_], S0_)) rfl ?_
    refine sm_T_br (a := 1) (z := 21) rfl (fun cx165_ => ?_) (fun cx165_ => ?_)
    · have cx165_ : vx164_ ≠ 33 := of_decide_eq_true cx165_
      have tf_ := tp_.2 (by omega)
      refine sm_T_go 3 (c1 := (40, [some (.inr (.inr (some (13, 0))))], [.inl 1, .inl 33, .inr (.inr (some (13, 0)))], S0_)) rfl ?_
      refine sm_T_cal (d1 := 0) (Q1 := vq_311 33 1 w0_ S0_) rfl rfl (by decide) (vc_311 33 1 w0_ S0_ hI_ (by exact hw_) (by omega) (by decide) (by decide)) (fun u_ Sx166_ px169_ => ?_)
      obtain ⟨rfl, hIx167_, hFx168_, px169_⟩ := px169_
      have hFx170_ : ai_fr (sx_W vw_319) S0_ Sx166_ := ai_fr_tr hF_ (fr_le hFx168_ rfl)
      have ws40_ := px169_
      have g40_ := rg_fr hg_ hFx168_ rfl rfl rfl
      have t40_ := rtab_fr ht_ hFx168_ rfl rfl rfl rfl rfl
      have v40_ := vs_fr hv_ hFx168_ rfl rfl rfl
      have op40_ := (hFx168_.1 13 0 33 rfl).trans hop_
      refine sm_T_go 1 (c1 := (44, [some (.inr (.inr (some (13, 0))))], [.inr (.inr (some (13, 0)))], Sx166_)) rfl ?_
      refine sm_T_cal (d1 := 2) (Q1 := vq_297 b_ n_ T_ (.inr p_) Sx166_) rfl rfl (by decide) (vc_297 b_ n_ T_ (.inr p_) Sx166_ hIx167_ (by first | exact t40_ | exact rtab_fr ht_ hFx170_ rfl rfl rfl rfl rfl) (by first | exact g40_ | exact hg_) (by (intro q_ e_; cases e_; omega))) (fun u_ Sx171_ px174_ => ?_)
      obtain ⟨rfl, hIx172_, hFx173_, px174_⟩ := px174_
      have hFx175_ : ai_fr (sx_W vw_319) S0_ Sx171_ := ai_fr_tr hFx170_ (fr_le hFx173_ rfl)
      have g44_ := px174_.1
      rw [pb_r rfl] at g44_
      first | (have ws44_ := ws_fr ws40_ hFx173_ rfl rfl rfl) | (have ws44_ := ws_fr ws9_ hFx173_ rfl rfl rfl; rw [x6_] at ws44_) | (have ws44_ := ws_fr ws9_ hFx173_ rfl rfl rfl)
      first | (have v44_ := vs_fr v40_ hFx173_ rfl rfl rfl; have op44_ := (hFx173_.1 13 0 33 rfl).trans op40_) | (have v44_ := vs_fr (vs_137 hv_) hFx173_ rfl rfl rfl; have op44_ := (hFx173_.1 13 0 33 rfl).trans hop_)
      refine sm_T_go 1 (c1 := (48, [some (.inr (.inr (some (13, 0))))], [.inl 0], Sx171_)) rfl ?_
      refine sm_T_rz rfl (by omega) ⟨_, _, rfl, _, rfl, hIx172_, hFx175_, ?_⟩
      refine ⟨fun e_ he_ => ?_, fun y_ hy_ => ?_⟩
      · rw [pA_b k33_] at he_
        cases hq_ : p_ad b_ n_ p_ with
        | inr q_ => rw [hq_] at he_; cases he_
        | inl e2_ =>
          rw [hq_] at he_ g44_
          cases he_
          exact ⟨g44_.1, g44_.2.1, g44_.2.2, by have := ws44_.1; simp only [List.length_cons] at this; omega, (hFx175_.1 13 0 27 rfl).trans hmo1_⟩
      · rw [pA_b k33_] at hy_
        cases hq_ : p_ad b_ n_ p_ with
        | inl e2_ => rw [hq_] at hy_; cases hy_
        | inr q_ =>
          rw [hq_] at hy_ g44_
          cases hy_
          refine ⟨⟨g44_, ⟨_, ws44_, Or.inl ⟨rfl, ?_⟩⟩, op44_, v44_, (hFx175_.1 13 0 27 rfl).trans hmo1_⟩, rfl⟩
          first | exact Or.inr ⟨u0_, rfl, hu2_⟩ | (refine Or.inr ⟨w0_, ?_, tf_.2⟩; rw [tf_.1]; rfl)
    · have cx165_ : ¬ (vx164_ ≠ 33) := of_decide_eq_false cx165_
      obtain ⟨u0_, hu1_, hu2_⟩ := tp_.1 (by omega)
      subst hu1_
      have wx_ : S0_.1 13 0 32 = (u0_.length : Int) + 1 := by rw [hww_, List.length_cons]; push_cast; rfl
      obtain ⟨-, y9_, u9_, w3_, w4_, w5_⟩ := ws_tp hw_ (by omega)
      cases w3_
      have w6_ : S0_.2.2.1 137 0 (S0_.1 13 0 32 - 1).toNat = (if t_ = true then 1 else 0) := w4_
      have x6_ : i_xor (S0_.2.2.1 137 0 (S0_.1 13 0 32 - 1).toNat) 1 = (if (!t_) = true then 1 else 0) := by rw [w6_]; cases t_; exact x1_b.2; exact x1_b.1
      have x7_ : 0 ≤ i_xor (S0_.2.2.1 137 0 (S0_.1 13 0 32 - 1).toNat) 1 ∧ i_xor (S0_.2.2.1 137 0 (S0_.1 13 0 32 - 1).toNat) 1 ≤ 1280 := by rw [x6_]; cases t_ <;> decide
      have ws9_ := ws_top (z_ := i_xor (S0_.2.2.1 137 0 (S0_.1 13 0 32 - 1).toNat) 1) hw_ w5_
      have bx176_ : 0 ≤ S0_.1 13 0 32 ∧ S0_.1 13 0 32 ≤ 1023 := hI_.1 13 0 32 rfl
      refine sm_T_go 5 (c1 := (27, [some (.inr (.inr (some (13, 0))))], [.inl 1, .inl (S0_.1 13 0 32), .inr (.inr (some (137, 0)))], S0_)) rfl ?_
      refine sm_T_bin (w := (S0_.1 13 0 32) - 1) rfl (bi_sub (by omega) (by omega) (by omega)) ?_
      refine sm_T_go 1 (c1 := (29, [some (.inr (.inr (some (13, 0))))], [.inl ((S0_.1 13 0 32) - 1), .inr (.inr (some (137, 0))), .inl ((S0_.1 13 0 32) - 1), .inr (.inr (some (137, 0)))], S0_)) rfl ?_
      refine sm_T_iald (n := 1024) rfl rfl (by omega) (by omega) ?_
      have bx177_ : 0 ≤ S0_.2.2.1 137 0 ((S0_.1 13 0 32) - 1).toNat ∧ S0_.2.2.1 137 0 ((S0_.1 13 0 32) - 1).toNat ≤ 1280 := hI_.2 137 0 _
      refine sm_T_go 1 (c1 := (31, [some (.inr (.inr (some (13, 0))))], [.inl 1, .inl (S0_.2.2.1 137 0 ((S0_.1 13 0 32) - 1).toNat), .inl ((S0_.1 13 0 32) - 1), .inr (.inr (some (137, 0)))], S0_)) rfl ?_
      refine sm_T_bin (w := (i_xor (S0_.2.2.1 137 0 ((S0_.1 13 0 32) - 1).toNat) 1)) rfl rfl ?_
      refine sm_T_iast (n := 1024) rfl rfl (by omega) (by omega) ?_
      have hIx178_ : gi (sm_aI S0_ 137 0 ((S0_.1 13 0 32) - 1).toNat (i_xor (S0_.2.2.1 137 0 ((S0_.1 13 0 32) - 1).toNat) 1)) := gi_aI hI_ (show 0 ≤ (i_xor (S0_.2.2.1 137 0 ((S0_.1 13 0 32) - 1).toNat) 1) ∧ (i_xor (S0_.2.2.1 137 0 ((S0_.1 13 0 32) - 1).toNat) 1) ≤ 1280 from ⟨by omega, by omega⟩)
      have hFx179_ : ai_fr (sx_W vw_319) S0_ (sm_aI S0_ 137 0 ((S0_.1 13 0 32) - 1).toNat (i_xor (S0_.2.2.1 137 0 ((S0_.1 13 0 32) - 1).toNat) 1)) := ai_fr_tr hF_ (ai_fr_aI rfl)
      refine sm_T_go 2 (c1 := (44, [some (.inr (.inr (some (13, 0))))], [.inr (.inr (some (13, 0)))], sm_aI S0_ 137 0 ((S0_.1 13 0 32) - 1).toNat (i_xor (S0_.2.2.1 137 0 ((S0_.1 13 0 32) - 1).toNat) 1))) rfl ?_
      refine sm_T_cal (d1 := 2) (Q1 := vq_297 b_ n_ T_ (.inr p_) (sm_aI S0_ 137 0 ((S0_.1 13 0 32) - 1).toNat (i_xor (S0_.2.2.1 137 0 ((S0_.1 13 0 32) - 1).toNat) 1))) rfl rfl (by decide) (vc_297 b_ n_ T_ (.inr p_) (sm_aI S0_ 137 0 ((S0_.1 13 0 32) - 1).toNat (i_xor (S0_.2.2.1 137 0 ((S0_.1 13 0 32) - 1).toNat) 1)) hIx178_ (by first | exact t40_ | exact rtab_fr ht_ hFx179_ rfl rfl rfl rfl rfl) (by first | exact g40_ | exact hg_) (by (intro q_ e_; cases e_; omega))) (fun u_ Sx180_ px183_ => ?_)
      obtain ⟨rfl, hIx181_, hFx182_, px183_⟩ := px183_
      have hFx184_ : ai_fr (sx_W vw_319) S0_ Sx180_ := ai_fr_tr hFx179_ (fr_le hFx182_ rfl)
      have g44_ := px183_.1
      rw [pb_r rfl] at g44_
      first | (have ws44_ := ws_fr ws40_ hFx182_ rfl rfl rfl) | (have ws44_ := ws_fr ws9_ hFx182_ rfl rfl rfl; rw [x6_] at ws44_) | (have ws44_ := ws_fr ws9_ hFx182_ rfl rfl rfl)
      first | (have v44_ := vs_fr v40_ hFx182_ rfl rfl rfl; have op44_ := (hFx182_.1 13 0 33 rfl).trans op40_) | (have v44_ := vs_fr (vs_137 hv_) hFx182_ rfl rfl rfl; have op44_ := (hFx182_.1 13 0 33 rfl).trans hop_)
      refine sm_T_go 1 (c1 := (48, [some (.inr (.inr (some (13, 0))))], [.inl 0], Sx180_)) rfl ?_
      refine sm_T_rz rfl (by omega) ⟨_, _, rfl, _, rfl, hIx181_, hFx184_, ?_⟩
      refine ⟨fun e_ he_ => ?_, fun y_ hy_ => ?_⟩
      · rw [pA_b k33_] at he_
        cases hq_ : p_ad b_ n_ p_ with
        | inr q_ => rw [hq_] at he_; cases he_
        | inl e2_ =>
          rw [hq_] at he_ g44_
          cases he_
          exact ⟨g44_.1, g44_.2.1, g44_.2.2, by have := ws44_.1; simp only [List.length_cons] at this; omega, (hFx184_.1 13 0 27 rfl).trans hmo1_⟩
      · rw [pA_b k33_] at hy_
        cases hq_ : p_ad b_ n_ p_ with
        | inl e2_ => rw [hq_] at hy_; cases hy_
        | inr q_ =>
          rw [hq_] at hy_ g44_
          cases hy_
          refine ⟨⟨g44_, ⟨_, ws44_, Or.inl ⟨rfl, ?_⟩⟩, op44_, v44_, (hFx184_.1 13 0 27 rfl).trans hmo1_⟩, rfl⟩
          first | exact Or.inr ⟨u0_, rfl, hu2_⟩ | (refine Or.inr ⟨w0_, ?_, tf_.2⟩; rw [tf_.1]; rfl)
end
/-! 99.yfa -/
section
/-! the reference: new names; written by wip/p55/gen/vg -/

/-! new_ names -/
theorem nw_w {b_ : Nat → Int} {n_ M_ : Nat} {A_ : pA} {x_ : pE Nat} {e_ : Int × Nat} (h_ : pb x_ (p_du b_ n_ 1) = .inl e_) : pb x_ (p_nw b_ n_ A_ M_) = .inl e_ := by
  cases x_ with
  | inl z_ => exact h_
  | inr p_ =>
    rw [pb_r rfl] at h_ ⊢
    unfold p_du at h_
    split at h_
    · cases h_
    · rename_i g_
      cases h_
      exact if_neg g_
theorem nw_r {b_ : Nat → Int} {n_ M_ p_ : Nat} {A_ : pA} {x_ : pE Nat} (h_ : pb x_ (p_du b_ n_ 1) = .inr p_) : x_ = .inr p_ ∧ lx_kd b_ n_ p_ = 1 ∧ p_nw b_ n_ A_ M_ p_ = if p_fn b_ n_ A_ M_ p_ = -1 then (if (A_.1 M_ : Int) = 40 then .inl (15, p_) else p_ad b_ n_ p_) else .inl (10, p_) := by
  obtain ⟨q_, h1_, h2_⟩ := pb_inr h_
  subst h1_
  unfold p_du at h2_
  split at h2_
  · rename_i g_
    cases h2_
    exact ⟨rfl, g_, if_pos g_⟩
  · cases h2_
theorem ws_ex {S_ : sm_S} (hI_ : gi S_) : ∃ w_, ws w_ S_ := by
  have b1_ : 0 ≤ S_.1 13 0 32 ∧ S_.1 13 0 32 ≤ 1023 := hI_.1 13 0 32 rfl
  have : ∀ k_ : Nat, ∃ w_ : List (Int × Int), w_.length = k_ ∧ stk (S_.2.2.1 136 0) (w_.map fun x_ => x_.1) ∧ stk (S_.2.2.1 137 0) (w_.map fun x_ => x_.2) := by
    intro k_
    induction k_ with
    | zero => exact ⟨[], rfl, trivial, trivial⟩
    | succ k_ ih_ =>
      obtain ⟨w_, h1_, h2_, h3_⟩ := ih_
      refine ⟨(S_.2.2.1 136 0 k_, S_.2.2.1 137 0 k_) :: w_, by rw [List.length_cons, h1_], ⟨?_, h2_⟩, ⟨?_, h3_⟩⟩
      · show S_.2.2.1 136 0 (w_.map fun x_ => x_.1).length = S_.2.2.1 136 0 k_
        rw [List.length_map, h1_]
      · show S_.2.2.1 137 0 (w_.map fun x_ => x_.2).length = S_.2.2.1 137 0 k_
        rw [List.length_map, h1_]
  obtain ⟨w_, h1_, h2_, h3_⟩ := this (S_.1 13 0 32).toNat
  exact ⟨w_, by omega, h2_, h3_⟩
/-! M_.newName -/
def vw_306 : sx_Wl := ([(13, 9), (13, 10), (13, 11), (13, 25)], [], [])
def vq_306 (m_ : Int) (b_ : Nat → Int) (n_ : Nat) (T_ : Nat) (x_ : pE Nat) (A_ : pA) (M_ : Nat) (S0_ : sm_S) (u_ : Option sm_V) (S1_ : sm_S) : Prop := u_ = none ∧ gi S1_ ∧ ai_fr (sx_W vw_306) S0_ S1_ ∧ (rg b_ n_ T_ (pb x_ (p_nw b_ n_ A_ M_)) S1_ ∧ ∀ p_ r_, x_ = .inr p_ → p_nw b_ n_ A_ M_ p_ = .inr r_ → rtk b_ n_ T_ (S1_.1 13 0 25) p_)
set_option maxHeartbeats 1500000 in
theorem vc_306 {sc_ : Nat × (Nat → Int)} (m_ : Int) (b_ : Nat → Int) (n_ : Nat) (T_ : Nat) (x_ : pE Nat) (A_ : pA) (M_ : Nat) (S0_ : sm_S) (hI_ : gi S0_) (ht_ : rtab b_ n_ T_ S0_) (hx_ : rg b_ n_ T_ x_ S0_) (hmm_ : m_ = (M_ : Int) ∧ M_ ≤ 15) (hre_ : re1 b_ n_ T_ A_ M_ S0_) (hAM_ : A_.1 M_ ≤ 40) : sm_T (mt_P sc_) 3 306 (0, [some (.inr (.inr (some (13, 0)))), some (.inl m_)], [], S0_) (fun r_ => ∃ u_ S1_, r_ = (.inl u_, S1_, 0) ∧ vq_306 m_ b_ n_ T_ x_ A_ M_ S0_ u_ S1_) := by
  have hF_ : ai_fr (sx_W vw_306) S0_ S0_ := ai_fr_rf
  refine sm_T_go 3 (c1 := (3, [some (.inr (.inr (some (13, 0)))), some (.inl m_)], [.inl 1, .inr (.inr (some (13, 0))), .inr (.inr (some (13, 0)))], S0_)) rfl ?_
  refine sm_T_cal (d1 := 1) (Q1 := vq_299 1 b_ n_ T_ x_ S0_) rfl rfl (by decide) (vc_299 1 b_ n_ T_ x_ S0_ hI_ (by exact ht_) (by exact hx_) (by decide)) (fun u_ Sx1_ px4_ => ?_)
  obtain ⟨vx6_, rfl, hIx2_, hFx3_, px4_⟩ := px4_
  have hFx5_ : ai_fr (sx_W vw_306) S0_ Sx1_ := ai_fr_tr hF_ (fr_le hFx3_ rfl)
  have a3_ := px4_.1
  have g3_ := px4_.2
  have t3_ := rtab_fr ht_ hFx3_ rfl rfl rfl rfl rfl
  have at3_ := hFx3_.1 13 0 9 rfl
  have v3b : 0 ≤ vx6_ ∧ vx6_ ≤ 1280 := by rw [a3_, ← at3_]; exact hIx2_.1 13 0 9 rfl
  have re3_ := re1_fr hre_ hFx3_ rfl rfl rfl rfl rfl rfl
  have rt3_ : ∀ p_ i_ : Nat, Sx1_.1 13 0 9 = (i_ : Int) → rp b_ n_ T_ i_ p_ → lx_kd b_ n_ p_ = 1 → rtk b_ n_ T_ vx6_ p_ ∧ Sx1_.2.2.1 120 0 vx6_.toNat = (p_ : Int) ∧ Sx1_.2.2.1 119 0 vx6_.toNat ≠ 4 := by intro p_ i_ q1_ q2_ q3_; have q4_ := rp_at t3_ q2_; have q5_ := (rp_rtk t3_ q2_ q3_).1; rw [show vx6_ = (i_ : Int) by omega, Int.toNat_natCast]; exact ⟨q5_, q4_.2.1, by rw [q4_.1, q3_]; decide⟩
  have cn3_ : Sx1_.2.2.1 126 0 m_.toNat = (A_.1 M_ : Int) := by rw [show m_.toNat = M_ by omega]; exact re3_.1
  have hIx7_ : gi (sm_pI Sx1_ 13 0 25 vx6_) := gi_pI hIx2_ (show 0 ≤ vx6_ ∧ vx6_ ≤ 1280 from ⟨by omega, by omega⟩)
  have hFx8_ : ai_fr (sx_W vw_306) S0_ (sm_pI Sx1_ 13 0 25 vx6_) := ai_fr_tr hFx5_ (ai_fr_pI rfl)
  refine sm_T_go 2 (c1 := (10, [some (.inr (.inr (some (13, 0)))), some (.inl m_)], [.inr (.inr (some (13, 0)))], sm_pI Sx1_ 13 0 25 vx6_)) rfl ?_
  refine sm_T_cal (d1 := 0) (Q1 := vq_292  (sm_pI Sx1_ 13 0 25 vx6_)) rfl rfl (by decide) (vc_292  (sm_pI Sx1_ 13 0 25 vx6_) hIx7_ ) (fun u_ Sx9_ px12_ => ?_)
  obtain ⟨rfl, vx14_, rfl, px12_⟩ := px12_
  have e10_ := px12_
  refine sm_T_b0 (a := 0) (z := 26) rfl (fun cx15_ => ?_) (fun cx15_ => ?_)
  · have cx15_ : vx14_ = 0 := of_decide_eq_true cx15_
    obtain ⟨e3_, he3_⟩ := rg_w g3_ (wr_if e10_ (by omega))
    have nww_ := nw_w (A_ := A_) (M_ := M_) he3_
    rw [he3_] at g3_
    obtain ⟨x4_, hx4_, hx4b⟩ : ∃ x4_ : pE Nat, rg b_ n_ T_ x4_ _ ∧ x4_ = .inl e3_ := ⟨_, g3_, rfl⟩
    have t4_ := t3_
    refine sm_T_go 1 (c1 := (40, [some (.inr (.inr (some (13, 0)))), some (.inl m_)], [.inr (.inr (some (13, 0)))], sm_pI Sx1_ 13 0 25 vx6_)) rfl ?_
    refine sm_T_cal (d1 := 0) (Q1 := vq_292  (sm_pI Sx1_ 13 0 25 vx6_)) rfl rfl (by decide) (vc_292  (sm_pI Sx1_ 13 0 25 vx6_) hIx7_ ) (fun u_ Sx16_ px19_ => ?_)
    obtain ⟨rfl, vx21_, rfl, px19_⟩ := px19_
    have e40_ := px19_
    first | (have v41_ : vx21_ = 1 := e40_.trans (if_pos hz_)) | skip
    first | (have v40_ : vx21_ = 0 := (by rw [hx4b] at hx4_; rw [e40_, if_neg (fun z_ => hx4_.2.2 (hx4_.1.symm.trans z_))])) | skip
    refine sm_T_b0 (a := 0) (z := 24) rfl (fun cx22_ => ?_) (fun cx22_ => ?_)
    · have cx22_ : vx21_ = 0 := of_decide_eq_true cx22_
      refine sm_T_go 1 (c1 := (68, [some (.inr (.inr (some (13, 0)))), some (.inl m_)], [.inr (.inr (some (13, 0)))], sm_pI Sx1_ 13 0 25 vx6_)) rfl ?_
      refine sm_T_cal (d1 := 2) (Q1 := vq_297 b_ n_ T_ x4_ (sm_pI Sx1_ 13 0 25 vx6_)) rfl rfl (by decide) (vc_297 b_ n_ T_ x4_ (sm_pI Sx1_ 13 0 25 vx6_) hIx7_ (by exact t4_) (by first | exact hx4_) (by (first | (exfalso; omega) | (intro q_ e_; rw [hx4b] at e_; first | (cases e_; done) | (cases e_; rw [kk1_]; decide))))) (fun u_ Sx23_ px26_ => ?_)
      obtain ⟨rfl, hIx24_, hFx25_, px26_⟩ := px26_
      have hFx27_ : ai_fr (sx_W vw_306) S0_ Sx23_ := ai_fr_tr hFx8_ (fr_le hFx25_ rfl)
      have g68_ := px26_.1
      have n68_ := hFx25_.1 13 0 25 rfl
      refine sm_T_rv rfl ⟨_, _, rfl, rfl, hIx24_, hFx27_, ?_⟩
      first | (exfalso; omega) | (refine ⟨?_, fun p9_ r9_ hp9_ hr9_ => ?_⟩; (first | (rw [nww_]; rw [hx4b] at g68_; exact g68_) | (rw [hx9_, pb_r rfl, nwv_]; rw [hx4b] at g68_; exact g68_)); (first | (rw [hx9_] at hp9_; cases hp9_; first | (rw [nwv_] at hr9_; cases hr9_; done) | (rw [n68_]; exact rt_.1)) | (exfalso; rw [hp9_, pb_r rfl, hr9_] at nww_; cases nww_)))
    · have cx22_ : ¬ (vx21_ = 0) := of_decide_eq_false cx22_
      refine sm_T_go 3 (c1 := (51, [some (.inr (.inr (some (13, 0)))), some (.inl m_)], [.inl m_, .inr (.inr (some (126, 0)))], sm_pI Sx1_ 13 0 25 vx6_)) rfl ?_
      refine sm_T_iald (n := 16) rfl rfl (by omega) (by omega) ?_
      have bx28_ : 0 ≤ Sx1_.2.2.1 126 0 m_.toNat ∧ Sx1_.2.2.1 126 0 m_.toNat ≤ 40 := hIx2_.2 126 0 _
      refine sm_T_go 1 (c1 := (54, [some (.inr (.inr (some (13, 0)))), some (.inl m_)], [.inl 40, .inl (Sx1_.2.2.1 126 0 m_.toNat)], sm_pI Sx1_ 13 0 25 vx6_)) rfl ?_
      refine sm_T_br (a := 1) (z := 13) rfl (fun cx29_ => ?_) (fun cx29_ => ?_)
      · have cx29_ : (Sx1_.2.2.1 126 0 m_.toNat) ≠ 40 := of_decide_eq_true cx29_
        first | (rw [if_neg (by omega)] at nwv_) | skip
        refine sm_T_go 1 (c1 := (68, [some (.inr (.inr (some (13, 0)))), some (.inl m_)], [.inr (.inr (some (13, 0)))], sm_pI Sx1_ 13 0 25 vx6_)) rfl ?_
        refine sm_T_cal (d1 := 2) (Q1 := vq_297 b_ n_ T_ x4_ (sm_pI Sx1_ 13 0 25 vx6_)) rfl rfl (by decide) (vc_297 b_ n_ T_ x4_ (sm_pI Sx1_ 13 0 25 vx6_) hIx7_ (by exact t4_) (by first | exact hx4_) (by (first | (exfalso; omega) | (intro q_ e_; rw [hx4b] at e_; first | (cases e_; done) | (cases e_; rw [kk1_]; decide))))) (fun u_ Sx30_ px33_ => ?_)
        obtain ⟨rfl, hIx31_, hFx32_, px33_⟩ := px33_
        have hFx34_ : ai_fr (sx_W vw_306) S0_ Sx30_ := ai_fr_tr hFx8_ (fr_le hFx32_ rfl)
        have g68_ := px33_.1
        have n68_ := hFx32_.1 13 0 25 rfl
        refine sm_T_rv rfl ⟨_, _, rfl, rfl, hIx31_, hFx34_, ?_⟩
        first | (exfalso; omega) | (refine ⟨?_, fun p9_ r9_ hp9_ hr9_ => ?_⟩; (first | (rw [nww_]; rw [hx4b] at g68_; exact g68_) | (rw [hx9_, pb_r rfl, nwv_]; rw [hx4b] at g68_; exact g68_)); (first | (rw [hx9_] at hp9_; cases hp9_; first | (rw [nwv_] at hr9_; cases hr9_; done) | (rw [n68_]; exact rt_.1)) | (exfalso; rw [hp9_, pb_r rfl, hr9_] at nww_; cases nww_)))
      · have cx29_ : ¬ ((Sx1_.2.2.1 126 0 m_.toNat) ≠ 40) := of_decide_eq_false cx29_
        first | (rw [if_pos (by omega)] at nwv_) | skip
        refine sm_T_go 4 (c1 := (64, [some (.inr (.inr (some (13, 0)))), some (.inl m_)], [.inl vx6_, .inl 15, .inr (.inr (some (13, 0)))], sm_pI Sx1_ 13 0 25 vx6_)) rfl ?_
        refine sm_T_cal (d1 := 0) (Q1 := vq_293 15 vx6_ (sm_pI Sx1_ 13 0 25 vx6_)) rfl rfl (by decide) (vc_293 15 vx6_ (sm_pI Sx1_ 13 0 25 vx6_) hIx7_ (by decide) (by omega)) (fun u_ Sx35_ px38_ => ?_)
        obtain ⟨rfl, hIx36_, hFx37_, px38_⟩ := px38_
        have hFx39_ : ai_fr (sx_W vw_306) S0_ Sx35_ := ai_fr_tr hFx8_ (fr_le hFx37_ rfl)
        have t5_ := rtab_fr (S_ := (sm_pI Sx1_ 13 0 25 vx6_)) t4_ hFx37_ rfl rfl rfl rfl rfl
        have t4_ := t5_
        have g64_ : (∃ p_, x4_ = .inr p_) → True := fun _ => trivial
        first | (have g65_ : rg b_ n_ T_ (.inl (15, p_)) Sx35_ := (by rcases px38_ with z_ | z_; (exact absurd hz_ z_.1); (exact ⟨z_.2.1.trans (if_neg rt_.2.2), z_.2.2.trans rt_.2.1, by show (15 : Int) ≠ 0; decide⟩)); obtain ⟨x4_, hx4_, hx4b⟩ : ∃ x4_ : pE Nat, rg b_ n_ T_ x4_ Sx35_ ∧ x4_ = .inl (15, p_) := ⟨_, g65_, rfl⟩) | (obtain ⟨x4_, hx4_, hx4b⟩ : ∃ x4_ : pE Nat, rg b_ n_ T_ x4_ Sx35_ ∧ True := (by exfalso; omega))
        refine sm_T_go 1 (c1 := (68, [some (.inr (.inr (some (13, 0)))), some (.inl m_)], [.inr (.inr (some (13, 0)))], Sx35_)) rfl ?_
        refine sm_T_cal (d1 := 2) (Q1 := vq_297 b_ n_ T_ x4_ Sx35_) rfl rfl (by decide) (vc_297 b_ n_ T_ x4_ Sx35_ hIx36_ (by exact t4_) (by first | exact hx4_) (by (first | (exfalso; omega) | (intro q_ e_; rw [hx4b] at e_; first | (cases e_; done) | (cases e_; rw [kk1_]; decide))))) (fun u_ Sx40_ px43_ => ?_)
        obtain ⟨rfl, hIx41_, hFx42_, px43_⟩ := px43_
        have hFx44_ : ai_fr (sx_W vw_306) S0_ Sx40_ := ai_fr_tr hFx39_ (fr_le hFx42_ rfl)
        have g68_ := px43_.1
        have n68_ := hFx42_.1 13 0 25 rfl
        refine sm_T_rv rfl ⟨_, _, rfl, rfl, hIx41_, hFx44_, ?_⟩
        first | (exfalso; omega) | (refine ⟨?_, fun p9_ r9_ hp9_ hr9_ => ?_⟩; (first | (rw [nww_]; rw [hx4b] at g68_; exact g68_) | (rw [hx9_, pb_r rfl, nwv_]; rw [hx4b] at g68_; exact g68_)); (first | (rw [hx9_] at hp9_; cases hp9_; first | (rw [nwv_] at hr9_; cases hr9_; done) | (rw [n68_]; exact rt_.1)) | (exfalso; rw [hp9_, pb_r rfl, hr9_] at nww_; cases nww_)))
  · have cx15_ : ¬ (vx14_ = 0) := of_decide_eq_false cx15_
    have hz_ := rt_if e10_ (by omega)
    obtain ⟨p_, i_, hp3_, e31_, e32_⟩ := rg_r g3_ hz_
    have nr := nw_r (A_ := A_) (M_ := M_) hp3_
    have rt_ := rt3_ p_ i_ e31_ e32_ nr.2.1
    obtain ⟨hx9_, kk1_, nwv_⟩ := nr
    refine sm_T_go 4 (c1 := (22, [some (.inr (.inr (some (13, 0)))), some (.inl m_)], [.inl vx6_, .inl m_, .inr (.inr (some (13, 0)))], sm_pI Sx1_ 13 0 25 vx6_)) rfl ?_
    refine sm_T_cal (d1 := 1) (Q1 := vq_302 m_ vx6_ b_ n_ T_ A_ M_ p_ (sm_pI Sx1_ 13 0 25 vx6_)) rfl rfl (by decide) (vc_302 m_ vx6_ b_ n_ T_ A_ M_ p_ (sm_pI Sx1_ 13 0 25 vx6_) hIx7_ (by exact t3_) (by exact hmm_) (by exact re3_) (by exact hAM_) (by exact rt_.1)) (fun u_ Sx45_ px48_ => ?_)
    obtain ⟨rfl, vx50_, rfl, px48_⟩ := px48_
    have e22_ := px48_
    refine sm_T_go 1 (c1 := (26, [some (.inr (.inr (some (13, 0)))), some (.inl m_)], [.inl (-1), .inl vx50_], sm_pI Sx1_ 13 0 25 vx6_)) rfl ?_
    refine sm_T_br (a := 0) (z := 13) rfl (fun cx51_ => ?_) (fun cx51_ => ?_)
    · have cx51_ : vx50_ = (-1) := of_decide_eq_true cx51_
      rw [hp3_] at g3_
      obtain ⟨x4_, hx4_, hx4b⟩ : ∃ x4_ : pE Nat, rg b_ n_ T_ x4_ _ ∧ x4_ = .inr p_ := ⟨_, g3_, rfl⟩
      have t4_ := t3_
      rw [if_pos (by omega)] at nwv_
      refine sm_T_go 1 (c1 := (40, [some (.inr (.inr (some (13, 0)))), some (.inl m_)], [.inr (.inr (some (13, 0)))], sm_pI Sx1_ 13 0 25 vx6_)) rfl ?_
      refine sm_T_cal (d1 := 0) (Q1 := vq_292  (sm_pI Sx1_ 13 0 25 vx6_)) rfl rfl (by decide) (vc_292  (sm_pI Sx1_ 13 0 25 vx6_) hIx7_ ) (fun u_ Sx52_ px55_ => ?_)
      obtain ⟨rfl, vx57_, rfl, px55_⟩ := px55_
      have e40_ := px55_
      first | (have v41_ : vx57_ = 1 := e40_.trans (if_pos hz_)) | skip
      first | (have v40_ : vx57_ = 0 := (by rw [hx4b] at hx4_; rw [e40_, if_neg (fun z_ => hx4_.2.2 (hx4_.1.symm.trans z_))])) | skip
      refine sm_T_b0 (a := 0) (z := 24) rfl (fun cx58_ => ?_) (fun cx58_ => ?_)
      · have cx58_ : vx57_ = 0 := of_decide_eq_true cx58_
        refine sm_T_go 1 (c1 := (68, [some (.inr (.inr (some (13, 0)))), some (.inl m_)], [.inr (.inr (some (13, 0)))], sm_pI Sx1_ 13 0 25 vx6_)) rfl ?_
        refine sm_T_cal (d1 := 2) (Q1 := vq_297 b_ n_ T_ x4_ (sm_pI Sx1_ 13 0 25 vx6_)) rfl rfl (by decide) (vc_297 b_ n_ T_ x4_ (sm_pI Sx1_ 13 0 25 vx6_) hIx7_ (by exact t4_) (by first | exact hx4_) (by (first | (exfalso; omega) | (intro q_ e_; rw [hx4b] at e_; first | (cases e_; done) | (cases e_; rw [kk1_]; decide))))) (fun u_ Sx59_ px62_ => ?_)
        obtain ⟨rfl, hIx60_, hFx61_, px62_⟩ := px62_
        have hFx63_ : ai_fr (sx_W vw_306) S0_ Sx59_ := ai_fr_tr hFx8_ (fr_le hFx61_ rfl)
        have g68_ := px62_.1
        have n68_ := hFx61_.1 13 0 25 rfl
        refine sm_T_rv rfl ⟨_, _, rfl, rfl, hIx60_, hFx63_, ?_⟩
        first | (exfalso; omega) | (refine ⟨?_, fun p9_ r9_ hp9_ hr9_ => ?_⟩; (first | (rw [nww_]; rw [hx4b] at g68_; exact g68_) | (rw [hx9_, pb_r rfl, nwv_]; rw [hx4b] at g68_; exact g68_)); (first | (rw [hx9_] at hp9_; cases hp9_; first | (rw [nwv_] at hr9_; cases hr9_; done) | (rw [n68_]; exact rt_.1)) | (exfalso; rw [hp9_, pb_r rfl, hr9_] at nww_; cases nww_)))
      · have cx58_ : ¬ (vx57_ = 0) := of_decide_eq_false cx58_
        refine sm_T_go 3 (c1 := (51, [some (.inr (.inr (some (13, 0)))), some (.inl m_)], [.inl m_, .inr (.inr (some (126, 0)))], sm_pI Sx1_ 13 0 25 vx6_)) rfl ?_
        refine sm_T_iald (n := 16) rfl rfl (by omega) (by omega) ?_
        have bx64_ : 0 ≤ Sx1_.2.2.1 126 0 m_.toNat ∧ Sx1_.2.2.1 126 0 m_.toNat ≤ 40 := hIx2_.2 126 0 _
        refine sm_T_go 1 (c1 := (54, [some (.inr (.inr (some (13, 0)))), some (.inl m_)], [.inl 40, .inl (Sx1_.2.2.1 126 0 m_.toNat)], sm_pI Sx1_ 13 0 25 vx6_)) rfl ?_
        refine sm_T_br (a := 1) (z := 13) rfl (fun cx65_ => ?_) (fun cx65_ => ?_)
        · have cx65_ : (Sx1_.2.2.1 126 0 m_.toNat) ≠ 40 := of_decide_eq_true cx65_
          first | (rw [if_neg (by omega)] at nwv_) | skip
          refine sm_T_go 1 (c1 := (68, [some (.inr (.inr (some (13, 0)))), some (.inl m_)], [.inr (.inr (some (13, 0)))], sm_pI Sx1_ 13 0 25 vx6_)) rfl ?_
          refine sm_T_cal (d1 := 2) (Q1 := vq_297 b_ n_ T_ x4_ (sm_pI Sx1_ 13 0 25 vx6_)) rfl rfl (by decide) (vc_297 b_ n_ T_ x4_ (sm_pI Sx1_ 13 0 25 vx6_) hIx7_ (by exact t4_) (by first | exact hx4_) (by (first | (exfalso; omega) | (intro q_ e_; rw [hx4b] at e_; first | (cases e_; done) | (cases e_; rw [kk1_]; decide))))) (fun u_ Sx66_ px69_ => ?_)
          obtain ⟨rfl, hIx67_, hFx68_, px69_⟩ := px69_
          have hFx70_ : ai_fr (sx_W vw_306) S0_ Sx66_ := ai_fr_tr hFx8_ (fr_le hFx68_ rfl)
          have g68_ := px69_.1
          have n68_ := hFx68_.1 13 0 25 rfl
          refine sm_T_rv rfl ⟨_, _, rfl, rfl, hIx67_, hFx70_, ?_⟩
          first | (exfalso; omega) | (refine ⟨?_, fun p9_ r9_ hp9_ hr9_ => ?_⟩; (first | (rw [nww_]; rw [hx4b] at g68_; exact g68_) | (rw [hx9_, pb_r rfl, nwv_]; rw [hx4b] at g68_; exact g68_)); (first | (rw [hx9_] at hp9_; cases hp9_; first | (rw [nwv_] at hr9_; cases hr9_; done) | (rw [n68_]; exact rt_.1)) | (exfalso; rw [hp9_, pb_r rfl, hr9_] at nww_; cases nww_)))
        · have cx65_ : ¬ ((Sx1_.2.2.1 126 0 m_.toNat) ≠ 40) := of_decide_eq_false cx65_
          first | (rw [if_pos (by omega)] at nwv_) | skip
          refine sm_T_go 4 (c1 := (64, [some (.inr (.inr (some (13, 0)))), some (.inl m_)], [.inl vx6_, .inl 15, .inr (.inr (some (13, 0)))], sm_pI Sx1_ 13 0 25 vx6_)) rfl ?_
          refine sm_T_cal (d1 := 0) (Q1 := vq_293 15 vx6_ (sm_pI Sx1_ 13 0 25 vx6_)) rfl rfl (by decide) (vc_293 15 vx6_ (sm_pI Sx1_ 13 0 25 vx6_) hIx7_ (by decide) (by omega)) (fun u_ Sx71_ px74_ => ?_)
          obtain ⟨rfl, hIx72_, hFx73_, px74_⟩ := px74_
          have hFx75_ : ai_fr (sx_W vw_306) S0_ Sx71_ := ai_fr_tr hFx8_ (fr_le hFx73_ rfl)
          have t5_ := rtab_fr (S_ := (sm_pI Sx1_ 13 0 25 vx6_)) t4_ hFx73_ rfl rfl rfl rfl rfl
          have t4_ := t5_
          have g64_ : (∃ p_, x4_ = .inr p_) → True := fun _ => trivial
          first | (have g65_ : rg b_ n_ T_ (.inl (15, p_)) Sx71_ := (by rcases px74_ with z_ | z_; (exact absurd hz_ z_.1); (exact ⟨z_.2.1.trans (if_neg rt_.2.2), z_.2.2.trans rt_.2.1, by show (15 : Int) ≠ 0; decide⟩)); obtain ⟨x4_, hx4_, hx4b⟩ : ∃ x4_ : pE Nat, rg b_ n_ T_ x4_ Sx71_ ∧ x4_ = .inl (15, p_) := ⟨_, g65_, rfl⟩) | (obtain ⟨x4_, hx4_, hx4b⟩ : ∃ x4_ : pE Nat, rg b_ n_ T_ x4_ Sx71_ ∧ True := (by exfalso; omega))
          refine sm_T_go 1 (c1 := (68, [some (.inr (.inr (some (13, 0)))), some (.inl m_)], [.inr (.inr (some (13, 0)))], Sx71_)) rfl ?_
          refine sm_T_cal (d1 := 2) (Q1 := vq_297 b_ n_ T_ x4_ Sx71_) rfl rfl (by decide) (vc_297 b_ n_ T_ x4_ Sx71_ hIx72_ (by exact t4_) (by first | exact hx4_) (by (first | (exfalso; omega) | (intro q_ e_; rw [hx4b] at e_; first | (cases e_; done) | (cases e_; rw [kk1_]; decide))))) (fun u_ Sx76_ px79_ => ?_)
          obtain ⟨rfl, hIx77_, hFx78_, px79_⟩ := px79_
          have hFx80_ : ai_fr (sx_W vw_306) S0_ Sx76_ := ai_fr_tr hFx75_ (fr_le hFx78_ rfl)
          have g68_ := px79_.1
          have n68_ := hFx78_.1 13 0 25 rfl
          refine sm_T_rv rfl ⟨_, _, rfl, rfl, hIx77_, hFx80_, ?_⟩
          first | (exfalso; omega) | (refine ⟨?_, fun p9_ r9_ hp9_ hr9_ => ?_⟩; (first | (rw [nww_]; rw [hx4b] at g68_; exact g68_) | (rw [hx9_, pb_r rfl, nwv_]; rw [hx4b] at g68_; exact g68_)); (first | (rw [hx9_] at hp9_; cases hp9_; first | (rw [nwv_] at hr9_; cases hr9_; done) | (rw [n68_]; exact rt_.1)) | (exfalso; rw [hp9_, pb_r rfl, hr9_] at nww_; cases nww_)))
    · have cx51_ : ¬ (vx50_ = (-1)) := of_decide_eq_false cx51_
      rw [if_neg (by omega)] at nwv_
      refine sm_T_go 4 (c1 := (36, [some (.inr (.inr (some (13, 0)))), some (.inl m_)], [.inl vx6_, .inl 10, .inr (.inr (some (13, 0)))], sm_pI Sx1_ 13 0 25 vx6_)) rfl ?_
      refine sm_T_cal (d1 := 0) (Q1 := vq_293 10 vx6_ (sm_pI Sx1_ 13 0 25 vx6_)) rfl rfl (by decide) (vc_293 10 vx6_ (sm_pI Sx1_ 13 0 25 vx6_) hIx7_ (by decide) (by omega)) (fun u_ Sx81_ px84_ => ?_)
      obtain ⟨rfl, hIx82_, hFx83_, px84_⟩ := px84_
      have hFx85_ : ai_fr (sx_W vw_306) S0_ Sx81_ := ai_fr_tr hFx8_ (fr_le hFx83_ rfl)
      have g36_ : rg b_ n_ T_ (.inl (10, p_)) Sx81_ := by rcases px84_ with z_ | z_; (exact absurd hz_ z_.1); (exact ⟨z_.2.1.trans (if_neg rt_.2.2), z_.2.2.trans rt_.2.1, by show (10 : Int) ≠ 0; decide⟩)
      obtain ⟨x4_, hx4_, hx4b⟩ : ∃ x4_ : pE Nat, rg b_ n_ T_ x4_ Sx81_ ∧ x4_ = .inl (10, p_) := ⟨_, g36_, rfl⟩
      have t4_ := rtab_fr (S_ := (sm_pI Sx1_ 13 0 25 vx6_)) t3_ hFx83_ rfl rfl rfl rfl rfl
      refine sm_T_go 1 (c1 := (40, [some (.inr (.inr (some (13, 0)))), some (.inl m_)], [.inr (.inr (some (13, 0)))], Sx81_)) rfl ?_
      refine sm_T_cal (d1 := 0) (Q1 := vq_292  Sx81_) rfl rfl (by decide) (vc_292  Sx81_ hIx82_ ) (fun u_ Sx86_ px89_ => ?_)
      obtain ⟨rfl, vx91_, rfl, px89_⟩ := px89_
      have e40_ := px89_
      first | (have v41_ : vx91_ = 1 := e40_.trans (if_pos hz_)) | skip
      first | (have v40_ : vx91_ = 0 := (by rw [hx4b] at hx4_; rw [e40_, if_neg (fun z_ => hx4_.2.2 (hx4_.1.symm.trans z_))])) | skip
      refine sm_T_b0 (a := 0) (z := 24) rfl (fun cx92_ => ?_) (fun cx92_ => ?_)
      · have cx92_ : vx91_ = 0 := of_decide_eq_true cx92_
        refine sm_T_go 1 (c1 := (68, [some (.inr (.inr (some (13, 0)))), some (.inl m_)], [.inr (.inr (some (13, 0)))], Sx81_)) rfl ?_
        refine sm_T_cal (d1 := 2) (Q1 := vq_297 b_ n_ T_ x4_ Sx81_) rfl rfl (by decide) (vc_297 b_ n_ T_ x4_ Sx81_ hIx82_ (by exact t4_) (by first | exact hx4_) (by (first | (exfalso; omega) | (intro q_ e_; rw [hx4b] at e_; first | (cases e_; done) | (cases e_; rw [kk1_]; decide))))) (fun u_ Sx93_ px96_ => ?_)
        obtain ⟨rfl, hIx94_, hFx95_, px96_⟩ := px96_
        have hFx97_ : ai_fr (sx_W vw_306) S0_ Sx93_ := ai_fr_tr hFx85_ (fr_le hFx95_ rfl)
        have g68_ := px96_.1
        have n68_ := hFx95_.1 13 0 25 rfl
        refine sm_T_rv rfl ⟨_, _, rfl, rfl, hIx94_, hFx97_, ?_⟩
        first | (exfalso; omega) | (refine ⟨?_, fun p9_ r9_ hp9_ hr9_ => ?_⟩; (first | (rw [nww_]; rw [hx4b] at g68_; exact g68_) | (rw [hx9_, pb_r rfl, nwv_]; rw [hx4b] at g68_; exact g68_)); (first | (rw [hx9_] at hp9_; cases hp9_; first | (rw [nwv_] at hr9_; cases hr9_; done) | (rw [n68_]; exact rt_.1)) | (exfalso; rw [hp9_, pb_r rfl, hr9_] at nww_; cases nww_)))
      · have cx92_ : ¬ (vx91_ = 0) := of_decide_eq_false cx92_
        refine sm_T_go 3 (c1 := (51, [some (.inr (.inr (some (13, 0)))), some (.inl m_)], [.inl m_, .inr (.inr (some (126, 0)))], Sx81_)) rfl ?_
        refine sm_T_iald (n := 16) rfl rfl (by omega) (by omega) ?_
        have bx98_ : 0 ≤ Sx81_.2.2.1 126 0 m_.toNat ∧ Sx81_.2.2.1 126 0 m_.toNat ≤ 40 := hIx82_.2 126 0 _
        refine sm_T_go 1 (c1 := (54, [some (.inr (.inr (some (13, 0)))), some (.inl m_)], [.inl 40, .inl (Sx81_.2.2.1 126 0 m_.toNat)], Sx81_)) rfl ?_
        refine sm_T_br (a := 1) (z := 13) rfl (fun cx99_ => ?_) (fun cx99_ => ?_)
        · have cx99_ : (Sx81_.2.2.1 126 0 m_.toNat) ≠ 40 := of_decide_eq_true cx99_
          first | (rw [if_neg (by omega)] at nwv_) | skip
          refine sm_T_go 1 (c1 := (68, [some (.inr (.inr (some (13, 0)))), some (.inl m_)], [.inr (.inr (some (13, 0)))], Sx81_)) rfl ?_
          refine sm_T_cal (d1 := 2) (Q1 := vq_297 b_ n_ T_ x4_ Sx81_) rfl rfl (by decide) (vc_297 b_ n_ T_ x4_ Sx81_ hIx82_ (by exact t4_) (by first | exact hx4_) (by (first | (exfalso; omega) | (intro q_ e_; rw [hx4b] at e_; first | (cases e_; done) | (cases e_; rw [kk1_]; decide))))) (fun u_ Sx100_ px103_ => ?_)
          obtain ⟨rfl, hIx101_, hFx102_, px103_⟩ := px103_
          have hFx104_ : ai_fr (sx_W vw_306) S0_ Sx100_ := ai_fr_tr hFx85_ (fr_le hFx102_ rfl)
          have g68_ := px103_.1
          have n68_ := hFx102_.1 13 0 25 rfl
          refine sm_T_rv rfl ⟨_, _, rfl, rfl, hIx101_, hFx104_, ?_⟩
          first | (exfalso; omega) | (refine ⟨?_, fun p9_ r9_ hp9_ hr9_ => ?_⟩; (first | (rw [nww_]; rw [hx4b] at g68_; exact g68_) | (rw [hx9_, pb_r rfl, nwv_]; rw [hx4b] at g68_; exact g68_)); (first | (rw [hx9_] at hp9_; cases hp9_; first | (rw [nwv_] at hr9_; cases hr9_; done) | (rw [n68_]; exact rt_.1)) | (exfalso; rw [hp9_, pb_r rfl, hr9_] at nww_; cases nww_)))
        · have cx99_ : ¬ ((Sx81_.2.2.1 126 0 m_.toNat) ≠ 40) := of_decide_eq_false cx99_
          first | (rw [if_pos (by omega)] at nwv_) | skip
          have bx105_ : 0 ≤ Sx81_.1 13 0 25 ∧ Sx81_.1 13 0 25 ≤ 1280 := hIx82_.1 13 0 25 rfl
          refine sm_T_go 4 (c1 := (64, [some (.inr (.inr (some (13, 0)))), some (.inl m_)], [.inl (Sx81_.1 13 0 25), .inl 15, .inr (.inr (some (13, 0)))], Sx81_)) rfl ?_
          refine sm_T_cal (d1 := 0) (Q1 := vq_293 15 (Sx81_.1 13 0 25) Sx81_) rfl rfl (by decide) (vc_293 15 (Sx81_.1 13 0 25) Sx81_ hIx82_ (by decide) (by omega)) (fun u_ Sx106_ px109_ => ?_)
          obtain ⟨rfl, hIx107_, hFx108_, px109_⟩ := px109_
          have hFx110_ : ai_fr (sx_W vw_306) S0_ Sx106_ := ai_fr_tr hFx85_ (fr_le hFx108_ rfl)
          have ex111_ : Sx106_.1 13 0 25 = Sx81_.1 13 0 25 := hFx108_.1 13 0 25 rfl
          have t5_ := rtab_fr (S_ := Sx81_) t4_ hFx108_ rfl rfl rfl rfl rfl
          have t4_ := t5_
          have g64_ : (∃ p_, x4_ = .inr p_) → True := fun _ => trivial
          first | (have g65_ : rg b_ n_ T_ (.inl (15, p_)) Sx106_ := (by rcases px109_ with z_ | z_; (exact absurd hz_ z_.1); (exact ⟨z_.2.1.trans (if_neg rt_.2.2), z_.2.2.trans rt_.2.1, by show (15 : Int) ≠ 0; decide⟩)); obtain ⟨x4_, hx4_, hx4b⟩ : ∃ x4_ : pE Nat, rg b_ n_ T_ x4_ Sx106_ ∧ x4_ = .inl (15, p_) := ⟨_, g65_, rfl⟩) | (obtain ⟨x4_, hx4_, hx4b⟩ : ∃ x4_ : pE Nat, rg b_ n_ T_ x4_ Sx106_ ∧ True := (by exfalso; omega))
          refine sm_T_go 1 (c1 := (68, [some (.inr (.inr (some (13, 0)))), some (.inl m_)], [.inr (.inr (some (13, 0)))], Sx106_)) rfl ?_
          refine sm_T_cal (d1 := 2) (Q1 := vq_297 b_ n_ T_ x4_ Sx106_) rfl rfl (by decide) (vc_297 b_ n_ T_ x4_ Sx106_ hIx107_ (by exact t4_) (by first | exact hx4_) (by (first | (exfalso; omega) | (intro q_ e_; rw [hx4b] at e_; first | (cases e_; done) | (cases e_; rw [kk1_]; decide))))) (fun u_ Sx112_ px115_ => ?_)
          obtain ⟨rfl, hIx113_, hFx114_, px115_⟩ := px115_
          have hFx116_ : ai_fr (sx_W vw_306) S0_ Sx112_ := ai_fr_tr hFx110_ (fr_le hFx114_ rfl)
          have g68_ := px115_.1
          have n68_ := hFx114_.1 13 0 25 rfl
          refine sm_T_rv rfl ⟨_, _, rfl, rfl, hIx113_, hFx116_, ?_⟩
          first | (exfalso; omega) | (refine ⟨?_, fun p9_ r9_ hp9_ hr9_ => ?_⟩; (first | (rw [nww_]; rw [hx4b] at g68_; exact g68_) | (rw [hx9_, pb_r rfl, nwv_]; rw [hx4b] at g68_; exact g68_)); (first | (rw [hx9_] at hp9_; cases hp9_; first | (rw [nwv_] at hr9_; cases hr9_; done) | (rw [n68_]; exact rt_.1)) | (exfalso; rw [hp9_, pb_r rfl, hr9_] at nww_; cases nww_)))
end
/-! 99.yga -/
section
/-! the reference: widths; written by wip/p55/gen/vg -/

/-! widths -/
theorem wi_w {b_ : Nat → Int} {n_ p_ : Nat} {e_ : Int × Nat} (hk_ : lx_kd b_ n_ p_ = 58) (h_ : pb (p_ad b_ n_ p_) (p_du b_ n_ 2) = .inl e_) : p_wi b_ n_ p_ = .inl e_ := by
  unfold p_wi
  rw [if_pos hk_]
  cases h1_ : p_ad b_ n_ p_ with
  | inl z_ => rw [h1_] at h_; cases h_; rfl
  | inr q_ =>
    rw [h1_, pb_r rfl] at h_
    rw [pb_r rfl]
    unfold p_du at h_
    unfold p_nu
    split at h_
    · cases h_
    · rename_i g_
      cases h_
      rw [if_neg g_]
      rfl
theorem wi_r {b_ : Nat → Int} {n_ p_ q_ : Nat} (hk_ : lx_kd b_ n_ p_ = 58) (h_ : pb (p_ad b_ n_ p_) (p_du b_ n_ 2) = .inr q_) : lx_kd b_ n_ q_ = 2 ∧ p_wi b_ n_ p_ = if lx_vl b_ n_ q_ < 1 ∨ 8 < lx_vl b_ n_ q_ then .inl (12, q_) else pb (p_ad b_ n_ q_) fun r_ => .inr (r_, lx_vl b_ n_ q_) := by
  obtain ⟨r_, h1_, h2_⟩ := pb_inr h_
  unfold p_du at h2_
  split at h2_
  · rename_i g_
    cases h2_
    refine ⟨g_, ?_⟩
    unfold p_wi
    rw [if_pos hk_, pb_r h1_]
    unfold p_nu
    rw [if_pos g_]
    split <;> rfl
  · cases h2_
def p_w1 (b_ : Nat → Int) (n_ p_ : Nat) : pE Nat := pb (p_wi b_ n_ p_) fun u_ => .inr u_.1
end
/-! 99.ygb -/
section
/-! M_.width -/
def vw_307 : sx_Wl := ([(13, 9), (13, 10), (13, 11), (13, 26)], [], [])
def vq_307 (b_ : Nat → Int) (n_ : Nat) (T_ : Nat) (x_ : pE Nat) (S0_ : sm_S) (u_ : Option sm_V) (S1_ : sm_S) : Prop := u_ = none ∧ gi S1_ ∧ ai_fr (sx_W vw_307) S0_ S1_ ∧ (rg b_ n_ T_ (pb x_ (p_w1 b_ n_)) S1_ ∧ ∀ p_ u_, x_ = .inr p_ → p_wi b_ n_ p_ = .inr u_ → (S1_.1 13 0 26) = u_.2)
set_option maxHeartbeats 1500000 in
theorem vc_307 {sc_ : Nat × (Nat → Int)} (b_ : Nat → Int) (n_ : Nat) (T_ : Nat) (x_ : pE Nat) (S0_ : sm_S) (hI_ : gi S0_) (ht_ : rtab b_ n_ T_ S0_) (hx_ : rg b_ n_ T_ x_ S0_) : sm_T (mt_P sc_) 3 307 (0, [some (.inr (.inr (some (13, 0)))), none], [], S0_) (fun r_ => ∃ u_ S1_, r_ = (.inl u_, S1_, 0) ∧ vq_307 b_ n_ T_ x_ S0_ u_ S1_) := by
  have hF_ : ai_fr (sx_W vw_307) S0_ S0_ := ai_fr_rf
  have hIx1_ : gi (sm_pI S0_ 13 0 26 1) := gi_pI hI_ (show (-2147483648) ≤ 1 ∧ 1 ≤ 2147483647 from ⟨by omega, by omega⟩)
  have hFx2_ : ai_fr (sx_W vw_307) S0_ (sm_pI S0_ 13 0 26 1) := ai_fr_tr hF_ (ai_fr_pI rfl)
  refine sm_T_go 4 (c1 := (6, [some (.inr (.inr (some (13, 0)))), none], [.inr (.inr (some (13, 0)))], sm_pI S0_ 13 0 26 1)) rfl ?_
  refine sm_T_cal (d1 := 0) (Q1 := vq_292  (sm_pI S0_ 13 0 26 1)) rfl rfl (by decide) (vc_292  (sm_pI S0_ 13 0 26 1) hIx1_ ) (fun u_ Sx3_ px6_ => ?_)
  obtain ⟨rfl, vx8_, rfl, px6_⟩ := px6_
  have e6_ := px6_
  refine sm_T_b0 (a := 0) (z := 63) rfl (fun cx9_ => ?_) (fun cx9_ => ?_)
  · have cx9_ : vx8_ = 0 := of_decide_eq_true cx9_
    obtain ⟨e0_, rfl⟩ := rg_w hx_ (wr_if e6_ (by omega))
    refine sm_T_rv rfl ⟨_, _, rfl, rfl, hIx1_, hFx2_, ?_⟩
    first | (exact ⟨hx_, fun p9_ u9_ hp9_ _ => by cases hp9_⟩) | (have hp_ : p_wi b_ n_ p_ = .inr (p_, 1) := if_neg n58_; refine ⟨?_, fun p9_ u9_ hp9_ hu9_ => ?_⟩; (rw [pb_r rfl]; unfold p_w1; rw [hp_]; exact hx_); (cases hp9_; rw [hp_] at hu9_; cases hu9_; rfl)) | (refine ⟨?_, fun p9_ u9_ hp9_ hu9_ => ?_⟩; (rw [pb_r rfl]; unfold p_w1; first | (rw [cw3_]; rw [hx4b] at g68_; exact g68_) | (rw [crv_]; rw [hx4b] at g68_; first | exact g68_ | (rw [pb_r rfl] at g68_; cases hq9_ : p_ad b_ n_ q_ with | inl e_ => (rw [hq9_] at g68_; exact g68_) | inr r_ => (rw [hq9_] at g68_; exact g68_)))); (cases hp9_; first | (rw [cw3_] at hu9_; cases hu9_; done) | (rw [crv_] at hu9_; first | (cases hu9_; done) | (obtain ⟨r9_, z1_, z2_⟩ := pb_inr hu9_; cases z2_; rw [n68_]; exact nv_.1))))
  · have cx9_ : ¬ (vx8_ = 0) := of_decide_eq_false cx9_
    have hz_ := rt_if e6_ (by omega)
    obtain ⟨p_, i_, rfl, e1_, e2_⟩ := rg_r hx_ hz_
    refine sm_T_go 2 (c1 := (15, [some (.inr (.inr (some (13, 0)))), none], [.inl 58, .inr (.inr (some (13, 0)))], sm_pI S0_ 13 0 26 1)) rfl ?_
    refine sm_T_cal (d1 := 0) (Q1 := vq_295 58 b_ n_ T_ (.inr p_) (sm_pI S0_ 13 0 26 1)) rfl rfl (by decide) (vc_295 58 b_ n_ T_ (.inr p_) (sm_pI S0_ 13 0 26 1) hIx1_ (by exact ht_) (by exact hx_) (by decide)) (fun u_ Sx10_ px13_ => ?_)
    obtain ⟨rfl, vx15_, rfl, px13_⟩ := px13_
    have e15_ := px13_.2 p_ rfl
    have r15_ := px13_.1.1
    refine sm_T_b0 (a := 0) (z := 54) rfl (fun cx16_ => ?_) (fun cx16_ => ?_)
    · have cx16_ : vx15_ = 0 := of_decide_eq_true cx16_
      have n58_ : lx_kd b_ n_ p_ ≠ 58 := fun z_ => by have := e15_.mpr z_; omega
      refine sm_T_rv rfl ⟨_, _, rfl, rfl, hIx1_, hFx2_, ?_⟩
      first | (exact ⟨hx_, fun p9_ u9_ hp9_ _ => by cases hp9_⟩) | (have hp_ : p_wi b_ n_ p_ = .inr (p_, 1) := if_neg n58_; refine ⟨?_, fun p9_ u9_ hp9_ hu9_ => ?_⟩; (rw [pb_r rfl]; unfold p_w1; rw [hp_]; exact hx_); (cases hp9_; rw [hp_] at hu9_; cases hu9_; rfl)) | (refine ⟨?_, fun p9_ u9_ hp9_ hu9_ => ?_⟩; (rw [pb_r rfl]; unfold p_w1; first | (rw [cw3_]; rw [hx4b] at g68_; exact g68_) | (rw [crv_]; rw [hx4b] at g68_; first | exact g68_ | (rw [pb_r rfl] at g68_; cases hq9_ : p_ad b_ n_ q_ with | inl e_ => (rw [hq9_] at g68_; exact g68_) | inr r_ => (rw [hq9_] at g68_; exact g68_)))); (cases hp9_; first | (rw [cw3_] at hu9_; cases hu9_; done) | (rw [crv_] at hu9_; first | (cases hu9_; done) | (obtain ⟨r9_, z1_, z2_⟩ := pb_inr hu9_; cases z2_; rw [n68_]; exact nv_.1))))
    · have cx16_ : ¬ (vx15_ = 0) := of_decide_eq_false cx16_
      have k58_ : lx_kd b_ n_ p_ = 58 := e15_.mp (by omega)
      refine sm_T_go 1 (c1 := (22, [some (.inr (.inr (some (13, 0)))), none], [.inr (.inr (some (13, 0)))], sm_pI S0_ 13 0 26 1)) rfl ?_
      refine sm_T_cal (d1 := 2) (Q1 := vq_297 b_ n_ T_ (.inr p_) (sm_pI S0_ 13 0 26 1)) rfl rfl (by decide) (vc_297 b_ n_ T_ (.inr p_) (sm_pI S0_ 13 0 26 1) hIx1_ (by exact ht_) (by exact hx_) (by (intro q_ e_; cases e_; omega))) (fun u_ Sx17_ px20_ => ?_)
      obtain ⟨rfl, hIx18_, hFx19_, px20_⟩ := px20_
      have hFx21_ : ai_fr (sx_W vw_307) S0_ Sx17_ := ai_fr_tr hFx2_ (fr_le hFx19_ rfl)
      have g22_ := px20_.1
      rw [pb_r rfl] at g22_
      have t22_ := rtab_fr (S_ := (sm_pI S0_ 13 0 26 1)) ht_ hFx19_ rfl rfl rfl rfl rfl
      refine sm_T_go 2 (c1 := (27, [some (.inr (.inr (some (13, 0)))), none], [.inl 2, .inr (.inr (some (13, 0)))], Sx17_)) rfl ?_
      refine sm_T_cal (d1 := 1) (Q1 := vq_299 2 b_ n_ T_ (p_ad b_ n_ p_) Sx17_) rfl rfl (by decide) (vc_299 2 b_ n_ T_ (p_ad b_ n_ p_) Sx17_ hIx18_ (by exact t22_) (by exact g22_) (by decide)) (fun u_ Sx22_ px25_ => ?_)
      obtain ⟨vx27_, rfl, hIx23_, hFx24_, px25_⟩ := px25_
      have hFx26_ : ai_fr (sx_W vw_307) S0_ Sx22_ := ai_fr_tr hFx21_ (fr_le hFx24_ rfl)
      have a3_ := px25_.1
      have g3_ := px25_.2
      have t3_ := rtab_fr t22_ hFx24_ rfl rfl rfl rfl rfl
      have at3_ := hFx24_.1 13 0 9 rfl
      have v3b : 0 ≤ vx27_ ∧ vx27_ ≤ 1280 := by rw [a3_, ← at3_]; exact hIx23_.1 13 0 9 rfl
      have nv17_ : ∀ r_ i3_ : Nat, Sx22_.1 13 0 9 = (i3_ : Int) → rp b_ n_ T_ i3_ r_ → lx_kd b_ n_ r_ = 2 → Sx22_.2.2.1 121 0 vx27_.toNat = lx_vl b_ n_ r_ ∧ Sx22_.2.2.1 120 0 vx27_.toNat = (r_ : Int) ∧ Sx22_.2.2.1 119 0 vx27_.toNat ≠ 4 := by intro r_ i3_ q1_ q2_ q3_; have q4_ := rp_at t3_ q2_; rw [show vx27_.toNat = i3_ by omega, q4_.1, q4_.2.1, q4_.2.2.1, q3_]; exact ⟨rfl, rfl, by decide⟩
      refine sm_T_go 5 (c1 := (37, [some (.inr (.inr (some (13, 0)))), some (.inl vx27_)], [.inl vx27_, .inr (.inr (some (121, 0))), .inr (.inr (some (13, 0)))], Sx22_)) rfl ?_
      refine sm_T_iald (n := 65537) rfl rfl (by omega) (by omega) ?_
      have bx28_ : (-2147483648) ≤ Sx22_.2.2.1 121 0 vx27_.toNat ∧ Sx22_.2.2.1 121 0 vx27_.toNat ≤ 2147483647 := hIx23_.2 121 0 _
      have hIx29_ : gi (sm_pI Sx22_ 13 0 26 (Sx22_.2.2.1 121 0 vx27_.toNat)) := gi_pI hIx23_ (show (-2147483648) ≤ (Sx22_.2.2.1 121 0 vx27_.toNat) ∧ (Sx22_.2.2.1 121 0 vx27_.toNat) ≤ 2147483647 from ⟨by omega, by omega⟩)
      have hFx30_ : ai_fr (sx_W vw_307) S0_ (sm_pI Sx22_ 13 0 26 (Sx22_.2.2.1 121 0 vx27_.toNat)) := ai_fr_tr hFx26_ (ai_fr_pI rfl)
      refine sm_T_go 2 (c1 := (42, [some (.inr (.inr (some (13, 0)))), some (.inl vx27_)], [.inr (.inr (some (13, 0)))], sm_pI Sx22_ 13 0 26 (Sx22_.2.2.1 121 0 vx27_.toNat))) rfl ?_
      refine sm_T_cal (d1 := 0) (Q1 := vq_292  (sm_pI Sx22_ 13 0 26 (Sx22_.2.2.1 121 0 vx27_.toNat))) rfl rfl (by decide) (vc_292  (sm_pI Sx22_ 13 0 26 (Sx22_.2.2.1 121 0 vx27_.toNat)) hIx29_ ) (fun u_ Sx31_ px34_ => ?_)
      obtain ⟨rfl, vx36_, rfl, px34_⟩ := px34_
      have e42_ := px34_
      refine sm_T_b0 (a := 0) (z := 23) rfl (fun cx37_ => ?_) (fun cx37_ => ?_)
      · have cx37_ : vx36_ = 0 := of_decide_eq_true cx37_
        obtain ⟨e3_, he3_⟩ := rg_w g3_ (wr_if e42_ (by omega))
        have cw3_ := wi_w k58_ he3_
        rw [he3_] at g3_
        obtain ⟨x4_, hx4_, hx4b⟩ : ∃ x4_ : pE Nat, rg b_ n_ T_ x4_ _ ∧ x4_ = .inl e3_ := ⟨_, g3_, rfl⟩
        have t4_ := t3_
        refine sm_T_go 1 (c1 := (69, [some (.inr (.inr (some (13, 0)))), some (.inl vx27_)], [.inr (.inr (some (13, 0)))], sm_pI Sx22_ 13 0 26 (Sx22_.2.2.1 121 0 vx27_.toNat))) rfl ?_
        refine sm_T_cal (d1 := 2) (Q1 := vq_297 b_ n_ T_ x4_ (sm_pI Sx22_ 13 0 26 (Sx22_.2.2.1 121 0 vx27_.toNat))) rfl rfl (by decide) (vc_297 b_ n_ T_ x4_ (sm_pI Sx22_ 13 0 26 (Sx22_.2.2.1 121 0 vx27_.toNat)) hIx29_ (by exact t4_) (by exact hx4_) (by (intro z_ e_; rw [hx4b] at e_; first | (cases e_; done) | (cases e_; rw [cr.1]; decide)))) (fun u_ Sx38_ px41_ => ?_)
        obtain ⟨rfl, hIx39_, hFx40_, px41_⟩ := px41_
        have hFx42_ : ai_fr (sx_W vw_307) S0_ Sx38_ := ai_fr_tr hFx30_ (fr_le hFx40_ rfl)
        have g68_ := px41_.1
        have n68_ := hFx40_.1 13 0 26 rfl
        refine sm_T_rv rfl ⟨_, _, rfl, rfl, hIx39_, hFx42_, ?_⟩
        first | (exact ⟨hx_, fun p9_ u9_ hp9_ _ => by cases hp9_⟩) | (have hp_ : p_wi b_ n_ p_ = .inr (p_, 1) := if_neg n58_; refine ⟨?_, fun p9_ u9_ hp9_ hu9_ => ?_⟩; (rw [pb_r rfl]; unfold p_w1; rw [hp_]; exact hx_); (cases hp9_; rw [hp_] at hu9_; cases hu9_; rfl)) | (refine ⟨?_, fun p9_ u9_ hp9_ hu9_ => ?_⟩; (rw [pb_r rfl]; unfold p_w1; first | (rw [cw3_]; rw [hx4b] at g68_; exact g68_) | (rw [crv_]; rw [hx4b] at g68_; first | exact g68_ | (rw [pb_r rfl] at g68_; cases hq9_ : p_ad b_ n_ q_ with | inl e_ => (rw [hq9_] at g68_; exact g68_) | inr r_ => (rw [hq9_] at g68_; exact g68_)))); (cases hp9_; first | (rw [cw3_] at hu9_; cases hu9_; done) | (rw [crv_] at hu9_; first | (cases hu9_; done) | (obtain ⟨r9_, z1_, z2_⟩ := pb_inr hu9_; cases z2_; rw [n68_]; exact nv_.1))))
      · have cx37_ : ¬ (vx36_ = 0) := of_decide_eq_false cx37_
        have hz4_ := rt_if e42_ (by omega)
        obtain ⟨q_, i3_, hq3_, e31_, e32_⟩ := rg_r g3_ hz4_
        have cr := wi_r k58_ hq3_
        have nv_ := nv17_ q_ i3_ e31_ e32_ cr.1
        refine sm_T_go 4 (c1 := (55, [some (.inr (.inr (some (13, 0)))), some (.inl vx27_)], [.inl 8, .inl 1, .inl (Sx22_.2.2.1 121 0 vx27_.toNat)], sm_pI Sx22_ 13 0 26 (Sx22_.2.2.1 121 0 vx27_.toNat))) rfl ?_
        refine sm_T_cal (d1 := 0) (Q1 := vq_278 (Sx22_.2.2.1 121 0 vx27_.toNat) 1 8 (sm_pI Sx22_ 13 0 26 (Sx22_.2.2.1 121 0 vx27_.toNat))) rfl rfl (by decide) (vc_278 (Sx22_.2.2.1 121 0 vx27_.toNat) 1 8 (sm_pI Sx22_ 13 0 26 (Sx22_.2.2.1 121 0 vx27_.toNat)) hIx29_ ) (fun u_ Sx43_ px46_ => ?_)
        obtain ⟨rfl, vx48_, rfl, px46_⟩ := px46_
        have e55_ := px46_
        refine sm_T_b0 (a := 1) (z := 10) rfl (fun cx49_ => ?_) (fun cx49_ => ?_)
        · have cx49_ : vx48_ ≠ 0 := of_decide_eq_true cx49_
          have hin_ : 1 ≤ lx_vl b_ n_ q_ ∧ lx_vl b_ n_ q_ ≤ 8 := by have := e55_.2.mp (by omega); omega
          rw [hq3_] at g3_
          obtain ⟨x4_, hx4_, hx4b⟩ : ∃ x4_ : pE Nat, rg b_ n_ T_ x4_ _ ∧ x4_ = .inr q_ := ⟨_, g3_, rfl⟩
          have t4_ := t3_
          have crv_ := cr.2
          rw [if_neg (by omega)] at crv_
          refine sm_T_go 1 (c1 := (69, [some (.inr (.inr (some (13, 0)))), some (.inl vx27_)], [.inr (.inr (some (13, 0)))], sm_pI Sx22_ 13 0 26 (Sx22_.2.2.1 121 0 vx27_.toNat))) rfl ?_
          refine sm_T_cal (d1 := 2) (Q1 := vq_297 b_ n_ T_ x4_ (sm_pI Sx22_ 13 0 26 (Sx22_.2.2.1 121 0 vx27_.toNat))) rfl rfl (by decide) (vc_297 b_ n_ T_ x4_ (sm_pI Sx22_ 13 0 26 (Sx22_.2.2.1 121 0 vx27_.toNat)) hIx29_ (by exact t4_) (by exact hx4_) (by (intro z_ e_; rw [hx4b] at e_; first | (cases e_; done) | (cases e_; rw [cr.1]; decide)))) (fun u_ Sx50_ px53_ => ?_)
          obtain ⟨rfl, hIx51_, hFx52_, px53_⟩ := px53_
          have hFx54_ : ai_fr (sx_W vw_307) S0_ Sx50_ := ai_fr_tr hFx30_ (fr_le hFx52_ rfl)
          have g68_ := px53_.1
          have n68_ := hFx52_.1 13 0 26 rfl
          refine sm_T_rv rfl ⟨_, _, rfl, rfl, hIx51_, hFx54_, ?_⟩
          first | (exact ⟨hx_, fun p9_ u9_ hp9_ _ => by cases hp9_⟩) | (have hp_ : p_wi b_ n_ p_ = .inr (p_, 1) := if_neg n58_; refine ⟨?_, fun p9_ u9_ hp9_ hu9_ => ?_⟩; (rw [pb_r rfl]; unfold p_w1; rw [hp_]; exact hx_); (cases hp9_; rw [hp_] at hu9_; cases hu9_; rfl)) | (refine ⟨?_, fun p9_ u9_ hp9_ hu9_ => ?_⟩; (rw [pb_r rfl]; unfold p_w1; first | (rw [cw3_]; rw [hx4b] at g68_; exact g68_) | (rw [crv_]; rw [hx4b] at g68_; first | exact g68_ | (rw [pb_r rfl] at g68_; cases hq9_ : p_ad b_ n_ q_ with | inl e_ => (rw [hq9_] at g68_; exact g68_) | inr r_ => (rw [hq9_] at g68_; exact g68_)))); (cases hp9_; first | (rw [cw3_] at hu9_; cases hu9_; done) | (rw [crv_] at hu9_; first | (cases hu9_; done) | (obtain ⟨r9_, z1_, z2_⟩ := pb_inr hu9_; cases z2_; rw [n68_]; exact nv_.1))))
        · have cx49_ : ¬ (vx48_ ≠ 0) := of_decide_eq_false cx49_
          have hin_ : lx_vl b_ n_ q_ < 1 ∨ 8 < lx_vl b_ n_ q_ := by have e39_ := e55_.2; by_cases z_ : 1 ≤ lx_vl b_ n_ q_ ∧ lx_vl b_ n_ q_ ≤ 8; (have := e39_.mpr (by omega); omega); omega
          have crv_ := cr.2
          rw [if_pos hin_] at crv_
          refine sm_T_go 3 (c1 := (65, [some (.inr (.inr (some (13, 0)))), some (.inl vx27_)], [.inl vx27_, .inl 12, .inr (.inr (some (13, 0)))], sm_pI Sx22_ 13 0 26 (Sx22_.2.2.1 121 0 vx27_.toNat))) rfl ?_
          refine sm_T_cal (d1 := 0) (Q1 := vq_293 12 vx27_ (sm_pI Sx22_ 13 0 26 (Sx22_.2.2.1 121 0 vx27_.toNat))) rfl rfl (by decide) (vc_293 12 vx27_ (sm_pI Sx22_ 13 0 26 (Sx22_.2.2.1 121 0 vx27_.toNat)) hIx29_ (by decide) (by omega)) (fun u_ Sx55_ px58_ => ?_)
          obtain ⟨rfl, hIx56_, hFx57_, px58_⟩ := px58_
          have hFx59_ : ai_fr (sx_W vw_307) S0_ Sx55_ := ai_fr_tr hFx30_ (fr_le hFx57_ rfl)
          have g36_ : rg b_ n_ T_ (.inl (12, q_)) Sx55_ := by rcases px58_ with z_ | z_; (exact absurd hz4_ z_.1); (exact ⟨z_.2.1.trans (if_neg nv_.2.2), z_.2.2.trans nv_.2.1, by show (12 : Int) ≠ 0; decide⟩)
          obtain ⟨x4_, hx4_, hx4b⟩ : ∃ x4_ : pE Nat, rg b_ n_ T_ x4_ Sx55_ ∧ x4_ = .inl (12, q_) := ⟨_, g36_, rfl⟩
          have t4_ := rtab_fr (S_ := (sm_pI Sx22_ 13 0 26 (Sx22_.2.2.1 121 0 vx27_.toNat))) t3_ hFx57_ rfl rfl rfl rfl rfl
          refine sm_T_go 1 (c1 := (69, [some (.inr (.inr (some (13, 0)))), some (.inl vx27_)], [.inr (.inr (some (13, 0)))], Sx55_)) rfl ?_
          refine sm_T_cal (d1 := 2) (Q1 := vq_297 b_ n_ T_ x4_ Sx55_) rfl rfl (by decide) (vc_297 b_ n_ T_ x4_ Sx55_ hIx56_ (by exact t4_) (by exact hx4_) (by (intro z_ e_; rw [hx4b] at e_; first | (cases e_; done) | (cases e_; rw [cr.1]; decide)))) (fun u_ Sx60_ px63_ => ?_)
          obtain ⟨rfl, hIx61_, hFx62_, px63_⟩ := px63_
          have hFx64_ : ai_fr (sx_W vw_307) S0_ Sx60_ := ai_fr_tr hFx59_ (fr_le hFx62_ rfl)
          have g68_ := px63_.1
          have n68_ := hFx62_.1 13 0 26 rfl
          refine sm_T_rv rfl ⟨_, _, rfl, rfl, hIx61_, hFx64_, ?_⟩
          first | (exact ⟨hx_, fun p9_ u9_ hp9_ _ => by cases hp9_⟩) | (have hp_ : p_wi b_ n_ p_ = .inr (p_, 1) := if_neg n58_; refine ⟨?_, fun p9_ u9_ hp9_ hu9_ => ?_⟩; (rw [pb_r rfl]; unfold p_w1; rw [hp_]; exact hx_); (cases hp9_; rw [hp_] at hu9_; cases hu9_; rfl)) | (refine ⟨?_, fun p9_ u9_ hp9_ hu9_ => ?_⟩; (rw [pb_r rfl]; unfold p_w1; first | (rw [cw3_]; rw [hx4b] at g68_; exact g68_) | (rw [crv_]; rw [hx4b] at g68_; first | exact g68_ | (rw [pb_r rfl] at g68_; cases hq9_ : p_ad b_ n_ q_ with | inl e_ => (rw [hq9_] at g68_; exact g68_) | inr r_ => (rw [hq9_] at g68_; exact g68_)))); (cases hp9_; first | (rw [cw3_] at hu9_; cases hu9_; done) | (rw [crv_] at hu9_; first | (cases hu9_; done) | (obtain ⟨r9_, z1_, z2_⟩ := pb_inr hu9_; cases z2_; rw [n68_]; exact nv_.1))))
end
/-! 99.yha -/
section
/-! the reference: how many of a sort; written by wip/p55/gen/vg -/

/-! how_ many of_ a_ sort -/
def p_cn (g_ : Nat → Bool) : Nat → Nat
  | 0 => 0
  | k_ + 1 => p_cn g_ k_ + if g_ k_ = true then 1 else 0
theorem p_cn_b {g_ : Nat → Bool} : ∀ k_, p_cn g_ k_ ≤ k_
  | 0 => Nat.le_refl _
  | k_ + 1 => by
    have := p_cn_b (g_ := g_) k_
    unfold p_cn
    split <;> omega
/-! M_.manyOf -/
def vw_305 : sx_Wl := ([], [], [])
def vq_305 (m_ : Int) (so_ : Int) (b_ : Nat → Int) (n_ : Nat) (T_ : Nat) (A_ : pA) (mm_ : Nat) (S0_ : sm_S) (u_ : Option sm_V) (S1_ : sm_S) : Prop := S0_ = S1_ ∧ ∃ v_ : Int, u_ = some (.inl v_) ∧ (v_ = (p_cn (fun s_ => decide (r_s2 (A_.2.2.1 (40 * mm_ + s_)) = so_)) (A_.1 mm_) : Nat))
set_option maxHeartbeats 400000 in
theorem vl_305 {sc_ : Nat × (Nat → Int)} (m_ : Int) (so_ : Int) (b_ : Nat → Int) (n_ : Nat) (T_ : Nat) (A_ : pA) (mm_ : Nat) (S0_ : sm_S) (hmm_ : m_ = (mm_ : Int) ∧ mm_ ≤ 15) (hr_ : re1 b_ n_ T_ A_ mm_ S0_) (hA_ : A_.1 mm_ ≤ 40) : ∀ nn_ : Nat, (∀ (c_ : Int) (k_ : Int) (S_ : sm_S), gi S_ → ai_fr (sx_W vw_305) S0_ S_ → ((0 ≤ k_ ∧ k_ ≤ (A_.1 mm_ : Int)) ∧ (c_ = (p_cn (fun s_ => decide (r_s2 (A_.2.2.1 (40 * mm_ + s_)) = so_)) k_.toNat : Nat)) ∧ (S_ = S0_) ∧ True) → (((A_.1 mm_ : Int) - k_).toNat) < nn_ → sm_T (mt_P sc_) 0 305 (5, [some (.inr (.inr (some (13, 0)))), some (.inl m_), some (.inl so_), some (.inl c_), some (.inl k_)], [], S_) (fun r_ => ∃ u_ S1_, r_ = (.inl u_, S1_, 0) ∧ vq_305 m_ so_ b_ n_ T_ A_ mm_ S0_ u_ S1_)) := by
  intro nn_
  induction nn_ with
  | zero => exact fun _ _ _ _ _ _ h_ => absurd h_ (Nat.not_lt_zero _)
  | succ nn_ ih_ =>
    rintro c_ k_ S_ hI_ hF_ ⟨h0_, h1_, hS_, -⟩ hm_
    have hK_ : S_.2.2.1 126 0 m_.toNat = (A_.1 mm_ : Int) := by rw [hS_, show m_.toNat = mm_ by omega]; exact hr_.1
    have cb_ := p_cn_b (g_ := fun s_ => decide (r_s2 (A_.2.2.1 (40 * mm_ + s_)) = so_)) k_.toNat
    have sv_ : k_ < (A_.1 mm_ : Int) → S_.2.2.1 128 0 (40 * m_ + k_).toNat = r_s2 (A_.2.2.1 (40 * mm_ + k_.toNat)) := by intro z_; rw [hS_, show (40 * m_ + k_).toNat = 40 * mm_ + k_.toNat by omega]; exact (hr_.2 k_.toNat (by omega)).2.1
    refine sm_T_go 4 (c1 := (12, [some (.inr (.inr (some (13, 0)))), some (.inl m_), some (.inl so_), some (.inl c_), some (.inl k_)], [.inl m_, .inr (.inr (some (126, 0))), .inl k_], S_)) rfl ?_
    refine sm_T_iald (n := 16) rfl rfl (by omega) (by omega) ?_
    have bx1_ : 0 ≤ S_.2.2.1 126 0 m_.toNat ∧ S_.2.2.1 126 0 m_.toNat ≤ 40 := hI_.2 126 0 _
    refine sm_T_br (a := 3) (z := 33) rfl (fun cx2_ => ?_) (fun cx2_ => ?_)
    · have cx2_ : (S_.2.2.1 126 0 m_.toNat) ≤ k_ := of_decide_eq_true cx2_
      refine sm_T_go 1 (c1 := (47, [some (.inr (.inr (some (13, 0)))), some (.inl m_), some (.inl so_), some (.inl c_), some (.inl k_)], [.inl c_], S_)) rfl ?_
      refine sm_T_ri rfl ⟨_, _, rfl, (by first | rfl | exact hS_.symm), _, rfl, ?_⟩
      rw [show A_.1 mm_ = k_.toNat by omega]
      exact h1_
    · have cx2_ : ¬ ((S_.2.2.1 126 0 m_.toNat) ≤ k_) := of_decide_eq_false cx2_
      refine sm_T_go 5 (c1 := (24, [some (.inr (.inr (some (13, 0)))), some (.inl m_), some (.inl so_), some (.inl c_), some (.inl k_)], [.inl m_, .inl 40, .inr (.inr (some (128, 0))), .inl c_], S_)) rfl ?_
      refine sm_T_bin (w := 40 * m_) rfl (bi_mul (by omega) (by omega) (by omega)) ?_
      refine sm_T_go 1 (c1 := (27, [some (.inr (.inr (some (13, 0)))), some (.inl m_), some (.inl so_), some (.inl c_), some (.inl k_)], [.inl k_, .inl (40 * m_), .inr (.inr (some (128, 0))), .inl c_], S_)) rfl ?_
      refine sm_T_bin (w := 40 * m_ + k_) rfl (bi_add (by omega) (by omega) (by omega)) ?_
      refine sm_T_iald (n := 640) rfl rfl (by omega) (by omega) ?_
      have bx3_ : 0 ≤ S_.2.2.1 128 0 (40 * m_ + k_).toNat ∧ S_.2.2.1 128 0 (40 * m_ + k_).toNat ≤ 5 := hI_.2 128 0 _
      refine sm_T_go 1 (c1 := (30, [some (.inr (.inr (some (13, 0)))), some (.inl m_), some (.inl so_), some (.inl c_), some (.inl k_)], [.inl so_, .inl (S_.2.2.1 128 0 (40 * m_ + k_).toNat), .inl c_], S_)) rfl ?_
      refine sm_T_br (a := 1) (z := 7) rfl (fun cx4_ => ?_) (fun cx4_ => ?_)
      · have cx4_ : (S_.2.2.1 128 0 (40 * m_ + k_).toNat) ≠ so_ := of_decide_eq_true cx4_
        refine sm_T_go 1 (c1 := (38, [some (.inr (.inr (some (13, 0)))), some (.inl m_), some (.inl so_), some (.inl c_), some (.inl k_)], [.inl 0, .inl c_], S_)) rfl ?_
        refine sm_T_bin (w := c_) rfl (bi_add (by omega) (by omega) (by omega)) ?_
        refine sm_T_go 1 (c1 := (40, [some (.inr (.inr (some (13, 0)))), some (.inl m_), some (.inl so_), some (.inl c_), some (.inl k_)], [], S_)) rfl ?_
        refine sm_T_inc (a := 4) (z := 1) (v := k_) (w := k_ + 1) rfl rfl (by omega) (by omega) (by omega) ?_
        refine sm_T_go 1 (c1 := (5, [some (.inr (.inr (some (13, 0)))), some (.inl m_), some (.inl so_), some (.inl c_), some (.inl (k_ + 1))], [], S_)) rfl ?_
        refine ih_ c_ (k_ + 1) S_ hI_ hF_ ⟨?_, ?_, ?_, trivial⟩ ?_
        · omega
        · have s9_ := sv_ (by omega)
          rw [show (k_ + 1).toNat = k_.toNat + 1 by omega, p_cn]
          first | (rw [if_pos (decide_eq_true (by omega))]; push_cast; omega) | (rw [if_neg (by rw [decide_eq_false (by omega)]; decide)]; push_cast; omega)
        · first | rfl | exact hS_
        · omega
      · have cx4_ : ¬ ((S_.2.2.1 128 0 (40 * m_ + k_).toNat) ≠ so_) := of_decide_eq_false cx4_
        refine sm_T_go 2 (c1 := (38, [some (.inr (.inr (some (13, 0)))), some (.inl m_), some (.inl so_), some (.inl c_), some (.inl k_)], [.inl 1, .inl c_], S_)) rfl ?_
        refine sm_T_bin (w := c_ + 1) rfl (bi_add (by omega) (by omega) (by omega)) ?_
        refine sm_T_go 1 (c1 := (40, [some (.inr (.inr (some (13, 0)))), some (.inl m_), some (.inl so_), some (.inl (c_ + 1)), some (.inl k_)], [], S_)) rfl ?_
        refine sm_T_inc (a := 4) (z := 1) (v := k_) (w := k_ + 1) rfl rfl (by omega) (by omega) (by omega) ?_
        refine sm_T_go 1 (c1 := (5, [some (.inr (.inr (some (13, 0)))), some (.inl m_), some (.inl so_), some (.inl (c_ + 1)), some (.inl (k_ + 1))], [], S_)) rfl ?_
        refine ih_ (c_ + 1) (k_ + 1) S_ hI_ hF_ ⟨?_, ?_, ?_, trivial⟩ ?_
        · omega
        · have s9_ := sv_ (by omega)
          rw [show (k_ + 1).toNat = k_.toNat + 1 by omega, p_cn]
          first | (rw [if_pos (decide_eq_true (by omega))]; push_cast; omega) | (rw [if_neg (by rw [decide_eq_false (by omega)]; decide)]; push_cast; omega)
        · first | rfl | exact hS_
        · omega
set_option maxHeartbeats 400000 in
theorem vc_305 {sc_ : Nat × (Nat → Int)} (m_ : Int) (so_ : Int) (b_ : Nat → Int) (n_ : Nat) (T_ : Nat) (A_ : pA) (mm_ : Nat) (S0_ : sm_S) (hI_ : gi S0_) (hmm_ : m_ = (mm_ : Int) ∧ mm_ ≤ 15) (hr_ : re1 b_ n_ T_ A_ mm_ S0_) (hA_ : A_.1 mm_ ≤ 40) : sm_T (mt_P sc_) 0 305 (0, [some (.inr (.inr (some (13, 0)))), some (.inl m_), some (.inl so_), none, none], [], S0_) (fun r_ => ∃ u_ S1_, r_ = (.inl u_, S1_, 0) ∧ vq_305 m_ so_ b_ n_ T_ A_ mm_ S0_ u_ S1_) := by
  have hF_ : ai_fr (sx_W vw_305) S0_ S0_ := ai_fr_rf
  refine sm_T_go 4 (c1 := (5, [some (.inr (.inr (some (13, 0)))), some (.inl m_), some (.inl so_), some (.inl 0), some (.inl 0)], [], S0_)) rfl ?_
  refine (vl_305 m_ so_ b_ n_ T_ A_ mm_ S0_ hmm_ hr_ hA_ _) 0 0 S0_ hI_ hF_ ⟨?_, ?_, ?_, trivial⟩ (Nat.lt_succ_self _)
  · omega
  · rfl
  · first | rfl | exact hS_
end
/-! 99.yia -/
section
/-! the reference: behind operands; written by wip/p55/gen/vg -/

/-! behind an_ operand -/
theorem lv_all {md_ : Bool} {k_ : Int} (h_ : 0 < p_lv md_ k_) : w_sg (p_lv md_ k_) = k_ ∧ 33 ≤ k_ ∧ k_ ≤ 257 := by
  by_cases g1_ : k_ = 124
  · subst g1_; revert h_; cases md_ <;> decide
  · by_cases g2_ : k_ = 94
    · subst g2_; revert h_; cases md_ <;> decide
    · by_cases g3_ : k_ = 38
      · subst g3_; revert h_; cases md_ <;> decide
      · by_cases g4_ : k_ = 257
        · subst g4_; revert h_; cases md_ <;> decide
        · by_cases g5_ : k_ = 43
          · subst g5_; revert h_; cases md_ <;> decide
          · exfalso
            simp [p_lv, g1_, g2_, g3_, g4_, g5_] at h_
theorem ry_ws {b_ : Nat → Int} {n_ T_ p_ : Nat} {mo_ : Int} {y_ : pE pO} {S_ : sm_S} (h_ : ry b_ n_ T_ mo_ p_ y_ S_) (hI_ : gi S_) : ∃ w_, ws w_ S_ ∧ ∀ s_, y_ = .inr s_ → wl b_ n_ T_ s_.1 w_ := by
  cases y_ with
  | inl e_ =>
    obtain ⟨w_, h1_⟩ := ws_ex hI_
    exact ⟨w_, h1_, fun s_ hs_ => by cases hs_⟩
  | inr s_ =>
    obtain ⟨⟨-, ⟨w_, h1_, h2_⟩, -⟩, -⟩ := h_
    refine ⟨w_, h1_, fun s'_ hs_ => ?_⟩
    cases hs_
    rcases h2_ with z_ | z_
    · exact absurd z_.1 (by decide)
    · exact z_.2
theorem ry_ob {b_ : Nat → Int} {n_ T_ p_ : Nat} {mo_ : Int} {y_ : pE pO} {S_ : sm_S} (h_ : ry b_ n_ T_ mo_ p_ y_ S_) : ∃ y4_, y4_ = y_ ∧ ry b_ n_ T_ mo_ p_ y4_ S_ := ⟨y_, rfl, h_⟩
theorem ry_rg {b_ : Nat → Int} {n_ T_ p_ : Nat} {mo_ : Int} {y_ : pE pO} {S_ : sm_S} (h_ : ry b_ n_ T_ mo_ p_ y_ S_) : rg b_ n_ T_ (pb y_ fun _ => .inr p_) S_ := by
  cases y_ with
  | inl e_ => exact ⟨h_.1, h_.2.1, h_.2.2.1⟩
  | inr s_ => exact h_.1.1
theorem ry_mo {b_ : Nat → Int} {n_ T_ p_ : Nat} {mo_ : Int} {y_ : pE pO} {S_ : sm_S} (h_ : ry b_ n_ T_ mo_ p_ y_ S_) : S_.1 13 0 27 = mo_ ∧ S_.1 13 0 32 ≤ 800 := by
  cases y_ with
  | inl e_ => exact ⟨h_.2.2.2.2, h_.2.2.2.1⟩
  | inr s_ =>
    refine ⟨h_.1.2.2.2.2, ?_⟩
    obtain ⟨⟨-, ⟨w_, h1_, h2_⟩, -⟩, h3_⟩ := h_
    have h4_ := o_lim h3_.1 h3_.2.1
    have h5_ : wl b_ n_ T_ s_.1 w_ := by
      rcases h2_ with z_ | z_
      · exact absurd z_.1 (by decide)
      · exact z_.2
    have h6_ := wl_len h5_
    rw [h1_.1]
    omega
theorem ry_s {b_ : Nat → Int} {n_ T_ p_ : Nat} {mo_ : Int} {y_ : pE pO} {S_ : sm_S} (h_ : ry b_ n_ T_ mo_ p_ y_ S_) : ∀ s_, y_ = .inr s_ → S_.1 13 0 33 = (o_mk s_.1 : Int) ∧ vs mo_ s_.2.1 S_ ∧ s_ok (mdo mo_) 1 s_ := by
  intro s_ hs_
  subst hs_
  exact ⟨h_.1.2.2.1, h_.1.2.2.2.1, h_.2⟩
/-- what a_ step comes to_ -/
def rq (b_ : Nat → Int) (n_ T_ : Nat) (mo_ : Int) (x_ : pE (pX ⊕ pR)) (v_ : Int) (S_ : sm_S) : Prop := match x_ with
  | .inl e_ => rwr mo_ e_ S_
  | .inr (.inl y_) => rx b_ n_ T_ mo_ y_.2.1 y_.1 y_.2.2.1 y_.2.2.2.1 y_.2.2.2.2.1 S_ ∧ v_ = (y_.1 : Int)
  | .inr (.inr r_) => rx b_ n_ T_ mo_ false 1 r_.1 [] r_.2.1 S_ ∧ v_ = 2
def p_K (b_ : Nat → Int) (n_ p_ : Nat) (s_ : pO) : pE (pX ⊕ pR) := if o_mk s_.1 = 60 then .inl (3, p_) else if h_tp s_.2.1 ≠ 1 then .inl (13, p_) else pb (p_ad b_ n_ p_) fun q_ => .inr (.inl (0, false, q_, (-3, p_) :: s_.1, s_.2.1, s_.2.2))
theorem b2_q {b_ : Nat → Int} {n_ p_ : Nat} {mo_ : Int} {y_ : pE pO} (h_ : ∀ s_, y_ = .inr s_ → mdo mo_ = false ∧ lx_kd b_ n_ p_ = 63) : pb y_ (p_B2 b_ n_ (mdo mo_) p_) = pb (pb y_ (p_se2 mo_ 1)) (p_K b_ n_ p_) := by
  cases y_ with
  | inl e_ => rfl
  | inr s_ =>
    show p_B2 b_ n_ (mdo mo_) p_ s_ = _
    unfold p_B2
    rw [if_pos (h_ s_ rfl)]
    rfl
theorem b2_n {b_ : Nat → Int} {n_ p_ : Nat} {mo_ : Int} {y_ : pE pO} (h_ : ∀ s_, y_ = .inr s_ → ¬ (mdo mo_ = false ∧ lx_kd b_ n_ p_ = 63)) : pb y_ (p_B2 b_ n_ (mdo mo_) p_) = pb (pb y_ (p_sa2 mo_)) (p_B3 b_ n_ (mdo mo_) p_) := by
  cases y_ with
  | inl e_ => rfl
  | inr s_ =>
    show p_B2 b_ n_ (mdo mo_) p_ s_ = _
    unfold p_B2
    rw [if_neg (h_ s_ rfl)]
    rfl
theorem b1_2 {b_ : Nat → Int} {n_ p_ : Nat} {md_ : Bool} {L_ : Int} {y_ : pE pO} (h_ : ∀ s_, y_ = .inr s_ → L_ = 4 ∧ o_tp s_.1 = 4) : pb y_ (p_B1 b_ n_ md_ p_ L_) = pb y_ (p_B2 b_ n_ md_ p_) := by
  cases y_ with
  | inl e_ => rfl
  | inr s_ =>
    obtain ⟨h1_, h2_⟩ := h_ s_ rfl
    show p_B1 b_ n_ md_ p_ L_ s_ = p_B2 b_ n_ md_ p_ s_
    unfold p_B1
    rw [if_neg]
    rintro ⟨-, z_ | z_⟩
    · exact z_ h1_
    · exact z_ h2_
theorem b1_h {b_ : Nat → Int} {n_ p_ : Nat} {md_ : Bool} {L_ : Int} {y_ : pE pO} (h0_ : 0 < L_) (h_ : ∀ s_, y_ = .inr s_ → L_ ≠ 4 ∨ o_tp s_.1 ≠ 4) : pb y_ (p_B1 b_ n_ md_ p_ L_) = pb y_ fun s_ => pb (p_ad b_ n_ p_) fun q_ => .inr (.inl (0, false, q_, (L_, p_) :: s_.1, s_.2.1, s_.2.2)) := by
  cases y_ with
  | inl e_ => rfl
  | inr s_ =>
    show p_B1 b_ n_ md_ p_ L_ s_ = _
    unfold p_B1
    rw [if_pos ⟨h0_, h_ s_ rfl⟩]
    rfl
theorem rq_h {b_ : Nat → Int} {n_ T_ p_ : Nat} {i_ mo_ L_ : Int} {y_ : pE pO} {w_ : List (Int × Int)} {S_ : sm_S} (hL_ : 0 < L_ ∧ w_sg L_ = lx_kd b_ n_ p_) (hp_ : rtp b_ n_ T_ i_ p_) (hw_ : ∀ s_, y_ = .inr s_ → wl b_ n_ T_ s_.1 w_ ∧ S_.1 13 0 33 = (o_mk s_.1 : Int) ∧ vs mo_ s_.2.1 S_) (ws1_ : ws ((lx_kd b_ n_ p_, i_) :: w_) S_) (m1_ : S_.1 13 0 27 = mo_) (wl1_ : S_.1 13 0 32 ≤ 800) (g_ : rg b_ n_ T_ (pb (pb y_ fun _ => .inr p_) (p_ad b_ n_)) S_) : rq b_ n_ T_ mo_ (pb y_ fun s_ => pb (p_ad b_ n_ p_) fun q_ => .inr (.inl (0, false, q_, (L_, p_) :: s_.1, s_.2.1, s_.2.2))) 0 S_ := by
  cases y_ with
  | inl e_ => exact ⟨g_.1, g_.2.1, g_.2.2, wl1_, m1_⟩
  | inr s_ =>
    obtain ⟨h1_, h2_, h3_⟩ := hw_ s_ rfl
    have g_ : rg b_ n_ T_ (p_ad b_ n_ p_) S_ := g_
    show rq b_ n_ T_ mo_ (pb (p_ad b_ n_ p_) fun q_ => .inr (.inl (0, false, q_, (L_, p_) :: s_.1, s_.2.1, s_.2.2))) 0 S_
    cases hq_ : p_ad b_ n_ p_ with
    | inl e_ => rw [hq_] at g_; exact ⟨g_.1, g_.2.1, g_.2.2, wl1_, m1_⟩
    | inr q_ =>
      rw [hq_] at g_
      refine ⟨⟨g_, ⟨_, ws1_, Or.inl ⟨rfl, Or.inl ⟨rfl, ⟨i_, w_, by rw [hL_.2], hp_, Or.inl ⟨by omega, h1_⟩⟩⟩⟩⟩, ?_, h3_, m1_⟩, rfl⟩
      rw [h2_]
      show _ = (((if L_ < 0 then 1 else 0) + o_mk s_.1 : Nat) : Int)
      rw [if_neg (by omega)]
      push_cast
      omega
theorem sa2_lt {b_ : Nat → Int} {n_ T_ p_ : Nat} {mo_ : Int} {y_ : pE pO} {S_ : sm_S} (h_ : ry b_ n_ T_ mo_ p_ y_ S_) {s_ : pO} (e_ : pb y_ (p_sa2 mo_) = .inr s_) : o_tp s_.1 < 1 ∧ o_tp s_.1 ≠ -4 := by
  obtain ⟨a_, h1_, h2_⟩ := pb_inr e_
  subst h1_
  exact (p_sa_ok a_.1 a_.2.1 a_.2.2 s_ h_.2 h2_).2.2
theorem ws_top1 {z_ : Int} {y_ : Int × Int} {u_ : List (Int × Int)} {k_ : Nat} {S_ : sm_S} (h_ : ws (y_ :: u_) S_) (hk_ : k_ = u_.length) : ws ((z_, y_.2) :: u_) (sm_aI S_ 136 0 k_ z_) := by
  refine ⟨h_.1, ?_, ?_⟩
  · exact stk_pu (by rw [List.length_map]; exact hk_) rfl h_.2.1.2
  · exact stk_ot h_.2.2 (by decide)
theorem wl_34 {b_ : Nat → Int} {n_ T_ q_ : Nat} {o_ : List (Int × Nat)} {w_ : List (Int × Int)} (h_ : wl b_ n_ T_ ((-3, q_) :: o_) w_) : ∃ t_ u_, w_ = (63, t_) :: u_ ∧ wl b_ n_ T_ ((-4, q_) :: o_) ((58, t_) :: u_) := by
  obtain ⟨t_, u_, h1_, h2_, h3_⟩ := h_
  refine ⟨t_, u_, h1_, t_, u_, rfl, h2_, ?_⟩
  rcases h3_ with z_ | z_
  · exact Or.inl ⟨by decide, z_.2⟩
  · exfalso
    rcases z_.1 with z_ | z_ <;> exact absurd z_ (by decide)
theorem wl_12 {b_ : Nat → Int} {n_ T_ q_ : Nat} {k_ : Int} {o_ : List (Int × Nat)} {w_ : List (Int × Int)} (hk_ : k_ = -1 ∨ k_ = -2) (h_ : wl b_ n_ T_ ((k_, q_) :: o_) w_) : ∃ t_ u_, w_ = (40, t_) :: u_ ∧ wt b_ n_ T_ (decide (k_ = -2)) o_ u_ := by
  obtain ⟨t_, u_, h1_, -, h3_⟩ := h_
  refine ⟨t_, u_, ?_, ?_⟩
  · rcases hk_ with z_ | z_ <;> (subst z_; exact h1_)
  · rcases h3_ with z_ | ⟨-, u'_, z1_, z2_⟩
    · exact Or.inl ⟨decide_eq_false z_.1, z_.2⟩
    · refine Or.inr ⟨u'_, ?_, z2_⟩
      rw [z1_]
      by_cases e_ : k_ = -2
      · rw [if_pos e_, if_pos (decide_eq_true e_)]
      · rw [if_neg e_, if_neg (by rw [decide_eq_false e_]; decide)]
theorem b3_c {b_ : Nat → Int} {n_ p_ q_ : Nat} {md_ : Bool} {k_ : Int} {o_ : List (Int × Nat)} {g_ c_ : List Int} (h_ : k_ ≠ -3) : p_B3 b_ n_ md_ p_ ((k_, q_) :: o_, g_, c_) = pb (p_nd b_ n_ 41 p_) fun r_ => .inr (.inl (1, false, r_, o_, (p_ti md_ (decide (k_ = -2)) g_ c_).1, (p_ti md_ (decide (k_ = -2)) g_ c_).2)) := by
  rw [pB3_c h_]
  unfold p_nd
  split <;> rfl
theorem b3_q {b_ : Nat → Int} {n_ p_ q_ : Nat} {md_ : Bool} {o_ : List (Int × Nat)} {g_ c_ : List Int} : p_B3 b_ n_ md_ p_ ((-3, q_) :: o_, g_, c_) = pb (p_nd b_ n_ 58 p_) fun r_ => .inr (.inl (0, false, r_, (-4, q_) :: o_, g_, c_)) := by
  rw [pB3_q]
  unfold p_nd
  split <;> rfl
theorem o_ok3 {md_ : Bool} {k_ : Int} {q_ : Nat} {o_ : List (Int × Nat)} (h_ : o_ok md_ ((k_, q_) :: o_)) (h1_ : k_ < 1) (h4_ : k_ ≠ -4) : (k_ = -3 ∧ md_ = false) ∨ k_ = -1 ∨ k_ = -2 := by
  rcases h_.1 with z_ | z_ | z_ | z_
  · exact Or.inr (Or.inl z_)
  · exact Or.inr (Or.inr z_)
  · rcases z_.2 with y_ | y_
    · exact Or.inl ⟨y_, z_.1⟩
    · exact absurd y_ h4_
  · exfalso; have := z_.1; omega
/-! M_.behind -/
def vw_320 : sx_Wl := ([(13, 9), (13, 10), (13, 11), (13, 32), (13, 33), (13, 34)], [136, 137, 138, 139], [])
def vq_320 (a_ : Int) (b_ : Nat → Int) (n_ : Nat) (T_ : Nat) (mo_ : Int) (p_ : Nat) (o_ : List (Int × Nat)) (g_ : List Int) (c_ : List Int) (A_ : pA) (M_ : Nat) (K_ : Nat) (f_ : Nat → Nat) (S0_ : sm_S) (u_ : Option sm_V) (S1_ : sm_S) : Prop := ∃ v_ : Int, u_ = some (.inl v_) ∧ gi S1_ ∧ ai_fr (sx_W vw_320) S0_ S1_ ∧ (rq b_ n_ T_ mo_ (p_st b_ n_ (mdo mo_) (p_pm b_ n_ (mdo mo_) A_ M_ K_ f_) (1, false, p_, o_, g_, c_)) v_ S1_)
set_option maxHeartbeats 3000000 in
set_option maxRecDepth 20000 in
theorem vl_320 {sc_ : Nat × (Nat → Int)} (a_ : Int) (b_ : Nat → Int) (n_ : Nat) (T_ : Nat) (mo_ : Int) (p_ : Nat) (o_ : List (Int × Nat)) (g_ : List Int) (c_ : List Int) (A_ : pA) (M_ : Nat) (K_ : Nat) (f_ : Nat → Nat) (S0_ : sm_S) (ha_ : a_ = 0) (ht_ : rtab b_ n_ T_ S0_) (hx_ : rx b_ n_ T_ mo_ false 1 p_ o_ g_ S0_) (hok_ : x_ok b_ n_ (mdo mo_) (1, false, p_, o_, g_, c_)) (hmo_ : mo_ = 0 ∨ mo_ = 2) : ∀ nn_ : Nat, (∀  (S_ : sm_S), gi S_ → ai_fr (sx_W vw_320) S0_ S_ → ((∃ y_, ry b_ n_ T_ mo_ p_ y_ S_ ∧ p_st b_ n_ (mdo mo_) (p_pm b_ n_ (mdo mo_) A_ M_ K_ f_) (1, false, p_, o_, g_, c_) = pb y_ (p_B2 b_ n_ (mdo mo_) p_)) ∧ True) → ((9 : Nat)) < nn_ → sm_T (mt_P sc_) 6 320 (89, [some (.inr (.inr (some (13, 0)))), some (.inl a_), none], [], S_) (fun r_ => ∃ u_ S1_, r_ = (.inl u_, S1_, 0) ∧ vq_320 a_ b_ n_ T_ mo_ p_ o_ g_ c_ A_ M_ K_ f_ S0_ u_ S1_)) ∧ (∀  (S_ : sm_S), gi S_ → ai_fr (sx_W vw_320) S0_ S_ → (((∃ e_, p_st b_ n_ (mdo mo_) (p_pm b_ n_ (mdo mo_) A_ M_ K_ f_) (1, false, p_, o_, g_, c_) = .inl e_ ∧ rwr mo_ e_ S_) ∨ (∃ s_, p_st b_ n_ (mdo mo_) (p_pm b_ n_ (mdo mo_) A_ M_ K_ f_) (1, false, p_, o_, g_, c_) = p_K b_ n_ p_ s_ ∧ ry b_ n_ T_ mo_ p_ (.inr s_) S_ ∧ o_mk s_.1 ≠ 60 ∧ lx_kd b_ n_ p_ = 63 ∧ mo_ = 0)) ∧ True) → ((7 : Nat)) < nn_ → sm_T (mt_P sc_) 6 320 (136, [some (.inr (.inr (some (13, 0)))), some (.inl a_), none], [], S_) (fun r_ => ∃ u_ S1_, r_ = (.inl u_, S1_, 0) ∧ vq_320 a_ b_ n_ T_ mo_ p_ o_ g_ c_ A_ M_ K_ f_ S0_ u_ S1_)) ∧ (∀  (S_ : sm_S), gi S_ → ai_fr (sx_W vw_320) S0_ S_ → (((∃ e_, p_st b_ n_ (mdo mo_) (p_pm b_ n_ (mdo mo_) A_ M_ K_ f_) (1, false, p_, o_, g_, c_) = .inl e_ ∧ rwr mo_ e_ S_) ∨ (∃ s_, p_st b_ n_ (mdo mo_) (p_pm b_ n_ (mdo mo_) A_ M_ K_ f_) (1, false, p_, o_, g_, c_) = (pb (p_ad b_ n_ p_) fun q_ => .inr (.inl (0, false, q_, (-3, p_) :: s_.1, s_.2.1, s_.2.2))) ∧ ry b_ n_ T_ mo_ p_ (.inr s_) S_ ∧ o_mk s_.1 ≠ 60 ∧ lx_kd b_ n_ p_ = 63)) ∧ True) → ((5 : Nat)) < nn_ → sm_T (mt_P sc_) 6 320 (168, [some (.inr (.inr (some (13, 0)))), some (.inl a_), none], [], S_) (fun r_ => ∃ u_ S1_, r_ = (.inl u_, S1_, 0) ∧ vq_320 a_ b_ n_ T_ mo_ p_ o_ g_ c_ A_ M_ K_ f_ S0_ u_ S1_)) ∧ (∀  (S_ : sm_S), gi S_ → ai_fr (sx_W vw_320) S0_ S_ → ((∃ y_, ry b_ n_ T_ mo_ p_ y_ S_ ∧ p_st b_ n_ (mdo mo_) (p_pm b_ n_ (mdo mo_) A_ M_ K_ f_) (1, false, p_, o_, g_, c_) = pb (pb y_ (p_sa2 mo_)) (p_B3 b_ n_ (mdo mo_) p_)) ∧ True) → ((3 : Nat)) < nn_ → sm_T (mt_P sc_) 6 320 (183, [some (.inr (.inr (some (13, 0)))), some (.inl a_), none], [], S_) (fun r_ => ∃ u_ S1_, r_ = (.inl u_, S1_, 0) ∧ vq_320 a_ b_ n_ T_ mo_ p_ o_ g_ c_ A_ M_ K_ f_ S0_ u_ S1_)) := by
  intro nn_
  induction nn_ with
  | zero => exact ⟨fun  _ _ _ _ h_ => absurd h_ (Nat.not_lt_zero _), fun  _ _ _ _ h_ => absurd h_ (Nat.not_lt_zero _), fun  _ _ _ _ h_ => absurd h_ (Nat.not_lt_zero _), fun  _ _ _ _ h_ => absurd h_ (Nat.not_lt_zero _)⟩
  | succ nn_ ih_ =>
    refine ⟨?_, ?_, ?_, ?_⟩
    · rintro  S_ hI_ hF_ ⟨h1_, -⟩ hm_
      obtain ⟨y_, y1_, y2_⟩ := h1_
      have m1_ := (ry_mo y1_).1
      have ht1_ := rtab_fr ht_ hF_ rfl rfl rfl rfl rfl
      have hT_ := ht_.2.1
      have bx1_ : 0 ≤ S_.1 13 0 27 ∧ S_.1 13 0 27 ≤ 2 := hI_.1 13 0 27 rfl
      refine sm_T_go 3 (c1 := (94, [some (.inr (.inr (some (13, 0)))), some (.inl a_), none], [.inl 2, .inl (S_.1 13 0 27)], S_)) rfl ?_
      refine sm_T_br (a := 3) (z := 89) rfl (fun cx2_ => ?_) (fun cx2_ => ?_)
      · have cx2_ : 2 ≤ (S_.1 13 0 27) := of_decide_eq_true cx2_
        refine sm_T_go 0 (c1 := (183, [some (.inr (.inr (some (13, 0)))), some (.inl a_), none], [], S_)) rfl ?_
        refine ih_.2.2.2  S_ hI_ hF_ ⟨?_, trivial⟩ ?_
        · first | (exact ⟨y_, y1_, by rw [y2_]; exact b2_n (fun s_ hs_ z_ => by have z2_ := z_.1; unfold mdo at z2_; have z3_ := of_decide_eq_false z2_; omega)⟩) | (exact ⟨y_, y1_, by rw [y2_]; exact b2_n (fun s_ hs_ z_ => by have := (e100_ p_ (by rw [hs_]; rfl)).mpr z_.2; omega)⟩)
        · omega
      · have cx2_ : ¬ (2 ≤ (S_.1 13 0 27)) := of_decide_eq_false cx2_
        refine sm_T_go 2 (c1 := (100, [some (.inr (.inr (some (13, 0)))), some (.inl a_), none], [.inl 63, .inr (.inr (some (13, 0)))], S_)) rfl ?_
        refine sm_T_cal (d1 := 0) (Q1 := vq_295 63 b_ n_ T_ (pb y_ fun _ => .inr p_) S_) rfl rfl (by decide) (vc_295 63 b_ n_ T_ (pb y_ fun _ => .inr p_) S_ hI_ (by exact ht1_) (by exact ry_rg y1_) (by decide)) (fun u_ Sx3_ px6_ => ?_)
        obtain ⟨rfl, vx8_, rfl, px6_⟩ := px6_
        have e100_ := px6_.2
        have r100_ := px6_.1.1
        refine sm_T_b0 (a := 0) (z := 80) rfl (fun cx9_ => ?_) (fun cx9_ => ?_)
        · have cx9_ : vx8_ = 0 := of_decide_eq_true cx9_
          refine sm_T_go 0 (c1 := (183, [some (.inr (.inr (some (13, 0)))), some (.inl a_), none], [], S_)) rfl ?_
          refine ih_.2.2.2  S_ hI_ hF_ ⟨?_, trivial⟩ ?_
          · first | (exact ⟨y_, y1_, by rw [y2_]; exact b2_n (fun s_ hs_ z_ => by have z2_ := z_.1; unfold mdo at z2_; have z3_ := of_decide_eq_false z2_; omega)⟩) | (exact ⟨y_, y1_, by rw [y2_]; exact b2_n (fun s_ hs_ z_ => by have := (e100_ p_ (by rw [hs_]; rfl)).mpr z_.2; omega)⟩)
          · omega
        · have cx9_ : ¬ (vx8_ = 0) := of_decide_eq_false cx9_
          refine sm_T_go 2 (c1 := (108, [some (.inr (.inr (some (13, 0)))), some (.inl a_), none], [.inl 1, .inr (.inr (some (13, 0)))], S_)) rfl ?_
          refine sm_T_cal (d1 := 2) (Q1 := vq_315 1 b_ n_ T_ mo_ p_ y_ S_) rfl rfl (by decide) (vc_315 1 b_ n_ T_ mo_ p_ y_ S_ hI_ (by exact ht1_) (by exact y1_) (by decide) (by exact hmo_)) (fun u_ Sx10_ px13_ => ?_)
          obtain ⟨rfl, hIx11_, hFx12_, px13_⟩ := px13_
          have hFx14_ : ai_fr (sx_W vw_320) S0_ Sx10_ := ai_fr_tr hF_ (fr_le hFx12_ rfl)
          have ex15_ : Sx10_.1 13 0 27 = S_.1 13 0 27 := hFx12_.1 13 0 27 rfl
          obtain ⟨y8_, hy8_, r108_⟩ := ry_ob px13_.1
          have k63_ : ∀ s_, y_ = .inr s_ → lx_kd b_ n_ p_ = 63 := fun s_ hs_ => (e100_ p_ (by rw [hs_]; rfl)).mp (by omega)
          have mo0_ : mo_ = 0 := by omega
          have hst8_ : p_st b_ n_ (mdo mo_) (p_pm b_ n_ (mdo mo_) A_ M_ K_ f_) (1, false, p_, o_, g_, c_) = pb y8_ (p_K b_ n_ p_) := by rw [y2_, b2_q (fun s_ hs_ => ⟨by rw [mo0_]; rfl, k63_ s_ hs_⟩), hy8_]
          have t108_ := rtab_fr ht1_ hFx12_ rfl rfl rfl rfl rfl
          have k638_ : ∀ s_, y8_ = .inr s_ → lx_kd b_ n_ p_ = 63 := by intro s_ hs_; rw [hs_] at hy8_; obtain ⟨a9_, z1_, z2_⟩ := pb_inr hy8_.symm; exact k63_ a9_ z1_
          refine sm_T_go 1 (c1 := (112, [some (.inr (.inr (some (13, 0)))), some (.inl a_), none], [.inr (.inr (some (13, 0)))], Sx10_)) rfl ?_
          refine sm_T_cal (d1 := 0) (Q1 := vq_292  Sx10_) rfl rfl (by decide) (vc_292  Sx10_ hIx11_ ) (fun u_ Sx16_ px19_ => ?_)
          obtain ⟨rfl, vx21_, rfl, px19_⟩ := px19_
          have e112_ := px19_
          refine sm_T_b0 (a := 0) (z := 21) rfl (fun cx22_ => ?_) (fun cx22_ => ?_)
          · have cx22_ : vx21_ = 0 := of_decide_eq_true cx22_
            have hz_ := wr_if e112_ (by omega)
            obtain ⟨e8_, he8_⟩ := ry_w r108_ hz_
            subst he8_
            refine sm_T_go 0 (c1 := (136, [some (.inr (.inr (some (13, 0)))), some (.inl a_), none], [], Sx10_)) rfl ?_
            refine ih_.2.1  Sx10_ hIx11_ hFx14_ ⟨?_, trivial⟩ ?_
            · first | (left; exact ⟨e8_, hst8_, r108_⟩) | (right; exact ⟨s8_, hst8_, r108_, by have := s108_.1; omega, k638_ s8_ rfl, mo0_⟩) | (left; refine ⟨(3, p_), ?_, ?_⟩; (rw [hst8_]; show p_K b_ n_ p_ s8_ = _; unfold p_K; rw [if_pos (by have := s108_.1; omega)]); (rcases e133_ with z_ | z_; (exact absurd hz_ z_.1); (refine ⟨z_.2.1.trans (if_neg ?_), ?_, by show (3 : Int) ≠ 0; decide, w133_, m133_⟩; (rw [hi81_]; rw [Int.toNat_natCast, ra8_.1]; exact rk8_.2.2.2.2.2); (rw [z_.2.2, hi81_, Int.toNat_natCast]; exact ra8_.2.1))))
            · omega
          · have cx22_ : ¬ (vx21_ = 0) := of_decide_eq_false cx22_
            have hz_ := rt_if e112_ (by omega)
            obtain ⟨s8_, hs8_⟩ := ry_r r108_ hz_
            subst hs8_
            have s108_ := ry_s r108_ s8_ rfl
            obtain ⟨i8_, hi81_, hi82_⟩ := r108_.1.1.2
            have ra8_ := rp_at t108_ hi82_
            have rk8_ := r_st_3 (lx_kd_r hi82_.2.2.1)
            have bx23_ : 0 ≤ Sx10_.1 13 0 33 ∧ Sx10_.1 13 0 33 ≤ 60 := hIx11_.1 13 0 33 rfl
            refine sm_T_go 3 (c1 := (124, [some (.inr (.inr (some (13, 0)))), some (.inl a_), none], [.inl 60, .inl (Sx10_.1 13 0 33)], Sx10_)) rfl ?_
            refine sm_T_br (a := 1) (z := 12) rfl (fun cx24_ => ?_) (fun cx24_ => ?_)
            · have cx24_ : (Sx10_.1 13 0 33) ≠ 60 := of_decide_eq_true cx24_
              refine sm_T_go 0 (c1 := (136, [some (.inr (.inr (some (13, 0)))), some (.inl a_), none], [], Sx10_)) rfl ?_
              refine ih_.2.1  Sx10_ hIx11_ hFx14_ ⟨?_, trivial⟩ ?_
              · first | (left; exact ⟨e8_, hst8_, r108_⟩) | (right; exact ⟨s8_, hst8_, r108_, by have := s108_.1; omega, k638_ s8_ rfl, mo0_⟩) | (left; refine ⟨(3, p_), ?_, ?_⟩; (rw [hst8_]; show p_K b_ n_ p_ s8_ = _; unfold p_K; rw [if_pos (by have := s108_.1; omega)]); (rcases e133_ with z_ | z_; (exact absurd hz_ z_.1); (refine ⟨z_.2.1.trans (if_neg ?_), ?_, by show (3 : Int) ≠ 0; decide, w133_, m133_⟩; (rw [hi81_]; rw [Int.toNat_natCast, ra8_.1]; exact rk8_.2.2.2.2.2); (rw [z_.2.2, hi81_, Int.toNat_natCast]; exact ra8_.2.1))))
              · omega
            · have cx24_ : ¬ ((Sx10_.1 13 0 33) ≠ 60) := of_decide_eq_false cx24_
              have bx25_ : 0 ≤ Sx10_.1 13 0 9 ∧ Sx10_.1 13 0 9 ≤ 1280 := hIx11_.1 13 0 9 rfl
              refine sm_T_go 4 (c1 := (133, [some (.inr (.inr (some (13, 0)))), some (.inl a_), none], [.inl (Sx10_.1 13 0 9), .inl 3, .inr (.inr (some (13, 0)))], Sx10_)) rfl ?_
              refine sm_T_cal (d1 := 0) (Q1 := vq_293 3 (Sx10_.1 13 0 9) Sx10_) rfl rfl (by decide) (vc_293 3 (Sx10_.1 13 0 9) Sx10_ hIx11_ (by decide) (by omega)) (fun u_ Sx26_ px29_ => ?_)
              obtain ⟨rfl, hIx27_, hFx28_, px29_⟩ := px29_
              have hFx30_ : ai_fr (sx_W vw_320) S0_ Sx26_ := ai_fr_tr hFx14_ (fr_le hFx28_ rfl)
              have ex31_ : Sx26_.1 13 0 9 = Sx10_.1 13 0 9 := hFx28_.1 13 0 9 rfl
              have ex32_ : Sx26_.1 13 0 33 = Sx10_.1 13 0 33 := hFx28_.1 13 0 33 rfl
              have e133_ := px29_
              have m133_ := (hFx28_.1 13 0 27 rfl).trans (ry_mo r108_).1
              have w133_ : Sx26_.1 13 0 32 ≤ 800 := by rw [hFx28_.1 13 0 32 rfl]; exact (ry_mo r108_).2
              refine sm_T_go 0 (c1 := (136, [some (.inr (.inr (some (13, 0)))), some (.inl a_), none], [], Sx26_)) rfl ?_
              refine ih_.2.1  Sx26_ hIx27_ hFx30_ ⟨?_, trivial⟩ ?_
              · first | (left; exact ⟨e8_, hst8_, r108_⟩) | (right; exact ⟨s8_, hst8_, r108_, by have := s108_.1; omega, k638_ s8_ rfl, mo0_⟩) | (left; refine ⟨(3, p_), ?_, ?_⟩; (rw [hst8_]; show p_K b_ n_ p_ s8_ = _; unfold p_K; rw [if_pos (by have := s108_.1; omega)]); (rcases e133_ with z_ | z_; (exact absurd hz_ z_.1); (refine ⟨z_.2.1.trans (if_neg ?_), ?_, by show (3 : Int) ≠ 0; decide, w133_, m133_⟩; (rw [hi81_]; rw [Int.toNat_natCast, ra8_.1]; exact rk8_.2.2.2.2.2); (rw [z_.2.2, hi81_, Int.toNat_natCast]; exact ra8_.2.1))))
              · omega
    · rintro  S_ hI_ hF_ ⟨h1_, -⟩ hm_
      have ht1_ := rtab_fr ht_ hF_ rfl rfl rfl rfl rfl
      have hT_ := ht_.2.1
      refine sm_T_go 1 (c1 := (137, [some (.inr (.inr (some (13, 0)))), some (.inl a_), none], [.inr (.inr (some (13, 0)))], S_)) rfl ?_
      refine sm_T_cal (d1 := 0) (Q1 := vq_292  S_) rfl rfl (by decide) (vc_292  S_ hI_ ) (fun u_ Sx1_ px4_ => ?_)
      obtain ⟨rfl, vx6_, rfl, px4_⟩ := px4_
      have e137_ := px4_
      refine sm_T_b0 (a := 0) (z := 28) rfl (fun cx7_ => ?_) (fun cx7_ => ?_)
      · have cx7_ : vx6_ = 0 := of_decide_eq_true cx7_
        have hz_ := wr_if e137_ (by omega)
        obtain ⟨e8_, he8_, he9_⟩ : ∃ e_, p_st b_ n_ (mdo mo_) (p_pm b_ n_ (mdo mo_) A_ M_ K_ f_) (1, false, p_, o_, g_, c_) = .inl e_ ∧ rwr mo_ e_ S_ := by rcases h1_ with z_ | ⟨s_, z1_, z2_, z3_⟩; exact z_; (exact absurd z2_.1.1.1 hz_)
        refine sm_T_go 0 (c1 := (168, [some (.inr (.inr (some (13, 0)))), some (.inl a_), none], [], S_)) rfl ?_
        refine ih_.2.2.1  S_ hI_ hF_ ⟨?_, trivial⟩ ?_
        · first | (left; exact ⟨e8_, he8_, he9_⟩) | (right; refine ⟨s8_, ?_, z2_, z3_, z4_⟩; rw [z1_]; unfold p_K; rw [if_neg z3_, if_neg (by rw [ht8_]; omega)]; done) | (left; refine ⟨(13, p_), ?_, ?_⟩; (rw [z1_]; unfold p_K; rw [if_neg z3_, if_pos (by rw [ht8_]; omega)]); (rcases e165_ with z_ | z_; (exact absurd hz_ z_.1); (refine ⟨z_.2.1.trans (if_neg ?_), ?_, by show (13 : Int) ≠ 0; decide, w165_, m165_⟩; (rw [hi81_]; rw [Int.toNat_natCast, ra8_.1]; exact rk8_.2.2.2.2.2); (rw [z_.2.2, hi81_, Int.toNat_natCast]; exact ra8_.2.1))))
        · omega
      · have cx7_ : ¬ (vx6_ = 0) := of_decide_eq_false cx7_
        have hz_ := rt_if e137_ (by omega)
        obtain ⟨s8_, z1_, z2_, z3_, z4_, z5_⟩ : ∃ s_, p_st b_ n_ (mdo mo_) (p_pm b_ n_ (mdo mo_) A_ M_ K_ f_) (1, false, p_, o_, g_, c_) = p_K b_ n_ p_ s_ ∧ ry b_ n_ T_ mo_ p_ (.inr s_) S_ ∧ o_mk s_.1 ≠ 60 ∧ lx_kd b_ n_ p_ = 63 ∧ mo_ = 0 := by rcases h1_ with ⟨e_, q1_, q2_⟩ | z_; (exact absurd (q2_.1.symm.trans hz_) q2_.2.2.1); exact z_
        have s8x := ry_s z2_ s8_ rfl
        obtain ⟨x8_, g8_, hg8_⟩ := s_ok_1 s8x.2.2
        have lim8_ := o_lim s8x.2.2.1 s8x.2.2.2.1
        have gl8_ : s8_.2.1.length = o_hl s8_.1 + 1 := s8x.2.2.2.2.1
        have v8_ := s8x.2.1.1
        have gl9_ : s8_.2.1.length = g8_.length + 1 := by rw [hg8_]; rfl
        have vk8_ := s8x.2.1.2.1 (by omega)
        rw [hg8_] at vk8_
        have wd8_ : S_.2.2.1 138 0 (S_.1 13 0 34 - 1).toNat = x8_ := by rw [show (S_.1 13 0 34 - 1).toNat = g8_.length by omega]; exact vk8_.1
        have ht8_ : h_tp s8_.2.1 = x8_ := by rw [hg8_]; rfl
        obtain ⟨i8_, hi81_, hi82_⟩ := z2_.1.1.2
        have ra8_ := rp_at ht1_ hi82_
        have rk8_ := r_st_3 (lx_kd_r hi82_.2.2.1)
        have bx8_ : 0 ≤ S_.1 13 0 34 ∧ S_.1 13 0 34 ≤ 1023 := hI_.1 13 0 34 rfl
        refine sm_T_go 5 (c1 := (152, [some (.inr (.inr (some (13, 0)))), some (.inl a_), none], [.inl 1, .inl (S_.1 13 0 34), .inr (.inr (some (138, 0)))], S_)) rfl ?_
        refine sm_T_bin (w := (S_.1 13 0 34) - 1) rfl (bi_sub (by omega) (by omega) (by omega)) ?_
        refine sm_T_iald (n := 1024) rfl rfl (by omega) (by omega) ?_
        have bx9_ : (-2147483648) ≤ S_.2.2.1 138 0 ((S_.1 13 0 34) - 1).toNat ∧ S_.2.2.1 138 0 ((S_.1 13 0 34) - 1).toNat ≤ 2147483647 := hI_.2 138 0 _
        refine sm_T_go 1 (c1 := (155, [some (.inr (.inr (some (13, 0)))), some (.inl a_), none], [.inl 1, .inl (S_.2.2.1 138 0 ((S_.1 13 0 34) - 1).toNat)], S_)) rfl ?_
        refine sm_T_br (a := 0) (z := 13) rfl (fun cx10_ => ?_) (fun cx10_ => ?_)
        · have cx10_ : (S_.2.2.1 138 0 ((S_.1 13 0 34) - 1).toNat) = 1 := of_decide_eq_true cx10_
          refine sm_T_go 0 (c1 := (168, [some (.inr (.inr (some (13, 0)))), some (.inl a_), none], [], S_)) rfl ?_
          refine ih_.2.2.1  S_ hI_ hF_ ⟨?_, trivial⟩ ?_
          · first | (left; exact ⟨e8_, he8_, he9_⟩) | (right; refine ⟨s8_, ?_, z2_, z3_, z4_⟩; rw [z1_]; unfold p_K; rw [if_neg z3_, if_neg (by rw [ht8_]; omega)]; done) | (left; refine ⟨(13, p_), ?_, ?_⟩; (rw [z1_]; unfold p_K; rw [if_neg z3_, if_pos (by rw [ht8_]; omega)]); (rcases e165_ with z_ | z_; (exact absurd hz_ z_.1); (refine ⟨z_.2.1.trans (if_neg ?_), ?_, by show (13 : Int) ≠ 0; decide, w165_, m165_⟩; (rw [hi81_]; rw [Int.toNat_natCast, ra8_.1]; exact rk8_.2.2.2.2.2); (rw [z_.2.2, hi81_, Int.toNat_natCast]; exact ra8_.2.1))))
          · omega
        · have cx10_ : ¬ ((S_.2.2.1 138 0 ((S_.1 13 0 34) - 1).toNat) = 1) := of_decide_eq_false cx10_
          have bx11_ : 0 ≤ S_.1 13 0 9 ∧ S_.1 13 0 9 ≤ 1280 := hI_.1 13 0 9 rfl
          refine sm_T_go 4 (c1 := (165, [some (.inr (.inr (some (13, 0)))), some (.inl a_), none], [.inl (S_.1 13 0 9), .inl 13, .inr (.inr (some (13, 0)))], S_)) rfl ?_
          refine sm_T_cal (d1 := 0) (Q1 := vq_293 13 (S_.1 13 0 9) S_) rfl rfl (by decide) (vc_293 13 (S_.1 13 0 9) S_ hI_ (by decide) (by omega)) (fun u_ Sx12_ px15_ => ?_)
          obtain ⟨rfl, hIx13_, hFx14_, px15_⟩ := px15_
          have hFx16_ : ai_fr (sx_W vw_320) S0_ Sx12_ := ai_fr_tr hF_ (fr_le hFx14_ rfl)
          have ex17_ : Sx12_.1 13 0 9 = S_.1 13 0 9 := hFx14_.1 13 0 9 rfl
          have ex18_ : Sx12_.1 13 0 34 = S_.1 13 0 34 := hFx14_.1 13 0 34 rfl
          have e165_ := px15_
          have m165_ := (hFx14_.1 13 0 27 rfl).trans (ry_mo z2_).1
          have w165_ : Sx12_.1 13 0 32 ≤ 800 := by rw [hFx14_.1 13 0 32 rfl]; exact (ry_mo z2_).2
          refine sm_T_go 0 (c1 := (168, [some (.inr (.inr (some (13, 0)))), some (.inl a_), none], [], Sx12_)) rfl ?_
          refine ih_.2.2.1  Sx12_ hIx13_ hFx16_ ⟨?_, trivial⟩ ?_
          · first | (left; exact ⟨e8_, he8_, he9_⟩) | (right; refine ⟨s8_, ?_, z2_, z3_, z4_⟩; rw [z1_]; unfold p_K; rw [if_neg z3_, if_neg (by rw [ht8_]; omega)]; done) | (left; refine ⟨(13, p_), ?_, ?_⟩; (rw [z1_]; unfold p_K; rw [if_neg z3_, if_pos (by rw [ht8_]; omega)]); (rcases e165_ with z_ | z_; (exact absurd hz_ z_.1); (refine ⟨z_.2.1.trans (if_neg ?_), ?_, by show (13 : Int) ≠ 0; decide, w165_, m165_⟩; (rw [hi81_]; rw [Int.toNat_natCast, ra8_.1]; exact rk8_.2.2.2.2.2); (rw [z_.2.2, hi81_, Int.toNat_natCast]; exact ra8_.2.1))))
          · omega
    · rintro  S_ hI_ hF_ ⟨h1_, -⟩ hm_
      have ht1_ := rtab_fr ht_ hF_ rfl rfl rfl rfl rfl
      have hT_ := ht_.2.1
      refine sm_T_go 1 (c1 := (169, [some (.inr (.inr (some (13, 0)))), some (.inl a_), none], [.inr (.inr (some (13, 0)))], S_)) rfl ?_
      refine sm_T_cal (d1 := 0) (Q1 := vq_292  S_) rfl rfl (by decide) (vc_292  S_ hI_ ) (fun u_ Sx1_ px4_ => ?_)
      obtain ⟨rfl, vx6_, rfl, px4_⟩ := px4_
      have e169_ := px4_
      refine sm_T_b0 (a := 0) (z := 9) rfl (fun cx7_ => ?_) (fun cx7_ => ?_)
      · have cx7_ : vx6_ = 0 := of_decide_eq_true cx7_
        have hz_ := wr_if e169_ (by omega)
        obtain ⟨e8_, he8_, he9_⟩ : ∃ e_, p_st b_ n_ (mdo mo_) (p_pm b_ n_ (mdo mo_) A_ M_ K_ f_) (1, false, p_, o_, g_, c_) = .inl e_ ∧ rwr mo_ e_ S_ := by rcases h1_ with z_ | ⟨s_, z1_, z2_, z3_⟩; exact z_; (exact absurd z2_.1.1.1 hz_)
        refine sm_T_go 1 (c1 := (182, [some (.inr (.inr (some (13, 0)))), some (.inl a_), none], [.inl 0], S_)) rfl ?_
        refine sm_T_ri rfl ⟨_, _, rfl, _, rfl, hI_, hF_, ?_⟩
        first | (rw [he8_]; exact he9_) | (rw [z1_]; cases hq_ : p_ad b_ n_ p_ with | inl e_ => exact e178_.1 e_ hq_ | inr q_ => (obtain ⟨q1_, q2_, q3_⟩ := e178_.2 q_ hq_; exact ⟨⟨q1_, ⟨_, q2_, Or.inl ⟨rfl, Or.inl ⟨rfl, ⟨_, w8_, rfl, rp_rtp ht1_ hi82_ (by omega), Or.inl ⟨by decide, wl8_ s8_ rfl⟩⟩⟩⟩⟩, by rw [q3_]; show _ = ((1 + o_mk s8_.1 : Nat) : Int); push_cast; omega, v178_, m178_⟩, rfl⟩))
      · have cx7_ : ¬ (vx6_ = 0) := of_decide_eq_false cx7_
        have hz_ := rt_if e169_ (by omega)
        obtain ⟨s8_, z1_, z2_, z3_, z4_⟩ : ∃ s_, p_st b_ n_ (mdo mo_) (p_pm b_ n_ (mdo mo_) A_ M_ K_ f_) (1, false, p_, o_, g_, c_) = (pb (p_ad b_ n_ p_) fun q_ => .inr (.inl (0, false, q_, (-3, p_) :: s_.1, s_.2.1, s_.2.2))) ∧ ry b_ n_ T_ mo_ p_ (.inr s_) S_ ∧ o_mk s_.1 ≠ 60 ∧ lx_kd b_ n_ p_ = 63 := by rcases h1_ with ⟨e_, q1_, q2_⟩ | z_; (exact absurd (q2_.1.symm.trans hz_) q2_.2.2.1); exact z_
        have s8x := ry_s z2_ s8_ rfl
        obtain ⟨w8_, ws8_, wl8_⟩ := ry_ws z2_ hI_
        have wll_ := wl_len (wl8_ s8_ rfl)
        have lim8_ := o_lim s8x.2.2.1 s8x.2.2.2.1
        obtain ⟨i8_, hi81_, hi82_⟩ := z2_.1.1.2
        refine sm_T_go 2 (c1 := (178, [some (.inr (.inr (some (13, 0)))), some (.inl a_), none], [.inl 63, .inr (.inr (some (13, 0)))], S_)) rfl ?_
        refine sm_T_cal (d1 := 3) (Q1 := vq_318 63 b_ n_ T_ mo_ p_ i8_ (o_mk s8_.1) w8_ S_) rfl rfl (by decide) (vc_318 63 b_ n_ T_ mo_ p_ i8_ (o_mk s8_.1) w8_ S_ hI_ (by exact ht1_) (by exact hz_) (by exact ⟨hi81_, hi82_⟩) (by omega) (by exact ws8_) (by omega) (by exact ⟨s8x.1, s8x.2.2.2.1⟩) (by decide) (by exact (ry_mo z2_).1)) (fun u_ Sx8_ px11_ => ?_)
        obtain ⟨rfl, hIx9_, hFx10_, px11_⟩ := px11_
        have hFx12_ : ai_fr (sx_W vw_320) S0_ Sx8_ := ai_fr_tr hF_ (fr_le hFx10_ rfl)
        have e178_ := px11_.2 z3_
        have m178_ := (hFx10_.1 13 0 27 rfl).trans (ry_mo z2_).1
        have v178_ := vs_fr s8x.2.1 hFx10_ rfl rfl rfl
        refine sm_T_go 1 (c1 := (182, [some (.inr (.inr (some (13, 0)))), some (.inl a_), none], [.inl 0], Sx8_)) rfl ?_
        refine sm_T_ri rfl ⟨_, _, rfl, _, rfl, hIx9_, hFx12_, ?_⟩
        first | (rw [he8_]; exact he9_) | (rw [z1_]; cases hq_ : p_ad b_ n_ p_ with | inl e_ => exact e178_.1 e_ hq_ | inr q_ => (obtain ⟨q1_, q2_, q3_⟩ := e178_.2 q_ hq_; exact ⟨⟨q1_, ⟨_, q2_, Or.inl ⟨rfl, Or.inl ⟨rfl, ⟨_, w8_, rfl, rp_rtp ht1_ hi82_ (by omega), Or.inl ⟨by decide, wl8_ s8_ rfl⟩⟩⟩⟩⟩, by rw [q3_]; show _ = ((1 + o_mk s8_.1 : Nat) : Int); push_cast; omega, v178_, m178_⟩, rfl⟩))
    · rintro  S_ hI_ hF_ ⟨h1_, -⟩ hm_
      obtain ⟨y_, y1_, y2_⟩ := h1_
      have ht1_ := rtab_fr ht_ hF_ rfl rfl rfl rfl rfl
      have hT_ := ht_.2.1
      refine sm_T_go 1 (c1 := (184, [some (.inr (.inr (some (13, 0)))), some (.inl a_), none], [.inr (.inr (some (13, 0)))], S_)) rfl ?_
      refine sm_T_cal (d1 := 3) (Q1 := vq_316 b_ n_ T_ mo_ p_ y_ S_) rfl rfl (by decide) (vc_316 b_ n_ T_ mo_ p_ y_ S_ hI_ (by exact ht1_) (by exact y1_) (by exact hmo_)) (fun u_ Sx1_ px4_ => ?_)
      obtain ⟨rfl, hIx2_, hFx3_, px4_⟩ := px4_
      have hFx5_ : ai_fr (sx_W vw_320) S0_ Sx1_ := ai_fr_tr hF_ (fr_le hFx3_ rfl)
      have lt184_ : ∀ s_, pb y_ (p_sa2 mo_) = .inr s_ → _ := fun s_ hs_ => sa2_lt y1_ hs_
      obtain ⟨y8_, hy8_, r184_⟩ := ry_ob px4_
      rw [← hy8_] at y2_ lt184_
      have t184_ := rtab_fr ht1_ hFx3_ rfl rfl rfl rfl rfl
      have m184_ := ry_mo r184_
      obtain ⟨w8_, ws8_, wl8_⟩ := ry_ws r184_ hIx2_
      refine sm_T_go 1 (c1 := (188, [some (.inr (.inr (some (13, 0)))), some (.inl a_), none], [.inr (.inr (some (13, 0)))], Sx1_)) rfl ?_
      refine sm_T_cal (d1 := 0) (Q1 := vq_292  Sx1_) rfl rfl (by decide) (vc_292  Sx1_ hIx2_ ) (fun u_ Sx6_ px9_ => ?_)
      obtain ⟨rfl, vx11_, rfl, px9_⟩ := px9_
      have e188_ := px9_
      refine sm_T_b0 (a := 0) (z := 11) rfl (fun cx12_ => ?_) (fun cx12_ => ?_)
      · have cx12_ : vx11_ = 0 := of_decide_eq_true cx12_
        have hz_ := wr_if e188_ (by omega)
        obtain ⟨e8_, he8_⟩ := ry_w r184_ hz_
        subst he8_
        refine sm_T_go 1 (c1 := (203, [some (.inr (.inr (some (13, 0)))), some (.inl a_), none], [.inl 2], Sx1_)) rfl ?_
        refine sm_T_ri rfl ⟨_, _, rfl, _, rfl, hIx2_, hFx5_, ?_⟩
        first | (rw [y2_]; exact r184_) | (rw [y2_]; exact ⟨r184_.1, rfl⟩)
      · have cx12_ : ¬ (vx11_ = 0) := of_decide_eq_false cx12_
        have hz_ := rt_if e188_ (by omega)
        obtain ⟨s8_, hs8_⟩ := ry_r r184_ hz_
        subst hs8_
        have s184_ := ry_s r184_ s8_ rfl
        have wl8_ := wl8_ s8_ rfl
        have wlx_ := ws8_.1
        have tp8_ := wl_tp wl8_ s184_.2.2.1
        obtain ⟨lt1_, lt4_⟩ := lt184_ s8_ rfl
        obtain ⟨so_, sg_, sc_⟩ := s8_
        have bx13_ : 0 ≤ Sx1_.1 13 0 32 ∧ Sx1_.1 13 0 32 ≤ 1023 := hIx2_.1 13 0 32 rfl
        refine sm_T_go 3 (c1 := (199, [some (.inr (.inr (some (13, 0)))), some (.inl a_), none], [.inl a_, .inl (Sx1_.1 13 0 32)], Sx1_)) rfl ?_
        refine sm_T_br (a := 1) (z := 5) rfl (fun cx14_ => ?_) (fun cx14_ => ?_)
        · have cx14_ : (Sx1_.1 13 0 32) ≠ a_ := of_decide_eq_true cx14_
          obtain ⟨k8_, q8_, o8_, ho8_, e9_⟩ : ∃ k8_ q8_ o8_, so_ = (k8_, q8_) :: o8_ ∧ o_tp so_ = k8_ := by cases so_ with | nil => (exfalso; have z_ := tp8_.2.2.2.2.2.2.mpr rfl; rw [z_] at wlx_; simp only [List.length_nil] at wlx_; omega) | cons a_ l_ => exact ⟨a_.1, a_.2, l_, rfl, rfl⟩
          subst ho8_
          have k8c := o_ok3 s184_.2.2.1 lt1_ lt4_
          have y3_ : p_st b_ n_ (mdo mo_) (p_pm b_ n_ (mdo mo_) A_ M_ K_ f_) (1, false, p_, o_, g_, c_) = p_B3 b_ n_ (mdo mo_) p_ ((k8_, q8_) :: o8_, sg_, sc_) := y2_
          obtain ⟨i8_, hi81_, hi82_⟩ := r184_.1.1.2
          have ok8_ := s184_.2.2
          have op8_ := s184_.1
          have vs8_ := s184_.2.1
          have bx15_ : 0 ≤ Sx1_.1 13 0 27 ∧ Sx1_.1 13 0 27 ≤ 2 := hIx2_.1 13 0 27 rfl
          refine sm_T_go 3 (c1 := (209, [some (.inr (.inr (some (13, 0)))), some (.inl a_), none], [.inl 2, .inl (Sx1_.1 13 0 27)], Sx1_)) rfl ?_
          refine sm_T_br (a := 3) (z := 42) rfl (fun cx16_ => ?_) (fun cx16_ => ?_)
          · have cx16_ : 2 ≤ (Sx1_.1 13 0 27) := of_decide_eq_true cx16_
            refine sm_T_go 2 (c1 := (254, [some (.inr (.inr (some (13, 0)))), some (.inl a_), none], [.inl 41, .inr (.inr (some (13, 0)))], Sx1_)) rfl ?_
            refine sm_T_cal (d1 := 3) (Q1 := vq_300 41 b_ n_ T_ (.inr p_) Sx1_) rfl rfl (by decide) (vc_300 41 b_ n_ T_ (.inr p_) Sx1_ hIx2_ (by exact t184_) (by exact r184_.1.1) (by decide)) (fun u_ Sx17_ px20_ => ?_)
            obtain ⟨rfl, hIx18_, hFx19_, px20_⟩ := px20_
            have hFx21_ : ai_fr (sx_W vw_320) S0_ Sx17_ := ai_fr_tr hFx5_ (fr_le hFx19_ rfl)
            have ex22_ : Sx17_.1 13 0 27 = Sx1_.1 13 0 27 := hFx19_.1 13 0 27 rfl
            have ex23_ : Sx17_.1 13 0 32 = Sx1_.1 13 0 32 := hFx19_.1 13 0 32 rfl
            have k12_ : k8_ = -1 ∨ k8_ = -2 := by rcases k8c with z_ | z_; (exfalso; first | (have z2_ := z_.2; unfold mdo at z2_; have z3_ := of_decide_eq_false z2_; omega) | (have z2_ := tp8_.2.2.2.2.1.mpr (by rw [e9_]; exact z_.1); omega)); exact z_
            have g254_ : rg b_ n_ T_ (p_nd b_ n_ 41 p_) Sx17_ := px20_
            rw [b3_c (by omega)] at y3_
            have m254_ : Sx17_.1 13 0 27 = mo_ := (hFx19_.1 13 0 27 rfl).trans m184_.1
            have w254_ : Sx17_.1 13 0 32 ≤ 800 := by rw [hFx19_.1 13 0 32 rfl]; exact m184_.2
            have op254_ := (hFx19_.1 13 0 33 rfl).trans op8_
            have vs254_ := vs_fr vs8_ hFx19_ rfl rfl rfl
            have ws254_ := ws_fr ws8_ hFx19_ rfl rfl rfl
            obtain ⟨t8_, u8_, hw8_, wt8_⟩ := wl_12 k12_ wl8_
            subst hw8_
            obtain ⟨x8_, g8_, hg8_⟩ := s_ok_1 ok8_
            have hg8_ : sg_ = x8_ :: g8_ := hg8_
            subst hg8_
            have lim8_ := o_lim ok8_.1 ok8_.2.1
            have gl8_ : (x8_ :: g8_).length = o_hl ((k8_, q8_) :: o8_) + 1 := ok8_.2.2.1
            have gl7_ : o_hl ((k8_, q8_) :: o8_) ≤ 425 := lim8_.2
            simp only [List.length_cons] at gl8_
            have wlx3_ : Sx17_.1 13 0 32 = (u8_.length : Int) + 1 := by rw [ws254_.1, List.length_cons]; push_cast; rfl
            have op8b : Sx17_.1 13 0 33 = (o_mk o8_ : Int) + 1 := by rw [op254_]; show (((if k8_ < 0 then 1 else 0) + o_mk o8_ : Nat) : Int) = _; rw [if_pos (by omega)]; push_cast; omega
            refine sm_T_go 1 (c1 := (258, [some (.inr (.inr (some (13, 0)))), some (.inl a_), none], [.inr (.inr (some (13, 0)))], Sx17_)) rfl ?_
            refine sm_T_cal (d1 := 0) (Q1 := vq_292  Sx17_) rfl rfl (by decide) (vc_292  Sx17_ hIx18_ ) (fun u_ Sx24_ px27_ => ?_)
            obtain ⟨rfl, vx29_, rfl, px27_⟩ := px27_
            have e258_ := px27_
            refine sm_T_b0 (a := 0) (z := 27) rfl (fun cx30_ => ?_) (fun cx30_ => ?_)
            · have cx30_ : vx29_ = 0 := of_decide_eq_true cx30_
              have hz2_ := wr_if e258_ (by omega)
              refine sm_T_go 1 (c1 := (289, [some (.inr (.inr (some (13, 0)))), some (.inl a_), none], [.inl 1], Sx17_)) rfl ?_
              refine sm_T_ri rfl ⟨_, _, rfl, _, rfl, hIx18_, hFx21_, ?_⟩
              rw [y3_]
              cases hq_ : p_nd b_ n_ 41 p_ with
              | inl e_ => rw [hq_] at g254_; first | (exact ⟨g254_.1, g254_.2.1, g254_.2.2, w254_, m254_⟩) | (exact absurd (g254_.1.symm.trans hz2_) g254_.2.2)
              | inr q_ => rw [hq_] at g254_; first | (exact absurd g254_.1 hz2_) | (exact ⟨⟨fg285_ q_ g254_, ⟨w9_, ws9_, Or.inr ⟨rfl, wl9_⟩⟩, op285_, v9_, m285_⟩, rfl⟩)
            · have cx30_ : ¬ (vx29_ = 0) := of_decide_eq_false cx30_
              have hz2_ := rt_if e258_ (by omega)
              have bx31_ : 0 ≤ Sx17_.1 13 0 32 ∧ Sx17_.1 13 0 32 ≤ 1023 := hIx18_.1 13 0 32 rfl
              refine sm_T_go 4 (c1 := (270, [some (.inr (.inr (some (13, 0)))), some (.inl a_), none], [.inl 1, .inl (Sx17_.1 13 0 32), .inr (.inr (some (13, 0)))], Sx17_)) rfl ?_
              refine sm_T_bin (w := (Sx17_.1 13 0 32) - 1) rfl (bi_sub (by omega) (by omega) (by omega)) ?_
              have hIx32_ : gi (sm_pI Sx17_ 13 0 32 ((Sx17_.1 13 0 32) - 1)) := gi_pI hIx18_ (show 0 ≤ (Sx17_.1 13 0 32) - 1 ∧ (Sx17_.1 13 0 32) - 1 ≤ 1023 from ⟨by omega, by omega⟩)
              have hFx33_ : ai_fr (sx_W vw_320) S0_ (sm_pI Sx17_ 13 0 32 ((Sx17_.1 13 0 32) - 1)) := ai_fr_tr hFx21_ (ai_fr_pI rfl)
              have bx34_ : 0 ≤ Sx17_.1 13 0 33 ∧ Sx17_.1 13 0 33 ≤ 60 := hIx18_.1 13 0 33 rfl
              refine sm_T_go 5 (c1 := (280, [some (.inr (.inr (some (13, 0)))), some (.inl a_), none], [.inl 1, .inl (Sx17_.1 13 0 33), .inr (.inr (some (13, 0)))], sm_pI Sx17_ 13 0 32 ((Sx17_.1 13 0 32) - 1))) rfl ?_
              refine sm_T_bin (w := (Sx17_.1 13 0 33) - 1) rfl (bi_sub (by omega) (by omega) (by omega)) ?_
              have hIx35_ : gi (sm_pI (sm_pI Sx17_ 13 0 32 ((Sx17_.1 13 0 32) - 1)) 13 0 33 ((Sx17_.1 13 0 33) - 1)) := gi_pI hIx32_ (show 0 ≤ (Sx17_.1 13 0 33) - 1 ∧ (Sx17_.1 13 0 33) - 1 ≤ 60 from ⟨by omega, by omega⟩)
              have hFx36_ : ai_fr (sx_W vw_320) S0_ (sm_pI (sm_pI Sx17_ 13 0 32 ((Sx17_.1 13 0 32) - 1)) 13 0 33 ((Sx17_.1 13 0 33) - 1)) := ai_fr_tr hFx33_ (ai_fr_pI rfl)
              refine sm_T_go 2 (c1 := (285, [some (.inr (.inr (some (13, 0)))), some (.inl a_), none], [.inr (.inr (some (13, 0)))], sm_pI (sm_pI Sx17_ 13 0 32 ((Sx17_.1 13 0 32) - 1)) 13 0 33 ((Sx17_.1 13 0 33) - 1))) rfl ?_
              refine sm_T_cal (d1 := 1) (Q1 := vq_317 b_ n_ T_ mo_ (decide (k8_ = -2)) o8_ x8_ g8_ sc_ u8_ (sm_pI (sm_pI Sx17_ 13 0 32 ((Sx17_.1 13 0 32) - 1)) 13 0 33 ((Sx17_.1 13 0 33) - 1))) rfl rfl (by decide) (vc_317 b_ n_ T_ mo_ (decide (k8_ = -2)) o8_ x8_ g8_ sc_ u8_ (sm_pI (sm_pI Sx17_ 13 0 32 ((Sx17_.1 13 0 32) - 1)) 13 0 33 ((Sx17_.1 13 0 33) - 1)) hIx35_ (by exact ws_pop ws254_ rfl rfl rfl) (by exact wt8_) (by exact ok8_.1.2.2) (by exact vs254_) (by exact m254_) (by omega) (by exact (h_ok_c.mp ok8_.2.2.2).1)) (fun u_ Sx37_ px40_ => ?_)
              obtain ⟨rfl, hIx38_, hFx39_, px40_⟩ := px40_
              have hFx41_ : ai_fr (sx_W vw_320) S0_ Sx37_ := ai_fr_tr hFx36_ (fr_le hFx39_ rfl)
              obtain ⟨w9_, ws9_, wl9_, v9_⟩ := px40_
              have op285_ : Sx37_.1 13 0 33 = (o_mk o8_ : Int) := (hFx39_.1 13 0 33 rfl).trans (by (try simp only [rd_eq, rd_ne, rf_eq, rf_nk, rf_nt, rd_fa, rd_af, rd_fl, rd_al, rd_lf, rd_la, rd_leq, rd_lne, rd_fr, rd_ar, ne_eq, Nat.reduceEqDiff, not_false_eq_true]); omega)
              have m285_ := (hFx39_.1 13 0 27 rfl).trans m254_
              have fg285_ : ∀ q_, rg b_ n_ T_ (.inr q_) (sm_pI (sm_pI Sx17_ 13 0 32 ((Sx17_.1 13 0 32) - 1)) 13 0 33 ((Sx17_.1 13 0 33) - 1)) → rg b_ n_ T_ (.inr q_) Sx37_ := fun q_ hq_ => rg_fr hq_ hFx39_ rfl rfl rfl
              refine sm_T_go 1 (c1 := (289, [some (.inr (.inr (some (13, 0)))), some (.inl a_), none], [.inl 1], Sx37_)) rfl ?_
              refine sm_T_ri rfl ⟨_, _, rfl, _, rfl, hIx38_, hFx41_, ?_⟩
              rw [y3_]
              cases hq_ : p_nd b_ n_ 41 p_ with
              | inl e_ => rw [hq_] at g254_; first | (exact ⟨g254_.1, g254_.2.1, g254_.2.2, w254_, m254_⟩) | (exact absurd (g254_.1.symm.trans hz2_) g254_.2.2)
              | inr q_ => rw [hq_] at g254_; first | (exact absurd g254_.1 hz2_) | (exact ⟨⟨fg285_ q_ g254_, ⟨w9_, ws9_, Or.inr ⟨rfl, wl9_⟩⟩, op285_, v9_, m285_⟩, rfl⟩)
          · have cx16_ : ¬ (2 ≤ (Sx1_.1 13 0 27)) := of_decide_eq_false cx16_
            refine sm_T_go 1 (c1 := (213, [some (.inr (.inr (some (13, 0)))), some (.inl a_), none], [.inr (.inr (some (13, 0)))], Sx1_)) rfl ?_
            refine sm_T_cal (d1 := 0) (Q1 := vq_312 w8_ Sx1_) rfl rfl (by decide) (vc_312 w8_ Sx1_ hIx2_ (by exact ws8_)) (fun u_ Sx42_ px45_ => ?_)
            obtain ⟨rfl, vx47_, rfl, px45_⟩ := px45_
            have e213_ := px45_
            refine sm_T_go 1 (c1 := (218, [some (.inr (.inr (some (13, 0)))), some (.inl a_), none], [.inl 63, .inl vx47_], Sx1_)) rfl ?_
            refine sm_T_br (a := 1) (z := 33) rfl (fun cx48_ => ?_) (fun cx48_ => ?_)
            · have cx48_ : vx47_ ≠ 63 := of_decide_eq_true cx48_
              refine sm_T_go 2 (c1 := (254, [some (.inr (.inr (some (13, 0)))), some (.inl a_), none], [.inl 41, .inr (.inr (some (13, 0)))], Sx1_)) rfl ?_
              refine sm_T_cal (d1 := 3) (Q1 := vq_300 41 b_ n_ T_ (.inr p_) Sx1_) rfl rfl (by decide) (vc_300 41 b_ n_ T_ (.inr p_) Sx1_ hIx2_ (by exact t184_) (by exact r184_.1.1) (by decide)) (fun u_ Sx49_ px52_ => ?_)
              obtain ⟨rfl, hIx50_, hFx51_, px52_⟩ := px52_
              have hFx53_ : ai_fr (sx_W vw_320) S0_ Sx49_ := ai_fr_tr hFx5_ (fr_le hFx51_ rfl)
              have ex54_ : Sx49_.1 13 0 27 = Sx1_.1 13 0 27 := hFx51_.1 13 0 27 rfl
              have ex55_ : Sx49_.1 13 0 32 = Sx1_.1 13 0 32 := hFx51_.1 13 0 32 rfl
              have k12_ : k8_ = -1 ∨ k8_ = -2 := by rcases k8c with z_ | z_; (exfalso; first | (have z2_ := z_.2; unfold mdo at z2_; have z3_ := of_decide_eq_false z2_; omega) | (have z2_ := tp8_.2.2.2.2.1.mpr (by rw [e9_]; exact z_.1); omega)); exact z_
              have g254_ : rg b_ n_ T_ (p_nd b_ n_ 41 p_) Sx49_ := px52_
              rw [b3_c (by omega)] at y3_
              have m254_ : Sx49_.1 13 0 27 = mo_ := (hFx51_.1 13 0 27 rfl).trans m184_.1
              have w254_ : Sx49_.1 13 0 32 ≤ 800 := by rw [hFx51_.1 13 0 32 rfl]; exact m184_.2
              have op254_ := (hFx51_.1 13 0 33 rfl).trans op8_
              have vs254_ := vs_fr vs8_ hFx51_ rfl rfl rfl
              have ws254_ := ws_fr ws8_ hFx51_ rfl rfl rfl
              obtain ⟨t8_, u8_, hw8_, wt8_⟩ := wl_12 k12_ wl8_
              subst hw8_
              obtain ⟨x8_, g8_, hg8_⟩ := s_ok_1 ok8_
              have hg8_ : sg_ = x8_ :: g8_ := hg8_
              subst hg8_
              have lim8_ := o_lim ok8_.1 ok8_.2.1
              have gl8_ : (x8_ :: g8_).length = o_hl ((k8_, q8_) :: o8_) + 1 := ok8_.2.2.1
              have gl7_ : o_hl ((k8_, q8_) :: o8_) ≤ 425 := lim8_.2
              simp only [List.length_cons] at gl8_
              have wlx3_ : Sx49_.1 13 0 32 = (u8_.length : Int) + 1 := by rw [ws254_.1, List.length_cons]; push_cast; rfl
              have op8b : Sx49_.1 13 0 33 = (o_mk o8_ : Int) + 1 := by rw [op254_]; show (((if k8_ < 0 then 1 else 0) + o_mk o8_ : Nat) : Int) = _; rw [if_pos (by omega)]; push_cast; omega
              refine sm_T_go 1 (c1 := (258, [some (.inr (.inr (some (13, 0)))), some (.inl a_), none], [.inr (.inr (some (13, 0)))], Sx49_)) rfl ?_
              refine sm_T_cal (d1 := 0) (Q1 := vq_292  Sx49_) rfl rfl (by decide) (vc_292  Sx49_ hIx50_ ) (fun u_ Sx56_ px59_ => ?_)
              obtain ⟨rfl, vx61_, rfl, px59_⟩ := px59_
              have e258_ := px59_
              refine sm_T_b0 (a := 0) (z := 27) rfl (fun cx62_ => ?_) (fun cx62_ => ?_)
              · have cx62_ : vx61_ = 0 := of_decide_eq_true cx62_
                have hz2_ := wr_if e258_ (by omega)
                refine sm_T_go 1 (c1 := (289, [some (.inr (.inr (some (13, 0)))), some (.inl a_), none], [.inl 1], Sx49_)) rfl ?_
                refine sm_T_ri rfl ⟨_, _, rfl, _, rfl, hIx50_, hFx53_, ?_⟩
                rw [y3_]
                cases hq_ : p_nd b_ n_ 41 p_ with
                | inl e_ => rw [hq_] at g254_; first | (exact ⟨g254_.1, g254_.2.1, g254_.2.2, w254_, m254_⟩) | (exact absurd (g254_.1.symm.trans hz2_) g254_.2.2)
                | inr q_ => rw [hq_] at g254_; first | (exact absurd g254_.1 hz2_) | (exact ⟨⟨fg285_ q_ g254_, ⟨w9_, ws9_, Or.inr ⟨rfl, wl9_⟩⟩, op285_, v9_, m285_⟩, rfl⟩)
              · have cx62_ : ¬ (vx61_ = 0) := of_decide_eq_false cx62_
                have hz2_ := rt_if e258_ (by omega)
                have bx63_ : 0 ≤ Sx49_.1 13 0 32 ∧ Sx49_.1 13 0 32 ≤ 1023 := hIx50_.1 13 0 32 rfl
                refine sm_T_go 4 (c1 := (270, [some (.inr (.inr (some (13, 0)))), some (.inl a_), none], [.inl 1, .inl (Sx49_.1 13 0 32), .inr (.inr (some (13, 0)))], Sx49_)) rfl ?_
                refine sm_T_bin (w := (Sx49_.1 13 0 32) - 1) rfl (bi_sub (by omega) (by omega) (by omega)) ?_
                have hIx64_ : gi (sm_pI Sx49_ 13 0 32 ((Sx49_.1 13 0 32) - 1)) := gi_pI hIx50_ (show 0 ≤ (Sx49_.1 13 0 32) - 1 ∧ (Sx49_.1 13 0 32) - 1 ≤ 1023 from ⟨by omega, by omega⟩)
                have hFx65_ : ai_fr (sx_W vw_320) S0_ (sm_pI Sx49_ 13 0 32 ((Sx49_.1 13 0 32) - 1)) := ai_fr_tr hFx53_ (ai_fr_pI rfl)
                have bx66_ : 0 ≤ Sx49_.1 13 0 33 ∧ Sx49_.1 13 0 33 ≤ 60 := hIx50_.1 13 0 33 rfl
                refine sm_T_go 5 (c1 := (280, [some (.inr (.inr (some (13, 0)))), some (.inl a_), none], [.inl 1, .inl (Sx49_.1 13 0 33), .inr (.inr (some (13, 0)))], sm_pI Sx49_ 13 0 32 ((Sx49_.1 13 0 32) - 1))) rfl ?_
                refine sm_T_bin (w := (Sx49_.1 13 0 33) - 1) rfl (bi_sub (by omega) (by omega) (by omega)) ?_
                have hIx67_ : gi (sm_pI (sm_pI Sx49_ 13 0 32 ((Sx49_.1 13 0 32) - 1)) 13 0 33 ((Sx49_.1 13 0 33) - 1)) := gi_pI hIx64_ (show 0 ≤ (Sx49_.1 13 0 33) - 1 ∧ (Sx49_.1 13 0 33) - 1 ≤ 60 from ⟨by omega, by omega⟩)
                have hFx68_ : ai_fr (sx_W vw_320) S0_ (sm_pI (sm_pI Sx49_ 13 0 32 ((Sx49_.1 13 0 32) - 1)) 13 0 33 ((Sx49_.1 13 0 33) - 1)) := ai_fr_tr hFx65_ (ai_fr_pI rfl)
                refine sm_T_go 2 (c1 := (285, [some (.inr (.inr (some (13, 0)))), some (.inl a_), none], [.inr (.inr (some (13, 0)))], sm_pI (sm_pI Sx49_ 13 0 32 ((Sx49_.1 13 0 32) - 1)) 13 0 33 ((Sx49_.1 13 0 33) - 1))) rfl ?_
                refine sm_T_cal (d1 := 1) (Q1 := vq_317 b_ n_ T_ mo_ (decide (k8_ = -2)) o8_ x8_ g8_ sc_ u8_ (sm_pI (sm_pI Sx49_ 13 0 32 ((Sx49_.1 13 0 32) - 1)) 13 0 33 ((Sx49_.1 13 0 33) - 1))) rfl rfl (by decide) (vc_317 b_ n_ T_ mo_ (decide (k8_ = -2)) o8_ x8_ g8_ sc_ u8_ (sm_pI (sm_pI Sx49_ 13 0 32 ((Sx49_.1 13 0 32) - 1)) 13 0 33 ((Sx49_.1 13 0 33) - 1)) hIx67_ (by exact ws_pop ws254_ rfl rfl rfl) (by exact wt8_) (by exact ok8_.1.2.2) (by exact vs254_) (by exact m254_) (by omega) (by exact (h_ok_c.mp ok8_.2.2.2).1)) (fun u_ Sx69_ px72_ => ?_)
                obtain ⟨rfl, hIx70_, hFx71_, px72_⟩ := px72_
                have hFx73_ : ai_fr (sx_W vw_320) S0_ Sx69_ := ai_fr_tr hFx68_ (fr_le hFx71_ rfl)
                obtain ⟨w9_, ws9_, wl9_, v9_⟩ := px72_
                have op285_ : Sx69_.1 13 0 33 = (o_mk o8_ : Int) := (hFx71_.1 13 0 33 rfl).trans (by (try simp only [rd_eq, rd_ne, rf_eq, rf_nk, rf_nt, rd_fa, rd_af, rd_fl, rd_al, rd_lf, rd_la, rd_leq, rd_lne, rd_fr, rd_ar, ne_eq, Nat.reduceEqDiff, not_false_eq_true]); omega)
                have m285_ := (hFx71_.1 13 0 27 rfl).trans m254_
                have fg285_ : ∀ q_, rg b_ n_ T_ (.inr q_) (sm_pI (sm_pI Sx49_ 13 0 32 ((Sx49_.1 13 0 32) - 1)) 13 0 33 ((Sx49_.1 13 0 33) - 1)) → rg b_ n_ T_ (.inr q_) Sx69_ := fun q_ hq_ => rg_fr hq_ hFx71_ rfl rfl rfl
                refine sm_T_go 1 (c1 := (289, [some (.inr (.inr (some (13, 0)))), some (.inl a_), none], [.inl 1], Sx69_)) rfl ?_
                refine sm_T_ri rfl ⟨_, _, rfl, _, rfl, hIx70_, hFx73_, ?_⟩
                rw [y3_]
                cases hq_ : p_nd b_ n_ 41 p_ with
                | inl e_ => rw [hq_] at g254_; first | (exact ⟨g254_.1, g254_.2.1, g254_.2.2, w254_, m254_⟩) | (exact absurd (g254_.1.symm.trans hz2_) g254_.2.2)
                | inr q_ => rw [hq_] at g254_; first | (exact absurd g254_.1 hz2_) | (exact ⟨⟨fg285_ q_ g254_, ⟨w9_, ws9_, Or.inr ⟨rfl, wl9_⟩⟩, op285_, v9_, m285_⟩, rfl⟩)
            · have cx48_ : ¬ (vx47_ ≠ 63) := of_decide_eq_false cx48_
              have k3_ : k8_ = -3 := by rw [← e9_]; exact tp8_.2.2.2.2.1.mp (by omega)
              subst k3_
              obtain ⟨t8_, u8_, hw8_, wl84_⟩ := wl_34 wl8_
              subst hw8_
              rw [b3_q] at y3_
              have wlx2_ : (((63, t8_) :: u8_ : List (Int × Int)).length : Int) = (u8_.length : Int) + 1 := by rw [List.length_cons]; push_cast; rfl
              refine sm_T_go 2 (c1 := (224, [some (.inr (.inr (some (13, 0)))), some (.inl a_), none], [.inl 58, .inr (.inr (some (13, 0)))], Sx1_)) rfl ?_
              refine sm_T_cal (d1 := 0) (Q1 := vq_295 58 b_ n_ T_ (.inr p_) Sx1_) rfl rfl (by decide) (vc_295 58 b_ n_ T_ (.inr p_) Sx1_ hIx2_ (by exact t184_) (by exact r184_.1.1) (by decide)) (fun u_ Sx74_ px77_ => ?_)
              obtain ⟨rfl, vx79_, rfl, px77_⟩ := px77_
              have e224_ := px77_.2 p_ rfl
              have r224_ := px77_.1.1
              refine sm_T_b0 (a := 0) (z := 16) rfl (fun cx80_ => ?_) (fun cx80_ => ?_)
              · have cx80_ : vx79_ = 0 := of_decide_eq_true cx80_
                have kd8_ : lx_kd b_ n_ p_ ≠ 58 := fun z_ => by have := e224_.mpr z_; omega
                refine sm_T_go 2 (c1 := (246, [some (.inr (.inr (some (13, 0)))), some (.inl a_), none], [.inl 58, .inr (.inr (some (13, 0)))], Sx1_)) rfl ?_
                refine sm_T_cal (d1 := 3) (Q1 := vq_300 58 b_ n_ T_ (.inr p_) Sx1_) rfl rfl (by decide) (vc_300 58 b_ n_ T_ (.inr p_) Sx1_ hIx2_ (by first | exact t184_ | exact rtab_fr t184_ (w_ := ([], [136], [])) (ai_fr_aI rfl) rfl rfl rfl rfl rfl) (by exact r184_.1.1) (by decide)) (fun u_ Sx81_ px84_ => ?_)
                obtain ⟨rfl, hIx82_, hFx83_, px84_⟩ := px84_
                have hFx85_ : ai_fr (sx_W vw_320) S0_ Sx81_ := ai_fr_tr hFx5_ (fr_le hFx83_ rfl)
                have ex86_ : Sx81_.1 13 0 27 = Sx1_.1 13 0 27 := hFx83_.1 13 0 27 rfl
                have ex87_ : Sx81_.1 13 0 32 = Sx1_.1 13 0 32 := hFx83_.1 13 0 32 rfl
                have g246_ : rg b_ n_ T_ (p_nd b_ n_ 58 p_) Sx81_ := px84_
                have m246_ : Sx81_.1 13 0 27 = mo_ := (hFx83_.1 13 0 27 rfl).trans m184_.1
                have w246_ : Sx81_.1 13 0 32 ≤ 800 := by rw [hFx83_.1 13 0 32 rfl]; exact m184_.2
                have op246_ : Sx81_.1 13 0 33 = _ := (hFx83_.1 13 0 33 rfl).trans op8_
                first | (have ws246_ := ws_fr (ws_top1 (z_ := 58) ws8_ (by omega)) hFx83_ rfl rfl rfl) | skip
                have v246_ : vs mo_ sg_ Sx81_ := by first | exact vs_fr vs8_ hFx83_ rfl rfl rfl | exact vs_fr (S_ := Sx1_) (show vs mo_ sg_ Sx1_ from ⟨vs8_.1, fun q_ => stk_ot (vs8_.2.1 q_) (by decide), fun q_ => stk_8o (vs8_.2.2 q_) (by decide)⟩) hFx83_ rfl rfl rfl
                refine sm_T_go 1 (c1 := (250, [some (.inr (.inr (some (13, 0)))), some (.inl a_), none], [.inl 0], Sx81_)) rfl ?_
                refine sm_T_ri rfl ⟨_, _, rfl, _, rfl, hIx82_, hFx85_, ?_⟩
                rw [y3_]
                cases hq_ : p_nd b_ n_ 58 p_ with
                | inl e_ => rw [hq_] at g246_; exact ⟨g246_.1, g246_.2.1, g246_.2.2, w246_, m246_⟩
                | inr q_ => rw [hq_] at g246_; first | (exfalso; unfold p_nd at hq_; rw [if_neg kd8_] at hq_; cases hq_; done) | (exact ⟨⟨g246_, ⟨_, ws246_, Or.inl ⟨rfl, Or.inl ⟨rfl, wl84_⟩⟩⟩, op246_, v246_, m246_⟩, rfl⟩)
              · have cx80_ : ¬ (vx79_ = 0) := of_decide_eq_false cx80_
                have kd8_ : lx_kd b_ n_ p_ = 58 := e224_.mp (by omega)
                refine sm_T_go 5 (c1 := (239, [some (.inr (.inr (some (13, 0)))), some (.inl a_), none], [.inl 1, .inl (Sx1_.1 13 0 32), .inr (.inr (some (136, 0)))], Sx1_)) rfl ?_
                refine sm_T_bin (w := (Sx1_.1 13 0 32) - 1) rfl (bi_sub (by omega) (by omega) (by omega)) ?_
                refine sm_T_go 1 (c1 := (242, [some (.inr (.inr (some (13, 0)))), some (.inl a_), none], [.inl 58, .inl ((Sx1_.1 13 0 32) - 1), .inr (.inr (some (136, 0)))], Sx1_)) rfl ?_
                refine sm_T_iast (n := 1024) rfl rfl (by omega) (by omega) ?_
                have hIx88_ : gi (sm_aI Sx1_ 136 0 ((Sx1_.1 13 0 32) - 1).toNat 58) := gi_aI hIx2_ (show (-2147483648) ≤ 58 ∧ 58 ≤ 2147483647 from ⟨by omega, by omega⟩)
                have hFx89_ : ai_fr (sx_W vw_320) S0_ (sm_aI Sx1_ 136 0 ((Sx1_.1 13 0 32) - 1).toNat 58) := ai_fr_tr hFx5_ (ai_fr_aI rfl)
                refine sm_T_go 2 (c1 := (246, [some (.inr (.inr (some (13, 0)))), some (.inl a_), none], [.inl 58, .inr (.inr (some (13, 0)))], sm_aI Sx1_ 136 0 ((Sx1_.1 13 0 32) - 1).toNat 58)) rfl ?_
                refine sm_T_cal (d1 := 3) (Q1 := vq_300 58 b_ n_ T_ (.inr p_) (sm_aI Sx1_ 136 0 ((Sx1_.1 13 0 32) - 1).toNat 58)) rfl rfl (by decide) (vc_300 58 b_ n_ T_ (.inr p_) (sm_aI Sx1_ 136 0 ((Sx1_.1 13 0 32) - 1).toNat 58) hIx88_ (by first | exact t184_ | exact rtab_fr t184_ (w_ := ([], [136], [])) (ai_fr_aI rfl) rfl rfl rfl rfl rfl) (by exact r184_.1.1) (by decide)) (fun u_ Sx90_ px93_ => ?_)
                obtain ⟨rfl, hIx91_, hFx92_, px93_⟩ := px93_
                have hFx94_ : ai_fr (sx_W vw_320) S0_ Sx90_ := ai_fr_tr hFx89_ (fr_le hFx92_ rfl)
                have g246_ : rg b_ n_ T_ (p_nd b_ n_ 58 p_) Sx90_ := px93_
                have m246_ : Sx90_.1 13 0 27 = mo_ := (hFx92_.1 13 0 27 rfl).trans m184_.1
                have w246_ : Sx90_.1 13 0 32 ≤ 800 := by rw [hFx92_.1 13 0 32 rfl]; exact m184_.2
                have op246_ : Sx90_.1 13 0 33 = _ := (hFx92_.1 13 0 33 rfl).trans op8_
                first | (have ws246_ := ws_fr (ws_top1 (z_ := 58) ws8_ (by omega)) hFx92_ rfl rfl rfl) | skip
                have v246_ : vs mo_ sg_ Sx90_ := by first | exact vs_fr vs8_ hFx92_ rfl rfl rfl | exact vs_fr (S_ := (sm_aI Sx1_ 136 0 ((Sx1_.1 13 0 32) - 1).toNat 58)) (show vs mo_ sg_ (sm_aI Sx1_ 136 0 ((Sx1_.1 13 0 32) - 1).toNat 58) from ⟨vs8_.1, fun q_ => stk_ot (vs8_.2.1 q_) (by decide), fun q_ => stk_8o (vs8_.2.2 q_) (by decide)⟩) hFx92_ rfl rfl rfl
                refine sm_T_go 1 (c1 := (250, [some (.inr (.inr (some (13, 0)))), some (.inl a_), none], [.inl 0], Sx90_)) rfl ?_
                refine sm_T_ri rfl ⟨_, _, rfl, _, rfl, hIx91_, hFx94_, ?_⟩
                rw [y3_]
                cases hq_ : p_nd b_ n_ 58 p_ with
                | inl e_ => rw [hq_] at g246_; exact ⟨g246_.1, g246_.2.1, g246_.2.2, w246_, m246_⟩
                | inr q_ => rw [hq_] at g246_; first | (exfalso; unfold p_nd at hq_; rw [if_neg kd8_] at hq_; cases hq_; done) | (exact ⟨⟨g246_, ⟨_, ws246_, Or.inl ⟨rfl, Or.inl ⟨rfl, wl84_⟩⟩⟩, op246_, v246_, m246_⟩, rfl⟩)
        · have cx14_ : ¬ ((Sx1_.1 13 0 32) ≠ a_) := of_decide_eq_false cx14_
          have w0_ : w8_ = [] := by cases w8_ with | nil => rfl | cons a_ l_ => (exfalso; simp only [List.length_cons] at wlx_; omega)
          have so0_ : so_ = [] := tp8_.2.2.2.2.2.2.mp w0_
          subst so0_
          refine sm_T_go 1 (c1 := (203, [some (.inr (.inr (some (13, 0)))), some (.inl a_), none], [.inl 2], Sx1_)) rfl ?_
          refine sm_T_ri rfl ⟨_, _, rfl, _, rfl, hIx2_, hFx5_, ?_⟩
          first | (rw [y2_]; exact r184_) | (rw [y2_]; exact ⟨r184_.1, rfl⟩)
set_option maxHeartbeats 3000000 in
set_option maxRecDepth 20000 in
theorem vc_320 {sc_ : Nat × (Nat → Int)} (a_ : Int) (b_ : Nat → Int) (n_ : Nat) (T_ : Nat) (mo_ : Int) (p_ : Nat) (o_ : List (Int × Nat)) (g_ : List Int) (c_ : List Int) (A_ : pA) (M_ : Nat) (K_ : Nat) (f_ : Nat → Nat) (S0_ : sm_S) (hI_ : gi S0_) (ha_ : a_ = 0) (ht_ : rtab b_ n_ T_ S0_) (hx_ : rx b_ n_ T_ mo_ false 1 p_ o_ g_ S0_) (hok_ : x_ok b_ n_ (mdo mo_) (1, false, p_, o_, g_, c_)) (hmo_ : mo_ = 0 ∨ mo_ = 2) : sm_T (mt_P sc_) 6 320 (0, [some (.inr (.inr (some (13, 0)))), some (.inl a_), none], [], S0_) (fun r_ => ∃ u_ S1_, r_ = (.inl u_, S1_, 0) ∧ vq_320 a_ b_ n_ T_ mo_ p_ o_ g_ c_ A_ M_ K_ f_ S0_ u_ S1_) := by
  have hF_ : ai_fr (sx_W vw_320) S0_ S0_ := ai_fr_rf
  obtain ⟨i_, hi1_, hi2_⟩ := id hx_.1.2
  have hT_ := ht_.2.1
  have hi9_ := hi2_.1
  have wle_ := (ry_mo (y_ := .inr (o_, g_, c_)) (p_ := p_) ⟨hx_, hok_.2.1⟩).2
  have wle2_ : S0_.1 13 0 32 ≤ 731 := by obtain ⟨w0_, z1_, z2_⟩ := hx_.2.1; have z3_ : wl b_ n_ T_ o_ w0_ := (by rcases z2_ with z_ | z_; (exact absurd z_.1 (by decide)); exact z_.2); have z4_ := (wl_len z3_).1; have z5_ := (o_lim hok_.2.1.1 hok_.2.1.2.1).1; have z6_ := z1_.1; have z7_ : o_.length ≤ 365 := z5_; omega
  refine sm_T_go 1 (c1 := (1, [some (.inr (.inr (some (13, 0)))), some (.inl a_), none], [.inr (.inr (some (13, 0)))], S0_)) rfl ?_
  refine sm_T_cal (d1 := 1) (Q1 := vq_310 b_ n_ T_ (.inr p_) mo_ S0_) rfl rfl (by decide) (vc_310 b_ n_ T_ (.inr p_) mo_ S0_ hI_ (by exact ht_) (by exact hx_.1) (by exact ⟨hx_.2.2.2.2, by omega⟩)) (fun u_ Sx1_ px4_ => ?_)
  obtain ⟨rfl, vx6_, rfl, px4_⟩ := px4_
  have e1_ := px4_.2 p_ rfl
  have r1_ := px4_.1
  refine sm_T_b0 (a := 0) (z := 18) rfl (fun cx7_ => ?_) (fun cx7_ => ?_)
  · have cx7_ : vx6_ = 0 := of_decide_eq_true cx7_
    have l0_ : ¬ 0 < p_lv (mdo mo_) (lx_kd b_ n_ p_) := fun z_ => by have := e1_.1.mpr z_; omega
    refine sm_T_go 9 (c1 := (44, [some (.inr (.inr (some (13, 0)))), some (.inl a_), some (.inl 0)], [.inl 6, .inr (.inr (some (13, 0)))], S0_)) rfl ?_
    refine sm_T_cal (d1 := 2) (Q1 := vq_315 6 b_ n_ T_ mo_ p_ (.inr (o_, g_, c_)) S0_) rfl rfl (by decide) (vc_315 6 b_ n_ T_ mo_ p_ (.inr (o_, g_, c_)) S0_ hI_ (by exact ht_) (by exact ⟨hx_, hok_.2.1⟩) (by omega) (by exact hmo_)) (fun u_ Sx8_ px11_ => ?_)
    obtain ⟨rfl, hIx9_, hFx10_, px11_⟩ := px11_
    have hFx12_ : ai_fr (sx_W vw_320) S0_ Sx8_ := ai_fr_tr hF_ (fr_le hFx10_ rfl)
    have wa44_ := px11_.2
    obtain ⟨y4_, hy4_, r44_⟩ := ry_ob px11_.1
    obtain ⟨w44_, ws44_, wl44_⟩ := ry_ws r44_ hIx9_
    have g44_ := ry_rg r44_
    have s44_ := ry_s r44_
    have m44_ := (ry_mo r44_).1
    have t44_ := rtab_fr ht_ hFx10_ rfl rfl rfl rfl rfl
    have at44_ := hFx10_.1 13 0 9 rfl
    have nb44_ : Sx8_.2.2.1 121 0 (Sx8_.1 13 0 9).toNat = S0_.2.2.1 121 0 (S0_.1 13 0 9).toNat := by rw [fr_arr hFx10_ rfl, at44_]
    have op44_ := hFx10_.1 13 0 33 rfl
    have wl4_ := ws44_.1
    first | (have hst_ : p_st b_ n_ (mdo mo_) (p_pm b_ n_ (mdo mo_) A_ M_ K_ f_) (1, false, p_, o_, g_, c_) = pb y4_ (p_B1 b_ n_ (mdo mo_) p_ (p_lv (mdo mo_) (lx_kd b_ n_ p_))) := by rw [pB_l l1_, if_pos (by omega), hy4_]; rfl) | (have hst_ : p_st b_ n_ (mdo mo_) (p_pm b_ n_ (mdo mo_) A_ M_ K_ f_) (1, false, p_, o_, g_, c_) = pb y4_ (p_B1 b_ n_ (mdo mo_) p_ (p_lv (mdo mo_) (lx_kd b_ n_ p_))) := by rw [pB_l l1_, if_neg (by omega), hy4_, l16_]; rfl) | (have hst2_ : p_st b_ n_ (mdo mo_) (p_pm b_ n_ (mdo mo_) A_ M_ K_ f_) (1, false, p_, o_, g_, c_) = pb y4_ (p_B2 b_ n_ (mdo mo_) p_) := by rw [pB_n l0_, hy4_]; show _ = pb (p_se (mdo mo_) 6 o_ g_ c_) _; rw [p_se_st (by have z9_ : -4 ≤ o_tp o_ ∧ o_tp o_ ≤ 5 := o_tp5 hok_.2.1.1; omega)]; rfl)
    refine sm_T_go 2 (c1 := (89, [some (.inr (.inr (some (13, 0)))), some (.inl a_), some (.inl 0)], [], Sx8_)) rfl ?_
    refine sm_T_wk [some (.inr (.inr (some (13, 0)))), some (.inl a_), none] (by exact ⟨rfl, rfl, trivial⟩) ?_
    refine (vl_320 a_ b_ n_ T_ mo_ p_ o_ g_ c_ A_ M_ K_ f_ S0_ ha_ ht_ hx_ hok_ hmo_ _).1  Sx8_ hIx9_ hFx12_ ⟨?_, trivial⟩ (Nat.lt_succ_self _)
    · first | (exact ⟨y4_, r44_, hst2_⟩) | (exfalso; omega) | (exact ⟨y4_, r44_, by rw [hst_]; exact b1_2 (fun s_ hs_ => ⟨by omega, (wl_tp (wl44_ s_ hs_) (s44_ s_ hs_).2.2.1).2.2.1.mp (by omega)⟩)⟩)
  · have cx7_ : ¬ (vx6_ = 0) := of_decide_eq_false cx7_
    have l1_ : 0 < p_lv (mdo mo_) (lx_kd b_ n_ p_) := e1_.1.mp (by omega)
    have l2_ := e1_.2 (by omega)
    have l3_ := lv_all l1_
    have bx13_ : 0 ≤ S0_.1 13 0 9 ∧ S0_.1 13 0 9 ≤ 1280 := hI_.1 13 0 9 rfl
    refine sm_T_go 4 (c1 := (15, [some (.inr (.inr (some (13, 0)))), some (.inl a_), none], [.inl (S0_.1 13 0 9), .inr (.inr (some (121, 0)))], S0_)) rfl ?_
    refine sm_T_iald (n := 65537) rfl rfl (by omega) (by omega) ?_
    have bx14_ : (-2147483648) ≤ S0_.2.2.1 121 0 (S0_.1 13 0 9).toNat ∧ S0_.2.2.1 121 0 (S0_.1 13 0 9).toNat ≤ 2147483647 := hI_.2 121 0 _
    refine sm_T_cal (d1 := 0) (Q1 := vq_309 (S0_.2.2.1 121 0 (S0_.1 13 0 9).toNat) S0_) rfl rfl (by decide) (vc_309 (S0_.2.2.1 121 0 (S0_.1 13 0 9).toNat) S0_ hI_ ) (fun u_ Sx15_ px18_ => ?_)
    obtain ⟨rfl, vx20_, rfl, px18_⟩ := px18_
    have l16_ : vx20_ = p_lv (mdo mo_) (lx_kd b_ n_ p_) := by rw [px18_, l2_.2.2, l2_.2.1]
    have n16_ := l2_.2.1
    refine sm_T_go 5 (c1 := (27, [some (.inr (.inr (some (13, 0)))), some (.inl a_), some (.inl vx20_)], [.inl 4, .inl vx20_, .inr (.inr (some (13, 0)))], S0_)) rfl ?_
    refine sm_T_br (a := 1) (z := 7) rfl (fun cx21_ => ?_) (fun cx21_ => ?_)
    · have cx21_ : vx20_ ≠ 4 := of_decide_eq_true cx21_
      refine sm_T_go 1 (c1 := (35, [some (.inr (.inr (some (13, 0)))), some (.inl a_), some (.inl vx20_)], [.inl vx20_, .inr (.inr (some (13, 0)))], S0_)) rfl ?_
      refine sm_T_b0 (a := 5) (z := 7) rfl (fun cx22_ => ?_) (fun cx22_ => ?_)
      · have cx22_ : vx20_ ≤ 0 := of_decide_eq_true cx22_
        exfalso; omega
      · have cx22_ : ¬ (vx20_ ≤ 0) := of_decide_eq_false cx22_
        refine sm_T_go 2 (c1 := (44, [some (.inr (.inr (some (13, 0)))), some (.inl a_), some (.inl vx20_)], [.inl vx20_, .inr (.inr (some (13, 0)))], S0_)) rfl ?_
        refine sm_T_cal (d1 := 2) (Q1 := vq_315 vx20_ b_ n_ T_ mo_ p_ (.inr (o_, g_, c_)) S0_) rfl rfl (by decide) (vc_315 vx20_ b_ n_ T_ mo_ p_ (.inr (o_, g_, c_)) S0_ hI_ (by exact ht_) (by exact ⟨hx_, hok_.2.1⟩) (by omega) (by exact hmo_)) (fun u_ Sx23_ px26_ => ?_)
        obtain ⟨rfl, hIx24_, hFx25_, px26_⟩ := px26_
        have hFx27_ : ai_fr (sx_W vw_320) S0_ Sx23_ := ai_fr_tr hF_ (fr_le hFx25_ rfl)
        have ex28_ : Sx23_.1 13 0 9 = S0_.1 13 0 9 := hFx25_.1 13 0 9 rfl
        have wa44_ := px26_.2
        obtain ⟨y4_, hy4_, r44_⟩ := ry_ob px26_.1
        obtain ⟨w44_, ws44_, wl44_⟩ := ry_ws r44_ hIx24_
        have g44_ := ry_rg r44_
        have s44_ := ry_s r44_
        have m44_ := (ry_mo r44_).1
        have t44_ := rtab_fr ht_ hFx25_ rfl rfl rfl rfl rfl
        have at44_ := hFx25_.1 13 0 9 rfl
        have nb44_ : Sx23_.2.2.1 121 0 (Sx23_.1 13 0 9).toNat = S0_.2.2.1 121 0 (S0_.1 13 0 9).toNat := by rw [fr_arr hFx25_ rfl, at44_]
        have op44_ := hFx25_.1 13 0 33 rfl
        have wl4_ := ws44_.1
        first | (have hst_ : p_st b_ n_ (mdo mo_) (p_pm b_ n_ (mdo mo_) A_ M_ K_ f_) (1, false, p_, o_, g_, c_) = pb y4_ (p_B1 b_ n_ (mdo mo_) p_ (p_lv (mdo mo_) (lx_kd b_ n_ p_))) := by rw [pB_l l1_, if_pos (by omega), hy4_]; rfl) | (have hst_ : p_st b_ n_ (mdo mo_) (p_pm b_ n_ (mdo mo_) A_ M_ K_ f_) (1, false, p_, o_, g_, c_) = pb y4_ (p_B1 b_ n_ (mdo mo_) p_ (p_lv (mdo mo_) (lx_kd b_ n_ p_))) := by rw [pB_l l1_, if_neg (by omega), hy4_, l16_]; rfl) | (have hst2_ : p_st b_ n_ (mdo mo_) (p_pm b_ n_ (mdo mo_) A_ M_ K_ f_) (1, false, p_, o_, g_, c_) = pb y4_ (p_B2 b_ n_ (mdo mo_) p_) := by rw [pB_n l0_, hy4_]; show _ = pb (p_se (mdo mo_) 6 o_ g_ c_) _; rw [p_se_st (by have z9_ : -4 ≤ o_tp o_ ∧ o_tp o_ ≤ 5 := o_tp5 hok_.2.1.1; omega)]; rfl)
        refine sm_T_go 1 (c1 := (48, [some (.inr (.inr (some (13, 0)))), some (.inl a_), some (.inl vx20_)], [.inl vx20_], Sx23_)) rfl ?_
        refine sm_T_b0 (a := 5) (z := 41) rfl (fun cx29_ => ?_) (fun cx29_ => ?_)
        · have cx29_ : vx20_ ≤ 0 := of_decide_eq_true cx29_
          exfalso; omega
        · have cx29_ : ¬ (vx20_ ≤ 0) := of_decide_eq_false cx29_
          refine sm_T_go 2 (c1 := (53, [some (.inr (.inr (some (13, 0)))), some (.inl a_), some (.inl vx20_)], [.inl 4, .inl vx20_], Sx23_)) rfl ?_
          refine sm_T_br (a := 1) (z := 13) rfl (fun cx30_ => ?_) (fun cx30_ => ?_)
          · have cx30_ : vx20_ ≠ 4 := of_decide_eq_true cx30_
            have bx31_ : 0 ≤ Sx23_.1 13 0 9 ∧ Sx23_.1 13 0 9 ≤ 1280 := hIx24_.1 13 0 9 rfl
            refine sm_T_go 5 (c1 := (75, [some (.inr (.inr (some (13, 0)))), some (.inl a_), some (.inl vx20_)], [.inl (Sx23_.1 13 0 9), .inr (.inr (some (121, 0))), .inr (.inr (some (13, 0)))], Sx23_)) rfl ?_
            refine sm_T_iald (n := 65537) rfl rfl (by omega) (by omega) ?_
            have bx32_ : (-2147483648) ≤ Sx23_.2.2.1 121 0 (Sx23_.1 13 0 9).toNat ∧ Sx23_.2.2.1 121 0 (Sx23_.1 13 0 9).toNat ≤ 2147483647 := hIx24_.2 121 0 _
            refine sm_T_go 2 (c1 := (80, [some (.inr (.inr (some (13, 0)))), some (.inl a_), some (.inl vx20_)], [.inl (Sx23_.1 13 0 9), .inl (Sx23_.2.2.1 121 0 (Sx23_.1 13 0 9).toNat), .inr (.inr (some (13, 0)))], Sx23_)) rfl ?_
            refine sm_T_cal (d1 := 0) (Q1 := vq_311 (Sx23_.2.2.1 121 0 (Sx23_.1 13 0 9).toNat) (Sx23_.1 13 0 9) w44_ Sx23_) rfl rfl (by decide) (vc_311 (Sx23_.2.2.1 121 0 (Sx23_.1 13 0 9).toNat) (Sx23_.1 13 0 9) w44_ Sx23_ hIx24_ (by exact ws44_) (by omega) (by omega) (by omega)) (fun u_ Sx33_ px36_ => ?_)
            obtain ⟨rfl, hIx34_, hFx35_, px36_⟩ := px36_
            have hFx37_ : ai_fr (sx_W vw_320) S0_ Sx33_ := ai_fr_tr hFx27_ (fr_le hFx35_ rfl)
            have ex38_ : Sx33_.1 13 0 9 = Sx23_.1 13 0 9 := hFx35_.1 13 0 9 rfl
            have ws80_ := px36_
            have g80_ := rg_fr g44_ hFx35_ rfl rfl rfl
            have t80_ := rtab_fr t44_ hFx35_ rfl rfl rfl rfl rfl
            have m80_ := (hFx35_.1 13 0 27 rfl).trans m44_
            have s80_ : ∀ s_, y4_ = .inr s_ → wl b_ n_ T_ s_.1 w44_ ∧ Sx33_.1 13 0 33 = (o_mk s_.1 : Int) ∧ vs mo_ s_.2.1 Sx33_ := fun s_ hs_ => ⟨wl44_ s_ hs_, (hFx35_.1 13 0 33 rfl).trans (s44_ s_ hs_).1, vs_fr (s44_ s_ hs_).2.1 hFx35_ rfl rfl rfl⟩
            rw [nb44_, at44_, n16_, hi1_] at ws80_
            refine sm_T_go 1 (c1 := (84, [some (.inr (.inr (some (13, 0)))), some (.inl a_), some (.inl vx20_)], [.inr (.inr (some (13, 0)))], Sx33_)) rfl ?_
            refine sm_T_cal (d1 := 2) (Q1 := vq_297 b_ n_ T_ (pb y4_ fun _ => .inr p_) Sx33_) rfl rfl (by decide) (vc_297 b_ n_ T_ (pb y4_ fun _ => .inr p_) Sx33_ hIx34_ (by exact t80_) (by exact g80_) (by (intro q_ e_; obtain ⟨a9_, z1_, z2_⟩ := pb_inr e_; cases z2_; omega))) (fun u_ Sx39_ px42_ => ?_)
            obtain ⟨rfl, hIx40_, hFx41_, px42_⟩ := px42_
            have hFx43_ : ai_fr (sx_W vw_320) S0_ Sx39_ := ai_fr_tr hFx37_ (fr_le hFx41_ rfl)
            have g84_ := px42_.1
            have ws84_ := ws_fr ws80_ hFx41_ rfl rfl rfl
            have wl84_ := ws84_.1
            simp only [List.length_cons] at wl84_
            have m84_ := (hFx41_.1 13 0 27 rfl).trans m80_
            have s84_ : ∀ s_, y4_ = .inr s_ → wl b_ n_ T_ s_.1 w44_ ∧ Sx39_.1 13 0 33 = (o_mk s_.1 : Int) ∧ vs mo_ s_.2.1 Sx39_ := fun s_ hs_ => ⟨(s80_ s_ hs_).1, (hFx41_.1 13 0 33 rfl).trans (s80_ s_ hs_).2.1, vs_fr (s80_ s_ hs_).2.2 hFx41_ rfl rfl rfl⟩
            refine sm_T_go 1 (c1 := (88, [some (.inr (.inr (some (13, 0)))), some (.inl a_), some (.inl vx20_)], [.inl 0], Sx39_)) rfl ?_
            refine sm_T_ri rfl ⟨_, _, rfl, _, rfl, hIx40_, hFx43_, ?_⟩
            first | (exfalso; omega) | (rw [hst_, b1_h l1_ (fun s_ hs_ => by first | (left; omega) | (right; intro z_; have z2_ := (wl_tp (wl44_ s_ hs_) (s44_ s_ hs_).2.2.1).2.2.1.mpr z_; omega))]; exact rq_h ⟨l1_, l3_.1⟩ (rp_rtp ht_ hi2_ (by omega)) s84_ ws84_ m84_ (by omega) g84_)
          · have cx30_ : ¬ (vx20_ ≠ 4) := of_decide_eq_false cx30_
            refine sm_T_go 1 (c1 := (57, [some (.inr (.inr (some (13, 0)))), some (.inl a_), some (.inl vx20_)], [.inr (.inr (some (13, 0)))], Sx23_)) rfl ?_
            refine sm_T_cal (d1 := 0) (Q1 := vq_312 w44_ Sx23_) rfl rfl (by decide) (vc_312 w44_ Sx23_ hIx24_ (by exact ws44_)) (fun u_ Sx44_ px47_ => ?_)
            obtain ⟨rfl, vx49_, rfl, px47_⟩ := px47_
            have e57_ := px47_
            refine sm_T_go 1 (c1 := (63, [some (.inr (.inr (some (13, 0)))), some (.inl a_), some (.inl vx20_)], [.inl 257, .inl vx49_], Sx23_)) rfl ?_
            refine sm_T_br (a := 0) (z := 26) rfl (fun cx50_ => ?_) (fun cx50_ => ?_)
            · have cx50_ : vx49_ = 257 := of_decide_eq_true cx50_
              refine sm_T_go 0 (c1 := (89, [some (.inr (.inr (some (13, 0)))), some (.inl a_), some (.inl vx20_)], [], Sx23_)) rfl ?_
              refine sm_T_wk [some (.inr (.inr (some (13, 0)))), some (.inl a_), none] (by exact ⟨rfl, rfl, trivial⟩) ?_
              refine (vl_320 a_ b_ n_ T_ mo_ p_ o_ g_ c_ A_ M_ K_ f_ S0_ ha_ ht_ hx_ hok_ hmo_ _).1  Sx23_ hIx24_ hFx27_ ⟨?_, trivial⟩ (Nat.lt_succ_self _)
              · first | (exact ⟨y4_, r44_, hst2_⟩) | (exfalso; omega) | (exact ⟨y4_, r44_, by rw [hst_]; exact b1_2 (fun s_ hs_ => ⟨by omega, (wl_tp (wl44_ s_ hs_) (s44_ s_ hs_).2.2.1).2.2.1.mp (by omega)⟩)⟩)
            · have cx50_ : ¬ (vx49_ = 257) := of_decide_eq_false cx50_
              have bx51_ : 0 ≤ Sx23_.1 13 0 9 ∧ Sx23_.1 13 0 9 ≤ 1280 := hIx24_.1 13 0 9 rfl
              refine sm_T_go 5 (c1 := (75, [some (.inr (.inr (some (13, 0)))), some (.inl a_), some (.inl vx20_)], [.inl (Sx23_.1 13 0 9), .inr (.inr (some (121, 0))), .inr (.inr (some (13, 0)))], Sx23_)) rfl ?_
              refine sm_T_iald (n := 65537) rfl rfl (by omega) (by omega) ?_
              have bx52_ : (-2147483648) ≤ Sx23_.2.2.1 121 0 (Sx23_.1 13 0 9).toNat ∧ Sx23_.2.2.1 121 0 (Sx23_.1 13 0 9).toNat ≤ 2147483647 := hIx24_.2 121 0 _
              refine sm_T_go 2 (c1 := (80, [some (.inr (.inr (some (13, 0)))), some (.inl a_), some (.inl vx20_)], [.inl (Sx23_.1 13 0 9), .inl (Sx23_.2.2.1 121 0 (Sx23_.1 13 0 9).toNat), .inr (.inr (some (13, 0)))], Sx23_)) rfl ?_
              refine sm_T_cal (d1 := 0) (Q1 := vq_311 (Sx23_.2.2.1 121 0 (Sx23_.1 13 0 9).toNat) (Sx23_.1 13 0 9) w44_ Sx23_) rfl rfl (by decide) (vc_311 (Sx23_.2.2.1 121 0 (Sx23_.1 13 0 9).toNat) (Sx23_.1 13 0 9) w44_ Sx23_ hIx24_ (by exact ws44_) (by omega) (by omega) (by omega)) (fun u_ Sx53_ px56_ => ?_)
              obtain ⟨rfl, hIx54_, hFx55_, px56_⟩ := px56_
              have hFx57_ : ai_fr (sx_W vw_320) S0_ Sx53_ := ai_fr_tr hFx27_ (fr_le hFx55_ rfl)
              have ex58_ : Sx53_.1 13 0 9 = Sx23_.1 13 0 9 := hFx55_.1 13 0 9 rfl
              have ws80_ := px56_
              have g80_ := rg_fr g44_ hFx55_ rfl rfl rfl
              have t80_ := rtab_fr t44_ hFx55_ rfl rfl rfl rfl rfl
              have m80_ := (hFx55_.1 13 0 27 rfl).trans m44_
              have s80_ : ∀ s_, y4_ = .inr s_ → wl b_ n_ T_ s_.1 w44_ ∧ Sx53_.1 13 0 33 = (o_mk s_.1 : Int) ∧ vs mo_ s_.2.1 Sx53_ := fun s_ hs_ => ⟨wl44_ s_ hs_, (hFx55_.1 13 0 33 rfl).trans (s44_ s_ hs_).1, vs_fr (s44_ s_ hs_).2.1 hFx55_ rfl rfl rfl⟩
              rw [nb44_, at44_, n16_, hi1_] at ws80_
              refine sm_T_go 1 (c1 := (84, [some (.inr (.inr (some (13, 0)))), some (.inl a_), some (.inl vx20_)], [.inr (.inr (some (13, 0)))], Sx53_)) rfl ?_
              refine sm_T_cal (d1 := 2) (Q1 := vq_297 b_ n_ T_ (pb y4_ fun _ => .inr p_) Sx53_) rfl rfl (by decide) (vc_297 b_ n_ T_ (pb y4_ fun _ => .inr p_) Sx53_ hIx54_ (by exact t80_) (by exact g80_) (by (intro q_ e_; obtain ⟨a9_, z1_, z2_⟩ := pb_inr e_; cases z2_; omega))) (fun u_ Sx59_ px62_ => ?_)
              obtain ⟨rfl, hIx60_, hFx61_, px62_⟩ := px62_
              have hFx63_ : ai_fr (sx_W vw_320) S0_ Sx59_ := ai_fr_tr hFx57_ (fr_le hFx61_ rfl)
              have g84_ := px62_.1
              have ws84_ := ws_fr ws80_ hFx61_ rfl rfl rfl
              have wl84_ := ws84_.1
              simp only [List.length_cons] at wl84_
              have m84_ := (hFx61_.1 13 0 27 rfl).trans m80_
              have s84_ : ∀ s_, y4_ = .inr s_ → wl b_ n_ T_ s_.1 w44_ ∧ Sx59_.1 13 0 33 = (o_mk s_.1 : Int) ∧ vs mo_ s_.2.1 Sx59_ := fun s_ hs_ => ⟨(s80_ s_ hs_).1, (hFx61_.1 13 0 33 rfl).trans (s80_ s_ hs_).2.1, vs_fr (s80_ s_ hs_).2.2 hFx61_ rfl rfl rfl⟩
              refine sm_T_go 1 (c1 := (88, [some (.inr (.inr (some (13, 0)))), some (.inl a_), some (.inl vx20_)], [.inl 0], Sx59_)) rfl ?_
              refine sm_T_ri rfl ⟨_, _, rfl, _, rfl, hIx60_, hFx63_, ?_⟩
              first | (exfalso; omega) | (rw [hst_, b1_h l1_ (fun s_ hs_ => by first | (left; omega) | (right; intro z_; have z2_ := (wl_tp (wl44_ s_ hs_) (s44_ s_ hs_).2.2.1).2.2.1.mpr z_; omega))]; exact rq_h ⟨l1_, l3_.1⟩ (rp_rtp ht_ hi2_ (by omega)) s84_ ws84_ m84_ (by omega) g84_)
    · have cx21_ : ¬ (vx20_ ≠ 4) := of_decide_eq_false cx21_
      refine sm_T_go 2 (c1 := (44, [some (.inr (.inr (some (13, 0)))), some (.inl a_), some (.inl vx20_)], [.inl 5, .inr (.inr (some (13, 0)))], S0_)) rfl ?_
      refine sm_T_cal (d1 := 2) (Q1 := vq_315 5 b_ n_ T_ mo_ p_ (.inr (o_, g_, c_)) S0_) rfl rfl (by decide) (vc_315 5 b_ n_ T_ mo_ p_ (.inr (o_, g_, c_)) S0_ hI_ (by exact ht_) (by exact ⟨hx_, hok_.2.1⟩) (by omega) (by exact hmo_)) (fun u_ Sx64_ px67_ => ?_)
      obtain ⟨rfl, hIx65_, hFx66_, px67_⟩ := px67_
      have hFx68_ : ai_fr (sx_W vw_320) S0_ Sx64_ := ai_fr_tr hF_ (fr_le hFx66_ rfl)
      have ex69_ : Sx64_.1 13 0 9 = S0_.1 13 0 9 := hFx66_.1 13 0 9 rfl
      have wa44_ := px67_.2
      obtain ⟨y4_, hy4_, r44_⟩ := ry_ob px67_.1
      obtain ⟨w44_, ws44_, wl44_⟩ := ry_ws r44_ hIx65_
      have g44_ := ry_rg r44_
      have s44_ := ry_s r44_
      have m44_ := (ry_mo r44_).1
      have t44_ := rtab_fr ht_ hFx66_ rfl rfl rfl rfl rfl
      have at44_ := hFx66_.1 13 0 9 rfl
      have nb44_ : Sx64_.2.2.1 121 0 (Sx64_.1 13 0 9).toNat = S0_.2.2.1 121 0 (S0_.1 13 0 9).toNat := by rw [fr_arr hFx66_ rfl, at44_]
      have op44_ := hFx66_.1 13 0 33 rfl
      have wl4_ := ws44_.1
      first | (have hst_ : p_st b_ n_ (mdo mo_) (p_pm b_ n_ (mdo mo_) A_ M_ K_ f_) (1, false, p_, o_, g_, c_) = pb y4_ (p_B1 b_ n_ (mdo mo_) p_ (p_lv (mdo mo_) (lx_kd b_ n_ p_))) := by rw [pB_l l1_, if_pos (by omega), hy4_]; rfl) | (have hst_ : p_st b_ n_ (mdo mo_) (p_pm b_ n_ (mdo mo_) A_ M_ K_ f_) (1, false, p_, o_, g_, c_) = pb y4_ (p_B1 b_ n_ (mdo mo_) p_ (p_lv (mdo mo_) (lx_kd b_ n_ p_))) := by rw [pB_l l1_, if_neg (by omega), hy4_, l16_]; rfl) | (have hst2_ : p_st b_ n_ (mdo mo_) (p_pm b_ n_ (mdo mo_) A_ M_ K_ f_) (1, false, p_, o_, g_, c_) = pb y4_ (p_B2 b_ n_ (mdo mo_) p_) := by rw [pB_n l0_, hy4_]; show _ = pb (p_se (mdo mo_) 6 o_ g_ c_) _; rw [p_se_st (by have z9_ : -4 ≤ o_tp o_ ∧ o_tp o_ ≤ 5 := o_tp5 hok_.2.1.1; omega)]; rfl)
      refine sm_T_go 1 (c1 := (48, [some (.inr (.inr (some (13, 0)))), some (.inl a_), some (.inl vx20_)], [.inl vx20_], Sx64_)) rfl ?_
      refine sm_T_b0 (a := 5) (z := 41) rfl (fun cx70_ => ?_) (fun cx70_ => ?_)
      · have cx70_ : vx20_ ≤ 0 := of_decide_eq_true cx70_
        exfalso; omega
      · have cx70_ : ¬ (vx20_ ≤ 0) := of_decide_eq_false cx70_
        refine sm_T_go 2 (c1 := (53, [some (.inr (.inr (some (13, 0)))), some (.inl a_), some (.inl vx20_)], [.inl 4, .inl vx20_], Sx64_)) rfl ?_
        refine sm_T_br (a := 1) (z := 13) rfl (fun cx71_ => ?_) (fun cx71_ => ?_)
        · have cx71_ : vx20_ ≠ 4 := of_decide_eq_true cx71_
          exfalso; omega
        · have cx71_ : ¬ (vx20_ ≠ 4) := of_decide_eq_false cx71_
          refine sm_T_go 1 (c1 := (57, [some (.inr (.inr (some (13, 0)))), some (.inl a_), some (.inl vx20_)], [.inr (.inr (some (13, 0)))], Sx64_)) rfl ?_
          refine sm_T_cal (d1 := 0) (Q1 := vq_312 w44_ Sx64_) rfl rfl (by decide) (vc_312 w44_ Sx64_ hIx65_ (by exact ws44_)) (fun u_ Sx72_ px75_ => ?_)
          obtain ⟨rfl, vx77_, rfl, px75_⟩ := px75_
          have e57_ := px75_
          refine sm_T_go 1 (c1 := (63, [some (.inr (.inr (some (13, 0)))), some (.inl a_), some (.inl vx20_)], [.inl 257, .inl vx77_], Sx64_)) rfl ?_
          refine sm_T_br (a := 0) (z := 26) rfl (fun cx78_ => ?_) (fun cx78_ => ?_)
          · have cx78_ : vx77_ = 257 := of_decide_eq_true cx78_
            refine sm_T_go 0 (c1 := (89, [some (.inr (.inr (some (13, 0)))), some (.inl a_), some (.inl vx20_)], [], Sx64_)) rfl ?_
            refine sm_T_wk [some (.inr (.inr (some (13, 0)))), some (.inl a_), none] (by exact ⟨rfl, rfl, trivial⟩) ?_
            refine (vl_320 a_ b_ n_ T_ mo_ p_ o_ g_ c_ A_ M_ K_ f_ S0_ ha_ ht_ hx_ hok_ hmo_ _).1  Sx64_ hIx65_ hFx68_ ⟨?_, trivial⟩ (Nat.lt_succ_self _)
            · first | (exact ⟨y4_, r44_, hst2_⟩) | (exfalso; omega) | (exact ⟨y4_, r44_, by rw [hst_]; exact b1_2 (fun s_ hs_ => ⟨by omega, (wl_tp (wl44_ s_ hs_) (s44_ s_ hs_).2.2.1).2.2.1.mp (by omega)⟩)⟩)
          · have cx78_ : ¬ (vx77_ = 257) := of_decide_eq_false cx78_
            have bx79_ : 0 ≤ Sx64_.1 13 0 9 ∧ Sx64_.1 13 0 9 ≤ 1280 := hIx65_.1 13 0 9 rfl
            refine sm_T_go 5 (c1 := (75, [some (.inr (.inr (some (13, 0)))), some (.inl a_), some (.inl vx20_)], [.inl (Sx64_.1 13 0 9), .inr (.inr (some (121, 0))), .inr (.inr (some (13, 0)))], Sx64_)) rfl ?_
            refine sm_T_iald (n := 65537) rfl rfl (by omega) (by omega) ?_
            have bx80_ : (-2147483648) ≤ Sx64_.2.2.1 121 0 (Sx64_.1 13 0 9).toNat ∧ Sx64_.2.2.1 121 0 (Sx64_.1 13 0 9).toNat ≤ 2147483647 := hIx65_.2 121 0 _
            refine sm_T_go 2 (c1 := (80, [some (.inr (.inr (some (13, 0)))), some (.inl a_), some (.inl vx20_)], [.inl (Sx64_.1 13 0 9), .inl (Sx64_.2.2.1 121 0 (Sx64_.1 13 0 9).toNat), .inr (.inr (some (13, 0)))], Sx64_)) rfl ?_
            refine sm_T_cal (d1 := 0) (Q1 := vq_311 (Sx64_.2.2.1 121 0 (Sx64_.1 13 0 9).toNat) (Sx64_.1 13 0 9) w44_ Sx64_) rfl rfl (by decide) (vc_311 (Sx64_.2.2.1 121 0 (Sx64_.1 13 0 9).toNat) (Sx64_.1 13 0 9) w44_ Sx64_ hIx65_ (by exact ws44_) (by omega) (by omega) (by omega)) (fun u_ Sx81_ px84_ => ?_)
            obtain ⟨rfl, hIx82_, hFx83_, px84_⟩ := px84_
            have hFx85_ : ai_fr (sx_W vw_320) S0_ Sx81_ := ai_fr_tr hFx68_ (fr_le hFx83_ rfl)
            have ex86_ : Sx81_.1 13 0 9 = Sx64_.1 13 0 9 := hFx83_.1 13 0 9 rfl
            have ws80_ := px84_
            have g80_ := rg_fr g44_ hFx83_ rfl rfl rfl
            have t80_ := rtab_fr t44_ hFx83_ rfl rfl rfl rfl rfl
            have m80_ := (hFx83_.1 13 0 27 rfl).trans m44_
            have s80_ : ∀ s_, y4_ = .inr s_ → wl b_ n_ T_ s_.1 w44_ ∧ Sx81_.1 13 0 33 = (o_mk s_.1 : Int) ∧ vs mo_ s_.2.1 Sx81_ := fun s_ hs_ => ⟨wl44_ s_ hs_, (hFx83_.1 13 0 33 rfl).trans (s44_ s_ hs_).1, vs_fr (s44_ s_ hs_).2.1 hFx83_ rfl rfl rfl⟩
            rw [nb44_, at44_, n16_, hi1_] at ws80_
            refine sm_T_go 1 (c1 := (84, [some (.inr (.inr (some (13, 0)))), some (.inl a_), some (.inl vx20_)], [.inr (.inr (some (13, 0)))], Sx81_)) rfl ?_
            refine sm_T_cal (d1 := 2) (Q1 := vq_297 b_ n_ T_ (pb y4_ fun _ => .inr p_) Sx81_) rfl rfl (by decide) (vc_297 b_ n_ T_ (pb y4_ fun _ => .inr p_) Sx81_ hIx82_ (by exact t80_) (by exact g80_) (by (intro q_ e_; obtain ⟨a9_, z1_, z2_⟩ := pb_inr e_; cases z2_; omega))) (fun u_ Sx87_ px90_ => ?_)
            obtain ⟨rfl, hIx88_, hFx89_, px90_⟩ := px90_
            have hFx91_ : ai_fr (sx_W vw_320) S0_ Sx87_ := ai_fr_tr hFx85_ (fr_le hFx89_ rfl)
            have g84_ := px90_.1
            have ws84_ := ws_fr ws80_ hFx89_ rfl rfl rfl
            have wl84_ := ws84_.1
            simp only [List.length_cons] at wl84_
            have m84_ := (hFx89_.1 13 0 27 rfl).trans m80_
            have s84_ : ∀ s_, y4_ = .inr s_ → wl b_ n_ T_ s_.1 w44_ ∧ Sx87_.1 13 0 33 = (o_mk s_.1 : Int) ∧ vs mo_ s_.2.1 Sx87_ := fun s_ hs_ => ⟨(s80_ s_ hs_).1, (hFx89_.1 13 0 33 rfl).trans (s80_ s_ hs_).2.1, vs_fr (s80_ s_ hs_).2.2 hFx89_ rfl rfl rfl⟩
            refine sm_T_go 1 (c1 := (88, [some (.inr (.inr (some (13, 0)))), some (.inl a_), some (.inl vx20_)], [.inl 0], Sx87_)) rfl ?_
            refine sm_T_ri rfl ⟨_, _, rfl, _, rfl, hIx88_, hFx91_, ?_⟩
            first | (exfalso; omega) | (rw [hst_, b1_h l1_ (fun s_ hs_ => by first | (left; omega) | (right; intro z_; have z2_ := (wl_tp (wl44_ s_ hs_) (s44_ s_ hs_).2.2.1).2.2.1.mpr z_; omega))]; exact rq_h ⟨l1_, l3_.1⟩ (rp_rtp ht_ hi2_ (by omega)) s84_ ws84_ m84_ (by omega) g84_)
end
/-! 99.yja -/
section
/-! the reference: expressions; written by wip/p55/gen/vg -/

/-! where an_ expression ends -/
theorem dn_B3 {b_ : Nat → Int} {n_ p_ : Nat} {md_ : Bool} {s_ : pO} {r_ : pR} (e_ : p_B3 b_ n_ md_ p_ s_ = .inr (.inr r_)) : s_.1 = [] ∧ r_ = (p_, s_.2.1, s_.2.2) := by
  obtain ⟨so_, sg_, sc_⟩ := s_
  cases so_ with
  | nil => cases e_; exact ⟨rfl, rfl⟩
  | cons a_ l_ =>
    obtain ⟨k1_, q1_⟩ := a_
    rw [pB3_g] at e_
    split at e_
    · split at e_
      · obtain ⟨q_, h3_, h4_⟩ := pb_inr e_; cases h4_
      · cases e_
    · split at e_
      · obtain ⟨q_, h3_, h4_⟩ := pb_inr e_; cases h4_
      · cases e_
theorem dn_B2 {b_ : Nat → Int} {n_ p_ : Nat} {md_ : Bool} {s_ : pO} {r_ : pR} (hs_ : s_ok md_ 1 s_) (hc_ : s_.2.2.length + s_.1.length ≤ 3 * p_) (e_ : p_B2 b_ n_ md_ p_ s_ = .inr (.inr r_)) : r_.1 = p_ ∧ r_.2.1.length = 1 ∧ h_ok r_.2.1 ∧ r_.2.2.length ≤ 3 * p_ := by
  unfold p_B2 at e_
  split at e_
  · obtain ⟨s2_, h1_, h2_⟩ := pb_inr e_
    split at h2_
    · cases h2_
    · split at h2_
      · cases h2_
      · obtain ⟨q_, h3_, h4_⟩ := pb_inr h2_; cases h4_
  · obtain ⟨s2_, h1_, h2_⟩ := pb_inr e_
    have k_ := p_sa_ok s_.1 s_.2.1 s_.2.2 s2_ hs_ h1_
    obtain ⟨h3_, h4_⟩ := dn_B3 h2_
    have k1_ := k_.1.2.2.1
    have k2_ := k_.2.1
    rw [h3_] at k1_ k2_
    subst h4_
    exact ⟨rfl, k1_, k_.1.2.2.2, by show s2_.2.2.length ≤ 3 * p_; simp only [List.length_nil] at k2_; omega⟩
theorem dn_A {b_ : Nat → Int} {n_ p_ : Nat} {md_ t_ : Bool} {pr_ : pPr} {o_ : List (Int × Nat)} {g_ c_ : List Int} {r_ : pR} (e_ : p_sA b_ n_ md_ pr_ t_ p_ o_ g_ c_ = .inr (.inr r_)) : False := by
  unfold p_sA at e_
  split at e_
  · obtain ⟨q_, h3_, h4_⟩ := pb_inr e_; cases h4_
  · split at e_
    · split at e_
      · cases e_
      · obtain ⟨q_, h3_, h4_⟩ := pb_inr e_; cases h4_
    · obtain ⟨q_, h3_, h4_⟩ := pb_inr e_; cases h4_
theorem dn_st {b_ : Nat → Int} {n_ : Nat} {md_ : Bool} {pr_ : pPr} {x_ : pX} {r_ : pR} (hx_ : x_ok b_ n_ md_ x_) (e_ : p_st b_ n_ md_ pr_ x_ = .inr (.inr r_)) : x_.1 ≠ 0 ∧ r_.1 = x_.2.2.1 ∧ r_.2.1.length = 1 ∧ h_ok r_.2.1 ∧ r_.2.2.length ≤ 3 * r_.1 := by
  unfold p_st at e_
  split at e_
  · exact (dn_A e_).elim
  · rename_i g_
    have h0_ : x_.1 = 1 := by have := hx_.1; omega
    have hs_ : s_ok md_ 1 (x_.2.2.2.1, x_.2.2.2.2.1, x_.2.2.2.2.2) := h0_ ▸ hx_.2.1
    have hc_ : x_.2.2.2.2.2.length + x_.2.2.2.1.length ≤ 3 * x_.2.2.1 := Nat.le_trans (Nat.le_add_right _ _) hx_.2.2.2.2
    refine ⟨g_, ?_⟩
    unfold p_sB at e_
    split at e_
    · rename_i hl_
      obtain ⟨s2_, h1_, h2_⟩ := pb_inr e_
      have k_ := p_se_ok (by split <;> omega) x_.2.2.2.1 x_.2.2.2.2.1 x_.2.2.2.2.2 s2_ hs_ h1_
      unfold p_B1 at h2_
      split at h2_
      · obtain ⟨q_, h3_, h4_⟩ := pb_inr h2_; cases h4_
      · have k2_ := dn_B2 k_.1 (Nat.le_trans k_.2.2.1 hc_) h2_
        exact ⟨k2_.1, k2_.2.1, k2_.2.2.1, by rw [k2_.1]; exact k2_.2.2.2⟩
    · have k2_ := dn_B2 hs_ hc_ e_
      exact ⟨k2_.1, k2_.2.1, k2_.2.2.1, by rw [k2_.1]; exact k2_.2.2.2⟩
theorem xr_ok {b_ : Nat → Int} {n_ : Nat} {md_ : Bool} {pr_ : pPr} (hn_ : n_ ≤ 1280) (hpr_ : pr_ok b_ n_ pr_) : ∀ (f_ : Nat) (x_ : pX) (r_ : pR), x_ok b_ n_ md_ x_ → p_xr b_ n_ md_ pr_ f_ x_ = some (.inr r_) → x_.2.2.1 ≤ r_.1 ∧ (x_.1 = 0 → x_.2.2.1 < r_.1) ∧ r_.1 ≤ n_ ∧ lx_kd b_ n_ r_.1 ≠ -1 ∧ r_.2.1.length = 1 ∧ h_ok r_.2.1 ∧ r_.2.2.length ≤ 3 * r_.1
  | 0, x_, r_, _, h_ => by cases h_
  | f_ + 1, x_, r_, hx_, h_ => by
    rw [p_xr] at h_
    cases hs_ : p_st b_ n_ md_ pr_ x_ with
    | inl e_ => rw [hs_] at h_; cases h_
    | inr z_ =>
      cases z_ with
      | inl y_ =>
        rw [hs_] at h_
        have k_ := xr_ok hn_ hpr_ f_ y_ r_ (x_st hn_ hpr_ hx_ hs_) h_
        have lt_ := p_st_lt hpr_ hx_ hs_
        exact ⟨by omega, fun _ => by omega, k_.2.2⟩
      | inr r2_ =>
        rw [hs_] at h_
        cases h_
        have k_ := dn_st hx_ hs_
        exact ⟨by omega, fun z_ => absurd z_ k_.1, by rw [k_.2.1]; exact hx_.2.2.1, by rw [k_.2.1]; exact hx_.2.2.2.1, k_.2.2⟩
theorem pex_ok {b_ : Nat → Int} {n_ p_ : Nat} {md_ : Bool} {pr_ : pPr} {c_ : List Int} {r_ : pR} (hn_ : n_ ≤ 1280) (hpr_ : pr_ok b_ n_ pr_) (hp_ : p_ ≤ n_) (hk_ : lx_kd b_ n_ p_ ≠ -1) (hc_ : c_.length ≤ 3 * p_) (e_ : p_ex b_ n_ md_ pr_ c_ p_ = .inr r_) : p_ < r_.1 ∧ r_.1 ≤ n_ ∧ lx_kd b_ n_ r_.1 ≠ -1 ∧ r_.2.1.length = 1 ∧ h_ok r_.2.1 ∧ r_.2.2.length ≤ 3 * r_.1 := by
  have h1_ := p_ex_x (md_ := md_) hn_ hpr_ hp_ hk_ hc_
  rw [e_] at h1_
  obtain ⟨f_, h2_⟩ := h1_
  have k_ := xr_ok hn_ hpr_ f_ _ r_ (x_ok_0 hp_ hk_ hc_) h2_
  exact ⟨k_.2.1 rfl, k_.2.2⟩
theorem xx_t {b_ : Nat → Int} {n_ p_ : Nat} {md_ t_ : Bool} {pr_ : pPr} {o_ : List (Int × Nat)} {g_ c_ : List Int} {R_ : pE pR} (h_ : p_xx b_ n_ md_ pr_ (1, t_, p_, o_, g_, c_) R_) : p_xx b_ n_ md_ pr_ (1, false, p_, o_, g_, c_) R_ := by
  obtain ⟨f_, h_⟩ := h_
  refine ⟨f_, ?_⟩
  cases f_ with
  | zero => cases h_
  | succ f_ => exact h_
theorem xo_t {b_ : Nat → Int} {n_ p_ : Nat} {md_ t_ : Bool} {o_ : List (Int × Nat)} {g_ c_ : List Int} (h_ : x_ok b_ n_ md_ (1, t_, p_, o_, g_, c_)) : x_ok b_ n_ md_ (1, false, p_, o_, g_, c_) :=
  ⟨h_.1, h_.2.1, h_.2.2.1, h_.2.2.2.1, Nat.le_trans (Nat.add_le_add_left (Nat.zero_le _) _) h_.2.2.2.2⟩
/-- between the_ steps of_ an_ expression -/
def ri (b_ : Nat → Int) (n_ T_ : Nat) (mo_ : Int) (pr_ : pPr) (R_ : pE pR) (k_ : Int) (S_ : sm_S) : Prop := (∃ e_, R_ = .inl e_ ∧ rwr mo_ e_ S_) ∨ (∃ t_ p_ o_ g_ c_, k_ = 0 ∧ rx b_ n_ T_ mo_ t_ 0 p_ o_ g_ S_ ∧ x_ok b_ n_ (mdo mo_) (0, t_, p_, o_, g_, c_) ∧ p_xx b_ n_ (mdo mo_) pr_ (0, t_, p_, o_, g_, c_) R_) ∨ (∃ p_ o_ g_ c_, k_ = 1 ∧ rx b_ n_ T_ mo_ false 1 p_ o_ g_ S_ ∧ x_ok b_ n_ (mdo mo_) (1, false, p_, o_, g_, c_) ∧ p_xx b_ n_ (mdo mo_) pr_ (1, false, p_, o_, g_, c_) R_) ∨ (∃ r_, k_ = 2 ∧ R_ = .inr r_ ∧ rx b_ n_ T_ mo_ false 1 r_.1 [] r_.2.1 S_ ∧ r_.2.1.length = 1)
theorem ri_st {b_ : Nat → Int} {n_ T_ : Nat} {mo_ k_ : Int} {pr_ : pPr} {R_ : pE pR} {S_ : sm_S} {x_ : pX} (hn_ : n_ ≤ 1280) (hpr_ : pr_ok b_ n_ pr_) (hx_ : x_ok b_ n_ (mdo mo_) x_) (hR_ : p_xx b_ n_ (mdo mo_) pr_ x_ R_) (hq_ : rq b_ n_ T_ mo_ (p_st b_ n_ (mdo mo_) pr_ x_) k_ S_) : ri b_ n_ T_ mo_ pr_ R_ k_ S_ := by
  cases hs_ : p_st b_ n_ (mdo mo_) pr_ x_ with
  | inl e_ => rw [hs_] at hq_; exact Or.inl ⟨e_, p_er hR_ hs_, hq_⟩
  | inr z_ =>
    cases z_ with
    | inl y_ =>
      rw [hs_] at hq_
      have k1_ := p_go hn_ hpr_ hx_ hR_ hs_
      obtain ⟨ph_, t_, p_, o_, g_, c_⟩ := y_
      have k2_ : ph_ ≤ 1 := k1_.1.1
      rcases Nat.lt_or_ge ph_ 1 with z_ | z_
      · have z_ : ph_ = 0 := by omega
        subst z_
        exact Or.inr (Or.inl ⟨t_, p_, o_, g_, c_, hq_.2, hq_.1, k1_.1, k1_.2⟩)
      · have z_ : ph_ = 1 := by omega
        subst z_
        obtain ⟨q1_, ⟨w_, q2_, q3_⟩, q4_⟩ := hq_.1
        refine Or.inr (Or.inr (Or.inl ⟨p_, o_, g_, c_, hq_.2, ⟨q1_, ⟨w_, q2_, ?_⟩, q4_⟩, xo_t k1_.1, xx_t k1_.2⟩))
        rcases q3_ with q3_ | q3_
        · exact absurd q3_.1 (show ¬ (1 : Nat) = 0 by decide)
        · exact Or.inr q3_
    | inr r_ =>
      rw [hs_] at hq_
      have k1_ := dn_st hx_ hs_
      exact Or.inr (Or.inr (Or.inr ⟨r_, hq_.2, p_dn hR_ hs_, hq_.1, k1_.2.2.1⟩))
def r_ms (k_ : Int) (S_ : sm_S) : Nat := if S_.1 13 0 10 ≠ 0 ∨ k_ = 2 then 0 else (1301 - S_.2.2.1 120 0 (S_.1 13 0 9).toNat).toNat
theorem rms_x {b_ : Nat → Int} {n_ T_ p_ : Nat} {S_ : sm_S} {k_ : Int} (ht_ : rtab b_ n_ T_ S_) (hg_ : rg b_ n_ T_ (.inr p_) S_) (hk_ : k_ ≠ 2) : r_ms k_ S_ = 1301 - p_ ∧ p_ ≤ 1280 := by
  obtain ⟨i_, h1_, h2_⟩ := hg_.2
  have h3_ := rp_at ht_ h2_
  have hn_ := ht_.1
  unfold r_ms
  rw [if_neg (by rintro (z_ | z_); exact z_ hg_.1; exact hk_ z_), show (S_.1 13 0 9).toNat = i_ by omega, h3_.2.1]
  have h4_ := h3_.2.2.2.1
  omega
theorem rms_0 {S_ : sm_S} {k_ : Int} (h_ : S_.1 13 0 10 ≠ 0 ∨ k_ = 2) : r_ms k_ S_ = 0 := if_pos h_
theorem ri_ms {b_ : Nat → Int} {n_ T_ : Nat} {mo_ k_ : Int} {pr_ : pPr} {S_ : sm_S} {x_ : pX} (ht_ : rtab b_ n_ T_ S_) (hpr_ : pr_ok b_ n_ pr_) (hx_ : x_ok b_ n_ (mdo mo_) x_) (hq_ : rq b_ n_ T_ mo_ (p_st b_ n_ (mdo mo_) pr_ x_) k_ S_) : r_ms k_ S_ < 1301 - x_.2.2.1 := by
  have hn_ := ht_.1
  have hp_ := hx_.2.2.1
  cases hs_ : p_st b_ n_ (mdo mo_) pr_ x_ with
  | inl e_ => rw [hs_] at hq_; rw [rms_0 (Or.inl (by rw [hq_.1]; exact hq_.2.2.1))]; omega
  | inr z_ =>
    cases z_ with
    | inl y_ =>
      rw [hs_] at hq_
      have k1_ := p_st_lt hpr_ hx_ hs_
      have k2_ := x_st hn_ hpr_ hx_ hs_
      have k3_ := rms_x (k_ := k_) ht_ hq_.1.1 (by rw [hq_.2]; have := k2_.1; omega)
      have k4_ := k2_.2.2.1
      omega
    | inr r_ => rw [hs_] at hq_; rw [rms_0 (Or.inr hq_.2)]; omega
theorem ren_fr {w_ : sx_Wl} {b_ : Nat → Int} {n_ T_ M_ K_ : Nat} {mo_ : Int} {A_ : pA} {f_ : Nat → Nat} {S_ S'_ : sm_S} (h_ : r_en b_ n_ T_ mo_ A_ M_ K_ f_ S_) (g_ : ai_fr (sx_W w_) S_ S'_) (h28_ : (sx_W w_).1 13 28 = false) (h80_ : (sx_W w_).1 13 80 = false) (h0_ : (sx_W w_).2.1 126 = false) (h1_ : (sx_W w_).2.1 127 = false) (h2_ : (sx_W w_).2.1 128 = false) (h3_ : (sx_W w_).2.1 129 = false) (h4_ : (sx_W w_).2.1 130 = false) (h5_ : (sx_W w_).2.1 131 = false) (h6_ : (sx_W w_).2.1 177 = false) : r_en b_ n_ T_ mo_ A_ M_ K_ f_ S'_ := by
  refine ⟨fun z_ => ⟨(h_.1 z_).1, (g_.1 13 0 28 h28_).trans (h_.1 z_).2.1, fun m_ hm_ => re1_fr ((h_.1 z_).2.2 m_ hm_) g_ h0_ h1_ h2_ h3_ h4_ h5_⟩, fun z_ => ?_⟩
  have k_ := h_.2 z_
  unfold inr_ at k_ ⊢
  rw [g_.1 13 0 80 h80_, fr_arr g_ h6_]
  exact k_
theorem rq_op {b_ : Nat → Int} {n_ T_ : Nat} {mo_ v_ k_ : Int} {pr_ : pPr} {t_ : Bool} {p_ : Nat} {o_ : List (Int × Nat)} {g_ c_ : List Int} {S_ : sm_S} (h_ : (∀ e_, p_st b_ n_ (mdo mo_) pr_ (0, t_, p_, o_, g_, c_) = .inl e_ → rwr mo_ e_ S_) ∧ ∀ y_, p_st b_ n_ (mdo mo_) pr_ (0, t_, p_, o_, g_, c_) = .inr (.inl y_) → rx b_ n_ T_ mo_ y_.2.1 y_.1 y_.2.2.1 y_.2.2.2.1 y_.2.2.2.2.1 S_ ∧ v_ = (y_.1 : Int)) (hk_ : k_ = if v_ = 0 then 0 else 1) (hn_ : n_ ≤ 1280) (hpr_ : pr_ok b_ n_ pr_) (hx_ : x_ok b_ n_ (mdo mo_) (0, t_, p_, o_, g_, c_)) : rq b_ n_ T_ mo_ (p_st b_ n_ (mdo mo_) pr_ (0, t_, p_, o_, g_, c_)) k_ S_ := by
  cases hs_ : p_st b_ n_ (mdo mo_) pr_ (0, t_, p_, o_, g_, c_) with
  | inl e_ => exact h_.1 e_ hs_
  | inr z_ =>
    cases z_ with
    | inl y_ =>
      have h2_ := h_.2 y_ hs_
      have k2_ := (x_st hn_ hpr_ hx_ hs_).1
      refine ⟨h2_.1, ?_⟩
      rw [hk_]
      split <;> omega
    | inr r_ => exact (dn_A (show p_sA b_ n_ (mdo mo_) pr_ t_ p_ o_ g_ c_ = .inr (.inr r_) from hs_)).elim
/-! M_.expression -/
def vw_321 : sx_Wl := ([(13, 9), (13, 10), (13, 11), (13, 32), (13, 33), (13, 34)], [136, 137, 138, 139], [])
def vq_321 (b_ : Nat → Int) (n_ : Nat) (T_ : Nat) (mo_ : Int) (x_ : pE Nat) (c_ : List Int) (A_ : pA) (M_ : Nat) (K_ : Nat) (f_ : Nat → Nat) (S0_ : sm_S) (u_ : Option sm_V) (S1_ : sm_S) : Prop := u_ = none ∧ gi S1_ ∧ ai_fr (sx_W vw_321) S0_ S1_ ∧ (rg b_ n_ T_ (pb (pb x_ fun p_ => p_ex b_ n_ (mdo mo_) (p_pm b_ n_ (mdo mo_) A_ M_ K_ f_) c_ p_) fun r_ => .inr r_.1) S1_ ∧ ∀ r_, (pb x_ fun p_ => p_ex b_ n_ (mdo mo_) (p_pm b_ n_ (mdo mo_) A_ M_ K_ f_) c_ p_) = .inr r_ → vs mo_ r_.2.1 S1_ ∧ r_.2.1.length = 1)
set_option maxHeartbeats 1500000 in
theorem vl_321 {sc_ : Nat × (Nat → Int)} (b_ : Nat → Int) (n_ : Nat) (T_ : Nat) (mo_ : Int) (x_ : pE Nat) (c_ : List Int) (A_ : pA) (M_ : Nat) (K_ : Nat) (f_ : Nat → Nat) (S0_ : sm_S) (ht_ : rtab b_ n_ T_ S0_) (hx_ : rg b_ n_ T_ x_ S0_) (hmo_ : mo_ = 0 ∨ mo_ = 2) (hm1_ : (S0_.1 13 0 27) = mo_) (hen_ : ∀ p_, x_ = .inr p_ → c_.length ≤ 3 * p_ ∧ r_en b_ n_ T_ mo_ A_ M_ K_ f_ S0_) (hprk : pr_ok b_ n_ (p_pm b_ n_ (mdo mo_) A_ M_ K_ f_)) : ∀ nn_ : Nat, (∀ (k_ : Int) (S_ : sm_S), gi S_ → ai_fr (sx_W vw_321) S0_ S_ → ((ri b_ n_ T_ mo_ (p_pm b_ n_ (mdo mo_) A_ M_ K_ f_) (pb x_ fun p_ => p_ex b_ n_ (mdo mo_) (p_pm b_ n_ (mdo mo_) A_ M_ K_ f_) c_ p_) k_ S_) ∧ (∀ e_, x_ = .inl e_ → (S_.1 13 0 10) ≠ 0) ∧ True) → (r_ms k_ S_) < nn_ → sm_T (mt_P sc_) 7 321 (17, [some (.inr (.inr (some (13, 0)))), some (.inl k_)], [], S_) (fun r_ => ∃ u_ S1_, r_ = (.inl u_, S1_, 0) ∧ vq_321 b_ n_ T_ mo_ x_ c_ A_ M_ K_ f_ S0_ u_ S1_)) := by
  intro nn_
  induction nn_ with
  | zero => exact fun _ _ _ _ _ h_ => absurd h_ (Nat.not_lt_zero _)
  | succ nn_ ih_ =>
    rintro k_ S_ hI_ hF_ ⟨h1_, h2_, -⟩ hm_
    have ht1_ := rtab_fr ht_ hF_ rfl rfl rfl rfl rfl
    have hn1_ := ht_.1
    refine sm_T_go 1 (c1 := (18, [some (.inr (.inr (some (13, 0)))), some (.inl k_)], [.inr (.inr (some (13, 0)))], S_)) rfl ?_
    refine sm_T_cal (d1 := 0) (Q1 := vq_292  S_) rfl rfl (by decide) (vc_292  S_ hI_ ) (fun u_ Sx1_ px4_ => ?_)
    obtain ⟨rfl, vx6_, rfl, px4_⟩ := px4_
    have e18_ := px4_
    refine sm_T_b0 (a := 0) (z := 36) rfl (fun cx7_ => ?_) (fun cx7_ => ?_)
    · have cx7_ : vx6_ = 0 := of_decide_eq_true cx7_
      have hz_ := wr_if e18_ (by omega)
      obtain ⟨e9_, he9_, hw9_⟩ : ∃ e_, (pb x_ fun p_ => p_ex b_ n_ (mdo mo_) (p_pm b_ n_ (mdo mo_) A_ M_ K_ f_) c_ p_) = .inl e_ ∧ rwr mo_ e_ S_ := by rcases h1_ with z_ | ⟨t_, p_, o_, g_, c_, z1_, z2_, z3_⟩ | ⟨p_, o_, g_, c_, z1_, z2_, z3_⟩ | ⟨r_, z1_, z2_, z3_, z4_⟩; exact z_; (exact absurd z2_.1.1 hz_); (exact absurd z2_.1.1 hz_); (exact absurd z3_.1.1 hz_)
      refine sm_T_rv rfl ⟨_, _, rfl, rfl, hI_, hF_, ?_⟩
      first | (rw [he9_]; exact ⟨⟨hw9_.1, hw9_.2.1, hw9_.2.2.1⟩, fun r_ hr_ => by cases hr_⟩) | (rw [hr9_]; exact ⟨hx9_.1, fun r_ hr_ => by cases hr_; exact ⟨hx9_.2.2.2.1, hl9_⟩⟩)
    · have cx7_ : ¬ (vx6_ = 0) := of_decide_eq_false cx7_
      have hz_ := rt_if e18_ (by omega)
      obtain ⟨p9_, hp9_⟩ : ∃ p_, x_ = .inr p_ := by cases hx9_ : x_ with | inl e_ => exact absurd hz_ (h2_ e_ hx9_) | inr p_ => exact ⟨p_, rfl⟩
      refine sm_T_go 2 (c1 := (26, [some (.inr (.inr (some (13, 0)))), some (.inl k_)], [.inl 2, .inl k_], S_)) rfl ?_
      refine sm_T_br (a := 3) (z := 31) rfl (fun cx8_ => ?_) (fun cx8_ => ?_)
      · have cx8_ : 2 ≤ k_ := of_decide_eq_true cx8_
        obtain ⟨r9_, z1_, hr9_, hx9_, hl9_⟩ : ∃ r_, k_ = 2 ∧ (pb x_ fun p_ => p_ex b_ n_ (mdo mo_) (p_pm b_ n_ (mdo mo_) A_ M_ K_ f_) c_ p_) = .inr r_ ∧ rx b_ n_ T_ mo_ false 1 r_.1 [] r_.2.1 S_ ∧ r_.2.1.length = 1 := by rcases h1_ with ⟨e_, z1_, z2_⟩ | ⟨t_, p_, o_, g_, c_, z1_, z2_, z3_⟩ | ⟨p_, o_, g_, c_, z1_, z2_, z3_⟩ | z_; (exact absurd (z2_.1.symm.trans hz_) z2_.2.2.1); (exfalso; omega); (exfalso; omega); exact z_
        refine sm_T_rv rfl ⟨_, _, rfl, rfl, hI_, hF_, ?_⟩
        first | (rw [he9_]; exact ⟨⟨hw9_.1, hw9_.2.1, hw9_.2.2.1⟩, fun r_ hr_ => by cases hr_⟩) | (rw [hr9_]; exact ⟨hx9_.1, fun r_ hr_ => by cases hr_; exact ⟨hx9_.2.2.2.1, hl9_⟩⟩)
      · have cx8_ : ¬ (2 ≤ k_) := of_decide_eq_false cx8_
        refine sm_T_go 1 (c1 := (30, [some (.inr (.inr (some (13, 0)))), some (.inl k_)], [.inl k_], S_)) rfl ?_
        refine sm_T_b0 (a := 1) (z := 18) rfl (fun cx9_ => ?_) (fun cx9_ => ?_)
        · have cx9_ : k_ ≠ 0 := of_decide_eq_true cx9_
          obtain ⟨p1_, o1_, g1_, c1_, k1_, x1_, ok1_, r1_⟩ : ∃ p_ o_ g_ c9_, k_ = 1 ∧ rx b_ n_ T_ mo_ false 1 p_ o_ g_ S_ ∧ x_ok b_ n_ (mdo mo_) (1, false, p_, o_, g_, c9_) ∧ p_xx b_ n_ (mdo mo_) (p_pm b_ n_ (mdo mo_) A_ M_ K_ f_) (1, false, p_, o_, g_, c9_) (pb x_ fun p_ => p_ex b_ n_ (mdo mo_) (p_pm b_ n_ (mdo mo_) A_ M_ K_ f_) c_ p_) := by rcases h1_ with ⟨e_, z1_, z2_⟩ | ⟨t_, p_, o_, g_, c_, z1_, z2_, z3_⟩ | z_ | ⟨r_, z1_, z2_, z3_, z4_⟩; (exact absurd (z2_.1.symm.trans hz_) z2_.2.2.1); (exfalso; omega); exact z_; (exfalso; omega)
          refine sm_T_go 2 (c1 := (50, [some (.inr (.inr (some (13, 0)))), some (.inl k_)], [.inl 0, .inr (.inr (some (13, 0)))], S_)) rfl ?_
          refine sm_T_cal (d1 := 6) (Q1 := vq_320 0 b_ n_ T_ mo_ p1_ o1_ g1_ c1_ A_ M_ K_ f_ S_) rfl rfl (by decide) (vc_320 0 b_ n_ T_ mo_ p1_ o1_ g1_ c1_ A_ M_ K_ f_ S_ hI_ (by rfl) (by exact ht1_) (by exact x1_) (by exact ok1_) (by exact hmo_)) (fun u_ Sx10_ px13_ => ?_)
          obtain ⟨vx15_, rfl, hIx11_, hFx12_, px13_⟩ := px13_
          have hFx14_ : ai_fr (sx_W vw_321) S0_ Sx10_ := ai_fr_tr hF_ (fr_le hFx12_ rfl)
          have e50_ := px13_
          have t50_ := rtab_fr ht1_ hFx12_ rfl rfl rfl rfl rfl
          refine sm_T_go 2 (c1 := (17, [some (.inr (.inr (some (13, 0)))), some (.inl vx15_)], [], Sx10_)) rfl ?_
          refine ih_ vx15_ Sx10_ hIx11_ hFx14_ ⟨?_, ?_, trivial⟩ ?_
          · first | (exact ri_st hn1_ hprk ok1_ r1_ e50_) | (exact ri_st hn1_ hprk ok1_ r1_ (rq_op e34_ (by first | (rw [if_pos (by omega)]) | (rw [if_neg (by omega)])) hn1_ hprk ok1_))
          · intro e_ he_
            rw [hp9_] at he_
            cases he_
          · first | (have q1_ := ri_ms t50_ hprk ok1_ e50_; have q2_ := rms_x (k_ := k_) ht1_ x1_.1 (by omega); have q3_ := q2_.1; have q4_ : r_ms _ _ < 1301 - p1_ := q1_; omega) | (have q1_ := ri_ms t34_ hprk ok1_ (rq_op e34_ (by first | (rw [if_pos (by omega)]) | (rw [if_neg (by omega)])) hn1_ hprk ok1_); have q2_ := rms_x (k_ := k_) ht1_ x1_.1 (by omega); have q3_ := q2_.1; have q4_ : r_ms _ _ < 1301 - p1_ := q1_; omega)
        · have cx9_ : ¬ (k_ ≠ 0) := of_decide_eq_false cx9_
          obtain ⟨t1_, p1_, o1_, g1_, c1_, k1_, x1_, ok1_, r1_⟩ : ∃ t_ p_ o_ g_ c9_, k_ = 0 ∧ rx b_ n_ T_ mo_ t_ 0 p_ o_ g_ S_ ∧ x_ok b_ n_ (mdo mo_) (0, t_, p_, o_, g_, c9_) ∧ p_xx b_ n_ (mdo mo_) (p_pm b_ n_ (mdo mo_) A_ M_ K_ f_) (0, t_, p_, o_, g_, c9_) (pb x_ fun p_ => p_ex b_ n_ (mdo mo_) (p_pm b_ n_ (mdo mo_) A_ M_ K_ f_) c_ p_) := by rcases h1_ with ⟨e_, z1_, z2_⟩ | z_ | ⟨p_, o_, g_, c_, z1_, z2_, z3_⟩ | ⟨r_, z1_, z2_, z3_, z4_⟩; (exact absurd (z2_.1.symm.trans hz_) z2_.2.2.1); exact z_; (exfalso; omega); (exfalso; omega)
          have en1_ : r_en b_ n_ T_ mo_ A_ M_ K_ f_ S_ := ren_fr (hen_ p9_ hp9_).2 hF_ rfl rfl rfl rfl rfl rfl rfl rfl rfl
          refine sm_T_go 1 (c1 := (34, [some (.inr (.inr (some (13, 0)))), some (.inl k_)], [.inr (.inr (some (13, 0)))], S_)) rfl ?_
          refine sm_T_cal (d1 := 6) (Q1 := vq_319 b_ n_ T_ mo_ t1_ p1_ o1_ g1_ c1_ A_ M_ K_ f_ S_) rfl rfl (by decide) (vc_319 b_ n_ T_ mo_ t1_ p1_ o1_ g1_ c1_ A_ M_ K_ f_ S_ hI_ (by exact ht1_) (by exact x1_) (by exact ok1_) (by exact hmo_) (by exact en1_) (by exact hprk)) (fun u_ Sx16_ px19_ => ?_)
          obtain ⟨vx21_, rfl, hIx17_, hFx18_, px19_⟩ := px19_
          have hFx20_ : ai_fr (sx_W vw_321) S0_ Sx16_ := ai_fr_tr hF_ (fr_le hFx18_ rfl)
          have e34_ := px19_
          have t34_ := rtab_fr ht1_ hFx18_ rfl rfl rfl rfl rfl
          refine sm_T_b0 (a := 0) (z := 7) rfl (fun cx22_ => ?_) (fun cx22_ => ?_)
          · have cx22_ : vx21_ = 0 := of_decide_eq_true cx22_
            refine sm_T_go 4 (c1 := (17, [some (.inr (.inr (some (13, 0)))), some (.inl 0)], [], Sx16_)) rfl ?_
            refine ih_ 0 Sx16_ hIx17_ hFx20_ ⟨?_, ?_, trivial⟩ ?_
            · first | (exact ri_st hn1_ hprk ok1_ r1_ e50_) | (exact ri_st hn1_ hprk ok1_ r1_ (rq_op e34_ (by first | (rw [if_pos (by omega)]) | (rw [if_neg (by omega)])) hn1_ hprk ok1_))
            · intro e_ he_
              rw [hp9_] at he_
              cases he_
            · first | (have q1_ := ri_ms t50_ hprk ok1_ e50_; have q2_ := rms_x (k_ := k_) ht1_ x1_.1 (by omega); have q3_ := q2_.1; have q4_ : r_ms _ _ < 1301 - p1_ := q1_; omega) | (have q1_ := ri_ms t34_ hprk ok1_ (rq_op e34_ (by first | (rw [if_pos (by omega)]) | (rw [if_neg (by omega)])) hn1_ hprk ok1_); have q2_ := rms_x (k_ := k_) ht1_ x1_.1 (by omega); have q3_ := q2_.1; have q4_ : r_ms _ _ < 1301 - p1_ := q1_; omega)
          · have cx22_ : ¬ (vx21_ = 0) := of_decide_eq_false cx22_
            refine sm_T_go 4 (c1 := (17, [some (.inr (.inr (some (13, 0)))), some (.inl 1)], [], Sx16_)) rfl ?_
            refine ih_ 1 Sx16_ hIx17_ hFx20_ ⟨?_, ?_, trivial⟩ ?_
            · first | (exact ri_st hn1_ hprk ok1_ r1_ e50_) | (exact ri_st hn1_ hprk ok1_ r1_ (rq_op e34_ (by first | (rw [if_pos (by omega)]) | (rw [if_neg (by omega)])) hn1_ hprk ok1_))
            · intro e_ he_
              rw [hp9_] at he_
              cases he_
            · first | (have q1_ := ri_ms t50_ hprk ok1_ e50_; have q2_ := rms_x (k_ := k_) ht1_ x1_.1 (by omega); have q3_ := q2_.1; have q4_ : r_ms _ _ < 1301 - p1_ := q1_; omega) | (have q1_ := ri_ms t34_ hprk ok1_ (rq_op e34_ (by first | (rw [if_pos (by omega)]) | (rw [if_neg (by omega)])) hn1_ hprk ok1_); have q2_ := rms_x (k_ := k_) ht1_ x1_.1 (by omega); have q3_ := q2_.1; have q4_ : r_ms _ _ < 1301 - p1_ := q1_; omega)
set_option maxHeartbeats 1500000 in
theorem vc_321 {sc_ : Nat × (Nat → Int)} (b_ : Nat → Int) (n_ : Nat) (T_ : Nat) (mo_ : Int) (x_ : pE Nat) (c_ : List Int) (A_ : pA) (M_ : Nat) (K_ : Nat) (f_ : Nat → Nat) (S0_ : sm_S) (hI_ : gi S0_) (ht_ : rtab b_ n_ T_ S0_) (hx_ : rg b_ n_ T_ x_ S0_) (hmo_ : mo_ = 0 ∨ mo_ = 2) (hm1_ : (S0_.1 13 0 27) = mo_) (hen_ : ∀ p_, x_ = .inr p_ → c_.length ≤ 3 * p_ ∧ r_en b_ n_ T_ mo_ A_ M_ K_ f_ S0_) (hprk : pr_ok b_ n_ (p_pm b_ n_ (mdo mo_) A_ M_ K_ f_)) : sm_T (mt_P sc_) 7 321 (0, [some (.inr (.inr (some (13, 0)))), none], [], S0_) (fun r_ => ∃ u_ S1_, r_ = (.inl u_, S1_, 0) ∧ vq_321 b_ n_ T_ mo_ x_ c_ A_ M_ K_ f_ S0_ u_ S1_) := by
  have hF_ : ai_fr (sx_W vw_321) S0_ S0_ := ai_fr_rf
  have hIx1_ : gi (sm_pI S0_ 13 0 32 0) := gi_pI hI_ (show 0 ≤ 0 ∧ 0 ≤ 1023 from ⟨by omega, by omega⟩)
  have hFx2_ : ai_fr (sx_W vw_321) S0_ (sm_pI S0_ 13 0 32 0) := ai_fr_tr hF_ (ai_fr_pI rfl)
  have hIx3_ : gi (sm_pI (sm_pI S0_ 13 0 32 0) 13 0 33 0) := gi_pI hIx1_ (show 0 ≤ 0 ∧ 0 ≤ 60 from ⟨by omega, by omega⟩)
  have hFx4_ : ai_fr (sx_W vw_321) S0_ (sm_pI (sm_pI S0_ 13 0 32 0) 13 0 33 0) := ai_fr_tr hFx2_ (ai_fr_pI rfl)
  have hIx5_ : gi (sm_pI (sm_pI (sm_pI S0_ 13 0 32 0) 13 0 33 0) 13 0 34 0) := gi_pI hIx3_ (show 0 ≤ 0 ∧ 0 ≤ 1023 from ⟨by omega, by omega⟩)
  have hFx6_ : ai_fr (sx_W vw_321) S0_ (sm_pI (sm_pI (sm_pI S0_ 13 0 32 0) 13 0 33 0) 13 0 34 0) := ai_fr_tr hFx4_ (ai_fr_pI rfl)
  refine sm_T_go 11 (c1 := (17, [some (.inr (.inr (some (13, 0)))), some (.inl 0)], [], sm_pI (sm_pI (sm_pI S0_ 13 0 32 0) 13 0 33 0) 13 0 34 0)) rfl ?_
  refine (vl_321 b_ n_ T_ mo_ x_ c_ A_ M_ K_ f_ S0_ ht_ hx_ hmo_ hm1_ hen_ hprk _) 0 (sm_pI (sm_pI (sm_pI S0_ 13 0 32 0) 13 0 33 0) 13 0 34 0) hIx5_ hFx6_ ⟨?_, ?_, trivial⟩ (Nat.lt_succ_self _)
  · cases hx9_ : x_ with
    | inl e_ => rw [hx9_] at hx_; exact Or.inl ⟨e_, rfl, hx_.1, hx_.2.1, hx_.2.2, by show (0 : Int) ≤ 800; decide, hm1_⟩
    | inr p_ =>
      rw [hx9_] at hx_
      obtain ⟨h1_, h2_⟩ := hen_ p_ hx9_
      obtain ⟨i9_, z1_, z2_⟩ := hx_.2
      have z3_ := rp_at ht_ z2_
      have z4_ := z3_.2.2.2.1
      exact Or.inr (Or.inl ⟨false, p_, [], [], c_, rfl, ⟨hx_, ⟨[], ⟨rfl, trivial, trivial⟩, Or.inl ⟨rfl, Or.inl ⟨rfl, rfl⟩⟩⟩, rfl, ⟨rfl, fun _ => trivial, fun _ => trivial⟩, hm1_⟩, x_ok_0 z4_ z2_.2.2.1 h1_, p_ex_x ht_.1 hprk z4_ z2_.2.2.1 h1_⟩)
  · intro e_ he_
    rw [he_] at hx_
    exact fun z_ => hx_.2.2 (hx_.1.symm.trans z_)
end
