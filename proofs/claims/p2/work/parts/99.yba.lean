/-! the reference: parts of instances; written by wip/p55/gen/vg -/

/-! parts of_ instances -/
theorem pa_pl {b_ : Nat → Int} {n_ d_ p_ : Nat} {A_ : pA} {s_ : Int} (h_ : ¬ (p_fn b_ n_ A_ d_ p_ = -1 ∨ A_.2.2.1 (40 * d_ + (p_fn b_ n_ A_ d_ p_).toNat) ≠ 1)) : pb (p_pa b_ n_ A_ s_ d_ p_) (fun r_ => .inr r_.1) = pb (p_ad b_ n_ p_) fun q_ => if lx_kd b_ n_ q_ = 46 then pb (p_ad b_ n_ q_) (p_bp b_ n_ (A_.2.2.2.1 (40 * d_ + (p_fn b_ n_ A_ d_ p_).toNat))) else .inr q_ := by
  cases h1_ : p_ad b_ n_ p_ with
  | inl e_ => rw [pa_2 h_ h1_]; rfl
  | inr q_ =>
    rw [pb_r (x_ := (.inr q_ : pE Nat)) rfl]
    by_cases g_ : lx_kd b_ n_ q_ = 46
    · rw [if_pos g_]
      cases h2_ : p_ad b_ n_ q_ with
      | inl e_ => rw [pa_4 h_ h1_ g_ h2_]; rfl
      | inr r_ =>
        rw [pa_5 h_ h1_ g_ h2_, bp_bi, pb_r (x_ := (.inr r_ : pE Nat)) rfl]
        cases p_bp b_ n_ (A_.2.2.2.1 (40 * d_ + (p_fn b_ n_ A_ d_ p_).toNat)) r_ <;> rfl
    · rw [if_neg g_, pa_3 h_ h1_ g_]
      rfl
theorem pa_w {b_ : Nat → Int} {n_ d_ p_ : Nat} {A_ : pA} {s_ : Int} {r_ : Nat × Int × List Int} (h_ : ¬ (p_fn b_ n_ A_ d_ p_ = -1 ∨ A_.2.2.1 (40 * d_ + (p_fn b_ n_ A_ d_ p_).toNat) ≠ 1)) (hr_ : p_pa b_ n_ A_ s_ d_ p_ = .inr r_) : ∃ q_, p_ad b_ n_ p_ = .inr q_ ∧ r_.2.1 = if lx_kd b_ n_ q_ = 46 then 1 else A_.2.2.2.1 (40 * d_ + (p_fn b_ n_ A_ d_ p_).toNat) := by
  unfold p_pa at hr_
  rw [if_neg h_] at hr_
  obtain ⟨q_, h1_, h2_⟩ := pb_inr hr_
  refine ⟨q_, h1_, ?_⟩
  split at h2_
  · rename_i g_
    rw [if_pos g_]
    obtain ⟨u_, h3_, h4_⟩ := pb_inr h2_
    rw [bp_bi] at h4_
    obtain ⟨v_, h5_, h6_⟩ := pb_inr h4_
    cases h6_
    rfl
  · rename_i g_
    rw [if_neg g_]
    cases h2_
    rfl
theorem r_s2_b {k_ : Int} (h_ : 0 ≤ k_ ∧ k_ ≤ 5) : (r_s2 k_ = 2 ↔ k_ = 1) ∧ (r_s2 k_ = 5 ↔ k_ = 5) ∧ (r_s2 k_ = 4 ↔ k_ = 3 ∨ k_ = 4) ∧ (r_s2 k_ = 1 ↔ k_ = 0) ∧ 1 ≤ r_s2 k_ ∧ r_s2 k_ ≤ 5 := by
  unfold r_s2
  split
  · omega
  · split <;> omega
theorem rp_rtk {b_ : Nat → Int} {n_ T_ i_ p_ : Nat} {S_ : sm_S} (ht_ : rtab b_ n_ T_ S_) (h_ : rp b_ n_ T_ i_ p_) (hk_ : lx_kd b_ n_ p_ = 1) : rtk b_ n_ T_ (i_ : Int) p_ ∧ i_ < T_ := by
  have h1_ := rp_at ht_ h_
  have h2_ : p_ < n_ := by
    by_cases g_ : p_ < n_
    · exact g_
    · exfalso
      rw [show p_ = n_ by have := h1_.2.2.2.1; omega, lx_kd_n] at hk_
      omega
  exact ⟨⟨i_, rfl, h1_.2.2.2.2.1.mpr h2_, h_.2.1, by omega, hk_⟩, h1_.2.2.2.2.1.mpr h2_⟩
/-! M_.ofInstance -/
def vw_326 : sx_Wl := ([(13, 9), (13, 10), (13, 11)], [138, 139], [])
def vq_326 (s_ : Int) (b_ : Nat → Int) (n_ : Nat) (T_ : Nat) (mo_ : Int) (p_ : Nat) (i_ : Nat) (gl_ : Nat) (A_ : pA) (M_ : Nat) (s9_ : Nat) (S0_ : sm_S) (u_ : Option sm_V) (S1_ : sm_S) : Prop := u_ = none ∧ gi S1_ ∧ ai_fr (sx_W vw_326) S0_ S1_ ∧ (rg b_ n_ T_ (pb (p_pa b_ n_ A_ s_ (A_.2.2.2.2 (40 * M_ + s9_)).toNat p_) fun r_ => .inr r_.1) S1_ ∧ ∀ r_, p_pa b_ n_ A_ s_ (A_.2.2.2.2 (40 * M_ + s9_)).toNat p_ = .inr r_ → ∀ l_ : List Int, l_.length = gl_ → stk (S0_.2.2.1 138 0) l_ → stk (S1_.2.2.1 138 0) (r_.2.1 :: l_))
set_option maxHeartbeats 1500000 in
theorem vc_326 {sc_ : Nat × (Nat → Int)} (s_ : Int) (b_ : Nat → Int) (n_ : Nat) (T_ : Nat) (mo_ : Int) (p_ : Nat) (i_ : Nat) (gl_ : Nat) (A_ : pA) (M_ : Nat) (s9_ : Nat) (S0_ : sm_S) (hI_ : gi S0_) (ht_ : rtab b_ n_ T_ S0_) (hf_ : (S0_.1 13 0 10) = 0) (hi_ : (S0_.1 13 0 9) = (i_ : Int) ∧ rp b_ n_ T_ i_ p_) (hv_ : (S0_.1 13 0 34) = (gl_ : Int) ∧ gl_ ≤ 1000) (hmo_ : (S0_.1 13 0 27) = mo_) (hw_ : (S0_.1 13 0 32) ≤ 800) (hA_ : a_ok b_ n_ A_ M_) (hmd_ : (S0_.1 13 0 28) = (M_ : Int)) (hre_ : ∀ m_, m_ ≤ M_ → re1 b_ n_ T_ A_ m_ S0_) (hk_ : lx_kd b_ n_ p_ = 1) (hm1_ : mo_ ≠ 1) (hs9_ : s_ = (s9_ : Int) ∧ s9_ < A_.1 M_) (h5_ : A_.2.2.1 (40 * M_ + s9_) = 5) : sm_T (mt_P sc_) 4 326 (0, [some (.inr (.inr (some (13, 0)))), some (.inl s_), none, none, none], [], S0_) (fun r_ => ∃ u_ S1_, r_ = (.inl u_, S1_, 0) ∧ vq_326 s_ b_ n_ T_ mo_ p_ i_ gl_ A_ M_ s9_ S0_ u_ S1_) := by
  have hF_ : ai_fr (sx_W vw_326) S0_ S0_ := ai_fr_rf
  have hx_ : rg b_ n_ T_ (.inr p_) S0_ := ⟨hf_, i_, hi_.1, hi_.2⟩
  have hi9_ := hi_.2.1
  have hT_ := ht_.2.1
  have rt1_ := rp_rtk ht_ hi_.2 hk_
  have ra_ := rp_at ht_ hi_.2
  have rk_ := r_st_3 (lx_kd_r hi_.2.2.2.1)
  have e4_ : (S0_.1 13 0 9).toNat = i_ := by omega
  have hM1_ := hA_.1
  have aM_ := hA_.2 M_ (Nat.le_refl _)
  have aM1_ := aM_.1
  have d5_ := (aM_.2 s9_ hs9_.2).2.2.2.2.1 h5_
  have e13_ : S0_.2.2.1 130 0 (40 * (S0_.1 13 0 28) + s_).toNat = A_.2.2.2.2 (40 * M_ + s9_) := by rw [show (40 * (S0_.1 13 0 28) + s_).toNat = 40 * M_ + s9_ by omega]; exact ((hre_ M_ (Nat.le_refl _)).2 s9_ hs9_.2).2.2.2.1
  have bx1_ : 0 ≤ S0_.1 13 0 28 ∧ S0_.1 13 0 28 ≤ 15 := hI_.1 13 0 28 rfl
  refine sm_T_go 5 (c1 := (10, [some (.inr (.inr (some (13, 0)))), some (.inl s_), none, none, none], [.inl (S0_.1 13 0 28), .inl 40, .inr (.inr (some (130, 0)))], S0_)) rfl ?_
  refine sm_T_bin (w := 40 * (S0_.1 13 0 28)) rfl (bi_mul (by omega) (by omega) (by omega)) ?_
  refine sm_T_go 1 (c1 := (12, [some (.inr (.inr (some (13, 0)))), some (.inl s_), none, none, none], [.inl s_, .inl (40 * (S0_.1 13 0 28)), .inr (.inr (some (130, 0)))], S0_)) rfl ?_
  refine sm_T_bin (w := 40 * (S0_.1 13 0 28) + s_) rfl (bi_add (by omega) (by omega) (by omega)) ?_
  refine sm_T_iald (n := 640) rfl rfl (by omega) (by omega) ?_
  have bx2_ : 0 ≤ S0_.2.2.1 130 0 (40 * (S0_.1 13 0 28) + s_).toNat ∧ S0_.2.2.1 130 0 (40 * (S0_.1 13 0 28) + s_).toNat ≤ 2147483647 := hI_.2 130 0 _
  have bx3_ : 0 ≤ S0_.1 13 0 9 ∧ S0_.1 13 0 9 ≤ 1280 := hI_.1 13 0 9 rfl
  refine sm_T_go 5 (c1 := (21, [some (.inr (.inr (some (13, 0)))), some (.inl s_), some (.inl (S0_.2.2.1 130 0 (40 * (S0_.1 13 0 28) + s_).toNat)), none, none], [.inl (S0_.1 13 0 9), .inl (S0_.2.2.1 130 0 (40 * (S0_.1 13 0 28) + s_).toNat), .inr (.inr (some (13, 0)))], S0_)) rfl ?_
  refine sm_T_cal (d1 := 1) (Q1 := vq_302 (S0_.2.2.1 130 0 (40 * (S0_.1 13 0 28) + s_).toNat) (S0_.1 13 0 9) b_ n_ T_ A_ (A_.2.2.2.2 (40 * M_ + s9_)).toNat p_ S0_) rfl rfl (by decide) (vc_302 (S0_.2.2.1 130 0 (40 * (S0_.1 13 0 28) + s_).toNat) (S0_.1 13 0 9) b_ n_ T_ A_ (A_.2.2.2.2 (40 * M_ + s9_)).toNat p_ S0_ hI_ (by exact ht_) (by exact ⟨by rw [e13_]; omega, by omega⟩) (by exact hre_ _ (by omega)) (by exact (hA_.2 _ (by omega)).1) (by rw [hi_.1]; exact rt1_.1)) (fun u_ Sx4_ px7_ => ?_)
  obtain ⟨rfl, vx9_, rfl, px7_⟩ := px7_
  have e21_ := px7_
  have hfb_ := p_fd_b (f_ := fun s_ => nm_q b_ n_ (A_.2.1 (40 * (A_.2.2.2.2 (40 * M_ + s9_)).toNat + s_)) p_) (A_.1 (A_.2.2.2.2 (40 * M_ + s9_)).toNat)
  have hf0_ : p_fn b_ n_ A_ (A_.2.2.2.2 (40 * M_ + s9_)).toNat p_ = p_fd (fun s_ => nm_q b_ n_ (A_.2.1 (40 * (A_.2.2.2.2 (40 * M_ + s9_)).toNat + s_)) p_) (A_.1 (A_.2.2.2.2 (40 * M_ + s9_)).toNat) := rfl
  have hix_ : vx9_ ≠ -1 → ∃ o9_ : Nat, vx9_ = (o9_ : Int) ∧ o9_ < A_.1 (A_.2.2.2.2 (40 * M_ + s9_)).toNat ∧ (p_fn b_ n_ A_ (A_.2.2.2.2 (40 * M_ + s9_)).toNat p_).toNat = o9_ ∧ (40 * S0_.2.2.1 130 0 (40 * (S0_.1 13 0 28) + s_).toNat + vx9_).toNat = 40 * (A_.2.2.2.2 (40 * M_ + s9_)).toNat + o9_ := fun z_ => by obtain ⟨o9_, q1_, q2_, q3_, -⟩ := p_fn_b (b_ := b_) (n_ := n_) (A_ := A_) (m_ := (A_.2.2.2.2 (40 * M_ + s9_)).toNat) (p_ := p_) (by omega); exact ⟨o9_, by omega, q2_, q3_, by omega⟩
  have hA9_ := (hA_.2 (A_.2.2.2.2 (40 * M_ + s9_)).toNat (by omega)).1
  refine sm_T_go 3 (c1 := (27, [some (.inr (.inr (some (13, 0)))), some (.inl s_), some (.inl (S0_.2.2.1 130 0 (40 * (S0_.1 13 0 28) + s_).toNat)), some (.inl vx9_), none], [.inl (-1), .inl vx9_], S0_)) rfl ?_
  refine sm_T_br (a := 0) (z := 18) rfl (fun cx10_ => ?_) (fun cx10_ => ?_)
  · have cx10_ : vx9_ = (-1) := of_decide_eq_true cx10_
    refine sm_T_go 4 (c1 := (52, [some (.inr (.inr (some (13, 0)))), some (.inl s_), some (.inl (S0_.2.2.1 130 0 (40 * (S0_.1 13 0 28) + s_).toNat)), some (.inl vx9_), none], [.inl (S0_.1 13 0 9), .inl 11, .inr (.inr (some (13, 0)))], S0_)) rfl ?_
    refine sm_T_cal (d1 := 0) (Q1 := vq_293 11 (S0_.1 13 0 9) S0_) rfl rfl (by decide) (vc_293 11 (S0_.1 13 0 9) S0_ hI_ (by decide) (by omega)) (fun u_ Sx11_ px14_ => ?_)
    obtain ⟨rfl, hIx12_, hFx13_, px14_⟩ := px14_
    have hFx15_ : ai_fr (sx_W vw_326) S0_ Sx11_ := ai_fr_tr hF_ (fr_le hFx13_ rfl)
    have ex16_ : Sx11_.1 13 0 9 = S0_.1 13 0 9 := hFx13_.1 13 0 9 rfl
    have ex17_ : Sx11_.1 13 0 28 = S0_.1 13 0 28 := hFx13_.1 13 0 28 rfl
    have e52_ := px14_
    refine sm_T_rv rfl ⟨_, _, rfl, rfl, hIx12_, hFx15_, ?_⟩
    have hbad : p_fn b_ n_ A_ (A_.2.2.2.2 (40 * M_ + s9_)).toNat p_ = -1 ∨ A_.2.2.1 (40 * (A_.2.2.2.2 (40 * M_ + s9_)).toNat + (p_fn b_ n_ A_ (A_.2.2.2.2 (40 * M_ + s9_)).toNat p_).toNat) ≠ 1 := by first | (left; omega) | (right; rw [otn_]; intro z_; have := sb_.mpr z_; omega)
    have hp_ : p_pa b_ n_ A_ s_ (A_.2.2.2.2 (40 * M_ + s9_)).toNat p_ = .inl (11, p_) := pa_1 hbad
    refine ⟨?_, fun r_ hr_ => by rw [hp_] at hr_; cases hr_⟩
    rw [hp_]
    rcases e52_ with z_ | z_
    · exact absurd hf_ z_.1
    · refine ⟨z_.2.1.trans (if_neg ?_), ?_, by show (11 : Int) ≠ 0; decide⟩
      · rw [e4_, ra_.1]; exact rk_.2.2.2.2.2
      · rw [z_.2.2, e4_]; exact ra_.2.1
  · have cx10_ : ¬ (vx9_ = (-1)) := of_decide_eq_false cx10_
    obtain ⟨o9_, ov_, olt_, otn_, oix_⟩ := hix_ (by omega)
    have ro_ := (hre_ (A_.2.2.2.2 (40 * M_ + s9_)).toNat (by omega)).2 o9_ olt_
    have ao_ := (hA_.2 (A_.2.2.2.2 (40 * M_ + s9_)).toNat (by omega)).2 o9_ olt_
    have sb_ := (r_s2_b ao_.2.1).1
    have so9_ := (congrArg (S0_.2.2.1 128 0) oix_).trans ro_.2.1
    refine sm_T_go 4 (c1 := (37, [some (.inr (.inr (some (13, 0)))), some (.inl s_), some (.inl (S0_.2.2.1 130 0 (40 * (S0_.1 13 0 28) + s_).toNat)), some (.inl vx9_), none], [.inl (S0_.2.2.1 130 0 (40 * (S0_.1 13 0 28) + s_).toNat), .inl 40, .inr (.inr (some (128, 0)))], S0_)) rfl ?_
    refine sm_T_bin (w := 40 * (S0_.2.2.1 130 0 (40 * (S0_.1 13 0 28) + s_).toNat)) rfl (bi_mul (by omega) (by omega) (by omega)) ?_
    refine sm_T_go 1 (c1 := (39, [some (.inr (.inr (some (13, 0)))), some (.inl s_), some (.inl (S0_.2.2.1 130 0 (40 * (S0_.1 13 0 28) + s_).toNat)), some (.inl vx9_), none], [.inl vx9_, .inl (40 * (S0_.2.2.1 130 0 (40 * (S0_.1 13 0 28) + s_).toNat)), .inr (.inr (some (128, 0)))], S0_)) rfl ?_
    refine sm_T_bin (w := 40 * (S0_.2.2.1 130 0 (40 * (S0_.1 13 0 28) + s_).toNat) + vx9_) rfl (bi_add (by omega) (by omega) (by omega)) ?_
    refine sm_T_iald (n := 640) rfl rfl (by omega) (by omega) ?_
    have bx18_ : 0 ≤ S0_.2.2.1 128 0 (40 * (S0_.2.2.1 130 0 (40 * (S0_.1 13 0 28) + s_).toNat) + vx9_).toNat ∧ S0_.2.2.1 128 0 (40 * (S0_.2.2.1 130 0 (40 * (S0_.1 13 0 28) + s_).toNat) + vx9_).toNat ≤ 5 := hI_.2 128 0 _
    refine sm_T_go 1 (c1 := (42, [some (.inr (.inr (some (13, 0)))), some (.inl s_), some (.inl (S0_.2.2.1 130 0 (40 * (S0_.1 13 0 28) + s_).toNat)), some (.inl vx9_), none], [.inl 2, .inl (S0_.2.2.1 128 0 (40 * (S0_.2.2.1 130 0 (40 * (S0_.1 13 0 28) + s_).toNat) + vx9_).toNat)], S0_)) rfl ?_
    refine sm_T_br (a := 0) (z := 14) rfl (fun cx19_ => ?_) (fun cx19_ => ?_)
    · have cx19_ : (S0_.2.2.1 128 0 (40 * (S0_.2.2.1 130 0 (40 * (S0_.1 13 0 28) + s_).toNat) + vx9_).toNat) = 2 := of_decide_eq_true cx19_
      have hng_ : ¬ (p_fn b_ n_ A_ (A_.2.2.2.2 (40 * M_ + s9_)).toNat p_ = -1 ∨ A_.2.2.1 (40 * (A_.2.2.2.2 (40 * M_ + s9_)).toNat + (p_fn b_ n_ A_ (A_.2.2.2.2 (40 * M_ + s9_)).toNat p_).toNat) ≠ 1) := by rintro (z_ | z_); omega; (rw [otn_] at z_; exact z_ (sb_.mp (by omega)))
      refine sm_T_go 1 (c1 := (57, [some (.inr (.inr (some (13, 0)))), some (.inl s_), some (.inl (S0_.2.2.1 130 0 (40 * (S0_.1 13 0 28) + s_).toNat)), some (.inl vx9_), none], [.inr (.inr (some (13, 0)))], S0_)) rfl ?_
      refine sm_T_cal (d1 := 2) (Q1 := vq_297 b_ n_ T_ (.inr p_) S0_) rfl rfl (by decide) (vc_297 b_ n_ T_ (.inr p_) S0_ hI_ (by exact ht_) (by exact hx_) (by (intro q_ e_; cases e_; omega))) (fun u_ Sx20_ px23_ => ?_)
      obtain ⟨rfl, hIx21_, hFx22_, px23_⟩ := px23_
      have hFx24_ : ai_fr (sx_W vw_326) S0_ Sx20_ := ai_fr_tr hF_ (fr_le hFx22_ rfl)
      have ex25_ : Sx20_.1 13 0 28 = S0_.1 13 0 28 := hFx22_.1 13 0 28 rfl
      have g57_ := px23_.1
      rw [pb_r rfl] at g57_
      have t57_ := rtab_fr ht_ hFx22_ rfl rfl rfl rfl rfl
      have w57_ := fr_arr (t := 138) (i := 0) hFx22_ rfl
      have nw57_ := fr_arr (t := 129) (i := 0) hFx22_ rfl
      have v57_ : Sx20_.1 13 0 34 = (gl_ : Int) := (hFx24_.1 13 0 34 rfl).trans hv_.1
      have m57_ : Sx20_.1 13 0 27 = mo_ := (hFx24_.1 13 0 27 rfl).trans hmo_
      have wb_ := ao_.2.2.1
      have wdx_ : A_.2.2.2.1 (40 * (A_.2.2.2.2 (40 * M_ + s9_)).toNat + (p_fn b_ n_ A_ (A_.2.2.2.2 (40 * M_ + s9_)).toNat p_).toNat) = A_.2.2.2.1 (40 * (A_.2.2.2.2 (40 * M_ + s9_)).toNat + o9_) := by rw [otn_]
      have wd57_ := (congrFun nw57_ _).trans ((congrArg (S0_.2.2.1 129 0) oix_).trans (ro_.2.2.1.trans wdx_.symm))
      have wb2_ := wb_
      rw [← wdx_] at wb2_
      refine sm_T_go 4 (c1 := (67, [some (.inr (.inr (some (13, 0)))), some (.inl s_), some (.inl (S0_.2.2.1 130 0 (40 * (S0_.1 13 0 28) + s_).toNat)), some (.inl vx9_), none], [.inl (S0_.2.2.1 130 0 (40 * (S0_.1 13 0 28) + s_).toNat), .inl 40, .inr (.inr (some (129, 0)))], Sx20_)) rfl ?_
      refine sm_T_bin (w := 40 * (S0_.2.2.1 130 0 (40 * (S0_.1 13 0 28) + s_).toNat)) rfl (bi_mul (by omega) (by omega) (by omega)) ?_
      refine sm_T_go 1 (c1 := (69, [some (.inr (.inr (some (13, 0)))), some (.inl s_), some (.inl (S0_.2.2.1 130 0 (40 * (S0_.1 13 0 28) + s_).toNat)), some (.inl vx9_), none], [.inl vx9_, .inl (40 * (S0_.2.2.1 130 0 (40 * (S0_.1 13 0 28) + s_).toNat)), .inr (.inr (some (129, 0)))], Sx20_)) rfl ?_
      refine sm_T_bin (w := 40 * (S0_.2.2.1 130 0 (40 * (S0_.1 13 0 28) + s_).toNat) + vx9_) rfl (bi_add (by omega) (by omega) (by omega)) ?_
      refine sm_T_iald (n := 640) rfl rfl (by omega) (by omega) ?_
      have bx26_ : 0 ≤ Sx20_.2.2.1 129 0 (40 * (S0_.2.2.1 130 0 (40 * (S0_.1 13 0 28) + s_).toNat) + vx9_).toNat ∧ Sx20_.2.2.1 129 0 (40 * (S0_.2.2.1 130 0 (40 * (S0_.1 13 0 28) + s_).toNat) + vx9_).toNat ≤ 8 := hIx21_.2 129 0 _
      have bx27_ : 0 ≤ Sx20_.1 13 0 29 ∧ Sx20_.1 13 0 29 ≤ 16 := hIx21_.1 13 0 29 rfl
      refine sm_T_go 9 (c1 := (87, [some (.inr (.inr (some (13, 0)))), some (.inl s_), some (.inl (S0_.2.2.1 130 0 (40 * (S0_.1 13 0 28) + s_).toNat)), some (.inl vx9_), some (.inl (Sx20_.2.2.1 129 0 (40 * (S0_.2.2.1 130 0 (40 * (S0_.1 13 0 28) + s_).toNat) + vx9_).toNat))], [.inl (Sx20_.1 13 0 29), .inl 40, .inl 40, .inl 8, .inl 1, .inl (Sx20_.2.2.1 129 0 (40 * (S0_.2.2.1 130 0 (40 * (S0_.1 13 0 28) + s_).toNat) + vx9_).toNat), .inr (.inr (some (13, 0)))], Sx20_)) rfl ?_
      refine sm_T_bin (w := 40 * (Sx20_.1 13 0 29)) rfl (bi_mul (by omega) (by omega) (by omega)) ?_
      refine sm_T_go 1 (c1 := (89, [some (.inr (.inr (some (13, 0)))), some (.inl s_), some (.inl (S0_.2.2.1 130 0 (40 * (S0_.1 13 0 28) + s_).toNat)), some (.inl vx9_), some (.inl (Sx20_.2.2.1 129 0 (40 * (S0_.2.2.1 130 0 (40 * (S0_.1 13 0 28) + s_).toNat) + vx9_).toNat))], [.inl s_, .inl (40 * (Sx20_.1 13 0 29)), .inl 40, .inl 8, .inl 1, .inl (Sx20_.2.2.1 129 0 (40 * (S0_.2.2.1 130 0 (40 * (S0_.1 13 0 28) + s_).toNat) + vx9_).toNat), .inr (.inr (some (13, 0)))], Sx20_)) rfl ?_
      refine sm_T_bin (w := 40 * (Sx20_.1 13 0 29) + s_) rfl (bi_add (by omega) (by omega) (by omega)) ?_
      refine sm_T_bin (w := 1600 * (Sx20_.1 13 0 29) + 40 * s_) rfl (bi_mul (by omega) (by omega) (by omega)) ?_
      refine sm_T_go 1 (c1 := (92, [some (.inr (.inr (some (13, 0)))), some (.inl s_), some (.inl (S0_.2.2.1 130 0 (40 * (S0_.1 13 0 28) + s_).toNat)), some (.inl vx9_), some (.inl (Sx20_.2.2.1 129 0 (40 * (S0_.2.2.1 130 0 (40 * (S0_.1 13 0 28) + s_).toNat) + vx9_).toNat))], [.inl vx9_, .inl (1600 * (Sx20_.1 13 0 29) + 40 * s_), .inl 8, .inl 1, .inl (Sx20_.2.2.1 129 0 (40 * (S0_.2.2.1 130 0 (40 * (S0_.1 13 0 28) + s_).toNat) + vx9_).toNat), .inr (.inr (some (13, 0)))], Sx20_)) rfl ?_
      refine sm_T_bin (w := 1600 * (Sx20_.1 13 0 29) + 40 * s_ + vx9_) rfl (bi_add (by omega) (by omega) (by omega)) ?_
      refine sm_T_bin (w := 12800 * (Sx20_.1 13 0 29) + 320 * s_ + 8 * vx9_) rfl (bi_mul (by omega) (by omega) (by omega)) ?_
      refine sm_T_cal (d1 := 0) (Q1 := vq_333 (Sx20_.2.2.1 129 0 (40 * (S0_.2.2.1 130 0 (40 * (S0_.1 13 0 28) + s_).toNat) + vx9_).toNat) 1 (12800 * (Sx20_.1 13 0 29) + 320 * s_ + 8 * vx9_) mo_ gl_ Sx20_) rfl rfl (by decide) (vc_333 (Sx20_.2.2.1 129 0 (40 * (S0_.2.2.1 130 0 (40 * (S0_.1 13 0 28) + s_).toNat) + vx9_).toNat) 1 (12800 * (Sx20_.1 13 0 29) + 320 * s_ + 8 * vx9_) mo_ gl_ Sx20_ hIx21_ (by exact ⟨v57_, hv_.2⟩) (by exact m57_) (by exact hm1_) (by omega)) (fun u_ Sx28_ px31_ => ?_)
      obtain ⟨rfl, hIx29_, hFx30_, px31_⟩ := px31_
      have hFx32_ : ai_fr (sx_W vw_326) S0_ Sx28_ := ai_fr_tr hFx24_ (fr_le hFx30_ rfl)
      have ex33_ : Sx28_.1 13 0 29 = Sx20_.1 13 0 29 := hFx30_.1 13 0 29 rfl
      have c94_ := px31_
      have g94_ := rg_fr g57_ hFx30_ rfl rfl rfl
      have t94_ := rtab_fr t57_ hFx30_ rfl rfl rfl rfl rfl
      have v94_ : Sx28_.1 13 0 34 = (gl_ : Int) := (hFx32_.1 13 0 34 rfl).trans hv_.1
      refine sm_T_go 2 (c1 := (100, [some (.inr (.inr (some (13, 0)))), some (.inl s_), some (.inl (S0_.2.2.1 130 0 (40 * (S0_.1 13 0 28) + s_).toNat)), some (.inl vx9_), some (.inl (Sx20_.2.2.1 129 0 (40 * (S0_.2.2.1 130 0 (40 * (S0_.1 13 0 28) + s_).toNat) + vx9_).toNat))], [.inl 46, .inr (.inr (some (13, 0)))], Sx28_)) rfl ?_
      refine sm_T_cal (d1 := 0) (Q1 := vq_295 46 b_ n_ T_ (p_ad b_ n_ p_) Sx28_) rfl rfl (by decide) (vc_295 46 b_ n_ T_ (p_ad b_ n_ p_) Sx28_ hIx29_ (by exact t94_) (by exact g94_) (by decide)) (fun u_ Sx34_ px37_ => ?_)
      obtain ⟨rfl, vx39_, rfl, px37_⟩ := px37_
      have e100_ := px37_.2
      refine sm_T_b0 (a := 0) (z := 13) rfl (fun cx40_ => ?_) (fun cx40_ => ?_)
      · have cx40_ : vx39_ = 0 := of_decide_eq_true cx40_
        refine sm_T_rv rfl ⟨_, _, rfl, rfl, hIx29_, hFx32_, ?_⟩
        rw [wd57_] at c94_
        cases hq_ : p_ad b_ n_ p_ with
        | inl e_ =>
          have hp_ : p_pa b_ n_ A_ s_ (A_.2.2.2.2 (40 * M_ + s9_)).toNat p_ = .inl e_ := pa_2 hng_ hq_
          refine ⟨?_, fun r_ hr_ => by rw [hp_] at hr_; cases hr_⟩
          rw [hp_]
          first | (have e114_ := e113_.1; rw [hq_] at e114_; exact e114_) | (rw [hq_] at g94_; exact g94_)
        | inr q_ =>
          have hk46_ := e100_ q_ hq_
          refine ⟨?_, fun r_ hr_ l_ hl_ hs_ => ?_⟩
          · rw [pa_pl hng_, hq_, pb_r rfl]
            first | (rw [if_pos (hk46_.mp (by omega))]; have e114_ := e113_.1; rw [hq_, pb_r rfl] at e114_; exact e114_) | (rw [if_neg (fun z_ => by have := hk46_.mpr z_; omega)]; rw [hq_] at g94_; exact g94_)
          · obtain ⟨q9_, hq9_, hw9_⟩ := pa_w hng_ hr_
            rw [hq_] at hq9_
            cases hq9_
            rw [hw9_]
            have hs2_ := hs_
            rw [← w57_] at hs2_
            first | (rw [if_pos (hk46_.mp (by omega))]; have hr2_ := pa_pl (s_ := s_) hng_; rw [hr_, hq_, pb_r rfl, pb_r rfl, if_pos (hk46_.mp (by omega))] at hr2_; refine e113_.2 _ (by rw [hq_, pb_r rfl]; exact hr2_.symm) l_ hl_ ?_; rw [w107_]; exact (c94_ l_ hl_ hs2_).2) | (rw [if_neg (fun z_ => by have := hk46_.mpr z_; omega)]; exact c94_ l_ hl_ hs2_)
      · have cx40_ : ¬ (vx39_ = 0) := of_decide_eq_false cx40_
        refine sm_T_go 1 (c1 := (107, [some (.inr (.inr (some (13, 0)))), some (.inl s_), some (.inl (S0_.2.2.1 130 0 (40 * (S0_.1 13 0 28) + s_).toNat)), some (.inl vx9_), some (.inl (Sx20_.2.2.1 129 0 (40 * (S0_.2.2.1 130 0 (40 * (S0_.1 13 0 28) + s_).toNat) + vx9_).toNat))], [.inr (.inr (some (13, 0)))], Sx28_)) rfl ?_
        refine sm_T_cal (d1 := 2) (Q1 := vq_297 b_ n_ T_ (p_ad b_ n_ p_) Sx28_) rfl rfl (by decide) (vc_297 b_ n_ T_ (p_ad b_ n_ p_) Sx28_ hIx29_ (by exact t94_) (by exact g94_) (by (intro q_ e_; have := (e100_ q_ e_).mp (by omega); omega))) (fun u_ Sx41_ px44_ => ?_)
        obtain ⟨rfl, hIx42_, hFx43_, px44_⟩ := px44_
        have hFx45_ : ai_fr (sx_W vw_326) S0_ Sx41_ := ai_fr_tr hFx32_ (fr_le hFx43_ rfl)
        have g107_ := px44_.1
        have t107_ := rtab_fr t94_ hFx43_ rfl rfl rfl rfl rfl
        have w107_ := fr_arr (t := 138) (i := 0) hFx43_ rfl
        have v107_ : Sx41_.1 13 0 34 = (gl_ : Int) := (hFx45_.1 13 0 34 rfl).trans hv_.1
        refine sm_T_go 2 (c1 := (113, [some (.inr (.inr (some (13, 0)))), some (.inl s_), some (.inl (S0_.2.2.1 130 0 (40 * (S0_.1 13 0 28) + s_).toNat)), some (.inl vx9_), some (.inl (Sx20_.2.2.1 129 0 (40 * (S0_.2.2.1 130 0 (40 * (S0_.1 13 0 28) + s_).toNat) + vx9_).toNat))], [.inl (Sx20_.2.2.1 129 0 (40 * (S0_.2.2.1 130 0 (40 * (S0_.1 13 0 28) + s_).toNat) + vx9_).toNat), .inr (.inr (some (13, 0)))], Sx41_)) rfl ?_
        refine sm_T_cal (d1 := 3) (Q1 := vq_325 (Sx20_.2.2.1 129 0 (40 * (S0_.2.2.1 130 0 (40 * (S0_.1 13 0 28) + s_).toNat) + vx9_).toNat) b_ n_ T_ (pb (p_ad b_ n_ p_) (p_ad b_ n_)) mo_ gl_ Sx41_) rfl rfl (by decide) (vc_325 (Sx20_.2.2.1 129 0 (40 * (S0_.2.2.1 130 0 (40 * (S0_.1 13 0 28) + s_).toNat) + vx9_).toNat) b_ n_ T_ (pb (p_ad b_ n_ p_) (p_ad b_ n_)) mo_ gl_ Sx41_ hIx42_ (by exact t107_) (by exact g107_) (by exact ⟨v107_, hv_.2⟩) (by omega)) (fun u_ Sx46_ px49_ => ?_)
        obtain ⟨rfl, hIx47_, hFx48_, px49_⟩ := px49_
        have hFx50_ : ai_fr (sx_W vw_326) S0_ Sx46_ := ai_fr_tr hFx45_ (fr_le hFx48_ rfl)
        have e113_ := px49_
        rw [wd57_] at e113_
        refine sm_T_rv rfl ⟨_, _, rfl, rfl, hIx47_, hFx50_, ?_⟩
        rw [wd57_] at c94_
        cases hq_ : p_ad b_ n_ p_ with
        | inl e_ =>
          have hp_ : p_pa b_ n_ A_ s_ (A_.2.2.2.2 (40 * M_ + s9_)).toNat p_ = .inl e_ := pa_2 hng_ hq_
          refine ⟨?_, fun r_ hr_ => by rw [hp_] at hr_; cases hr_⟩
          rw [hp_]
          first | (have e114_ := e113_.1; rw [hq_] at e114_; exact e114_) | (rw [hq_] at g94_; exact g94_)
        | inr q_ =>
          have hk46_ := e100_ q_ hq_
          refine ⟨?_, fun r_ hr_ l_ hl_ hs_ => ?_⟩
          · rw [pa_pl hng_, hq_, pb_r rfl]
            first | (rw [if_pos (hk46_.mp (by omega))]; have e114_ := e113_.1; rw [hq_, pb_r rfl] at e114_; exact e114_) | (rw [if_neg (fun z_ => by have := hk46_.mpr z_; omega)]; rw [hq_] at g94_; exact g94_)
          · obtain ⟨q9_, hq9_, hw9_⟩ := pa_w hng_ hr_
            rw [hq_] at hq9_
            cases hq9_
            rw [hw9_]
            have hs2_ := hs_
            rw [← w57_] at hs2_
            first | (rw [if_pos (hk46_.mp (by omega))]; have hr2_ := pa_pl (s_ := s_) hng_; rw [hr_, hq_, pb_r rfl, pb_r rfl, if_pos (hk46_.mp (by omega))] at hr2_; refine e113_.2 _ (by rw [hq_, pb_r rfl]; exact hr2_.symm) l_ hl_ ?_; rw [w107_]; exact (c94_ l_ hl_ hs2_).2) | (rw [if_neg (fun z_ => by have := hk46_.mpr z_; omega)]; exact c94_ l_ hl_ hs2_)
    · have cx19_ : ¬ ((S0_.2.2.1 128 0 (40 * (S0_.2.2.1 130 0 (40 * (S0_.1 13 0 28) + s_).toNat) + vx9_).toNat) = 2) := of_decide_eq_false cx19_
      refine sm_T_go 4 (c1 := (52, [some (.inr (.inr (some (13, 0)))), some (.inl s_), some (.inl (S0_.2.2.1 130 0 (40 * (S0_.1 13 0 28) + s_).toNat)), some (.inl vx9_), none], [.inl (S0_.1 13 0 9), .inl 11, .inr (.inr (some (13, 0)))], S0_)) rfl ?_
      refine sm_T_cal (d1 := 0) (Q1 := vq_293 11 (S0_.1 13 0 9) S0_) rfl rfl (by decide) (vc_293 11 (S0_.1 13 0 9) S0_ hI_ (by decide) (by omega)) (fun u_ Sx51_ px54_ => ?_)
      obtain ⟨rfl, hIx52_, hFx53_, px54_⟩ := px54_
      have hFx55_ : ai_fr (sx_W vw_326) S0_ Sx51_ := ai_fr_tr hF_ (fr_le hFx53_ rfl)
      have ex56_ : Sx51_.1 13 0 9 = S0_.1 13 0 9 := hFx53_.1 13 0 9 rfl
      have ex57_ : Sx51_.1 13 0 28 = S0_.1 13 0 28 := hFx53_.1 13 0 28 rfl
      have e52_ := px54_
      refine sm_T_rv rfl ⟨_, _, rfl, rfl, hIx52_, hFx55_, ?_⟩
      have hbad : p_fn b_ n_ A_ (A_.2.2.2.2 (40 * M_ + s9_)).toNat p_ = -1 ∨ A_.2.2.1 (40 * (A_.2.2.2.2 (40 * M_ + s9_)).toNat + (p_fn b_ n_ A_ (A_.2.2.2.2 (40 * M_ + s9_)).toNat p_).toNat) ≠ 1 := by first | (left; omega) | (right; rw [otn_]; intro z_; have := sb_.mpr z_; omega)
      have hp_ : p_pa b_ n_ A_ s_ (A_.2.2.2.2 (40 * M_ + s9_)).toNat p_ = .inl (11, p_) := pa_1 hbad
      refine ⟨?_, fun r_ hr_ => by rw [hp_] at hr_; cases hr_⟩
      rw [hp_]
      rcases e52_ with z_ | z_
      · exact absurd hf_ z_.1
      · refine ⟨z_.2.1.trans (if_neg ?_), ?_, by show (11 : Int) ≠ 0; decide⟩
        · rw [e4_, ra_.1]; exact rk_.2.2.2.2.2
        · rw [z_.2.2, e4_]; exact ra_.2.1
