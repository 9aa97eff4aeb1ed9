/-! M_.tellRegister -/
def vw_336 : sx_Wl := ([(13, 9), (13, 10), (13, 11), (13, 25), (13, 26), (13, 32), (13, 33), (13, 34)], [126, 127, 128, 129, 130, 131, 132, 133, 134, 135, 136, 137, 138, 139], [])
def vq_336 (m_ : Int) (b_ : Nat → Int) (n_ : Nat) (T_ : Nat) (A_ : pA) (M_ : Nat) (c_ : List Int) (p_ : Nat) (S0_ : sm_S) (u_ : Option sm_V) (S1_ : sm_S) : Prop := u_ = none ∧ gi S1_ ∧ ai_fr (sx_W vw_336) S0_ S1_ ∧ (rm b_ n_ T_ M_ (p_re b_ n_ A_ M_ c_ p_) S1_)
set_option maxHeartbeats 1500000 in
theorem vl_336 {sc_ : Nat × (Nat → Int)} (m_ : Int) (b_ : Nat → Int) (n_ : Nat) (T_ : Nat) (A_ : pA) (M_ : Nat) (c_ : List Int) (p_ : Nat) (S0_ : sm_S) (ht_ : rtab b_ n_ T_ S0_) (hx_ : rg b_ n_ T_ (.inr p_) S0_) (hk_ : lx_kd b_ n_ p_ ≠ 0) (hmo_ : (S0_.1 13 0 27) = 0) (hmm_ : m_ = (M_ : Int) ∧ M_ ≤ 15) (hmd_ : (S0_.1 13 0 28) = (M_ : Int)) (hA_ : a_ok b_ n_ A_ M_) (hre_ : ∀ m_, m_ ≤ M_ → re1 b_ n_ T_ A_ m_ S0_) (hrs_ : ∀ m_, m_ ≤ M_ → rs1 A_ m_ S0_) (hc_ : c_.length ≤ 3 * p_) : ∀ nn_ : Nat, (∀ (val_ : Int) (S_ : sm_S), gi S_ → ai_fr (sx_W vw_336) S0_ S_ → ((rg b_ n_ T_ (pb (z_re b_ n_ A_ M_ p_) fun a_ => .inr a_.2.1) S_) ∧ (∀ m_, m_ ≤ M_ → re1 b_ n_ T_ A_ m_ S_) ∧ (∀ m_, m_ ≤ M_ → rs1 A_ m_ S_) ∧ (∀ a_, z_wi b_ n_ A_ M_ p_ = .inr a_ → rtk b_ n_ T_ (S_.1 13 0 25) a_.1 ∧ (S_.1 13 0 26) = a_.2.2) ∧ (∀ a_, (z_re b_ n_ A_ M_ p_) = .inr a_ → val_ = a_.2.2) ∧ True) → ((2 : Nat)) < nn_ → sm_T (mt_P sc_) 8 336 (76, [some (.inr (.inr (some (13, 0)))), some (.inl m_), some (.inl val_), none], [], S_) (fun r_ => ∃ u_ S1_, r_ = (.inl u_, S1_, 0) ∧ vq_336 m_ b_ n_ T_ A_ M_ c_ p_ S0_ u_ S1_)) := by
  intro nn_
  induction nn_ with
  | zero => exact fun _ _ _ _ _ h_ => absurd h_ (Nat.not_lt_zero _)
  | succ nn_ ih_ =>
    rintro val_ S_ hI_ hF_ ⟨g76_, re76_, rs76_, tw_, vl76_, -⟩ hm_
    have le0_ := rg_le ht_ hx_
    have hn1_ := ht_.1
    have hAM_ := (hA_.2 M_ (Nat.le_refl M_)).1
    have t76_ := rtab_fr ht_ hF_ rfl rfl rfl rfl rfl
    refine sm_T_go 2 (c1 := (79, [some (.inr (.inr (some (13, 0)))), some (.inl m_), some (.inl val_), none], [.inl 59, .inr (.inr (some (13, 0)))], S_)) rfl ?_
    refine sm_T_cal (d1 := 3) (Q1 := vq_300 59 b_ n_ T_ (pb (z_re b_ n_ A_ M_ p_) fun a_ => .inr a_.2.1) S_) rfl rfl (by decide) (vc_300 59 b_ n_ T_ (pb (z_re b_ n_ A_ M_ p_) fun a_ => .inr a_.2.1) S_ hI_ (by exact t76_) (by exact g76_) (by decide)) (fun u_ Sx1_ px4_ => ?_)
    obtain ⟨rfl, hIx2_, hFx3_, px4_⟩ := px4_
    have hFx5_ : ai_fr (sx_W vw_336) S0_ Sx1_ := ai_fr_tr hF_ (fr_le hFx3_ rfl)
    have g79_ : rg b_ n_ T_ (pb (pb (z_re b_ n_ A_ M_ p_) (z_rs b_ n_)) fun a_ => .inr a_.2) Sx1_ := rg_pb px4_ (fun a_ _ => by unfold z_rs; rw [pb_as]; exact pb_id.symm)
    have re79_ : ∀ m_, m_ ≤ M_ → re1 b_ n_ T_ A_ m_ Sx1_ := fun m_ hm_ => re1_fr (re76_ m_ hm_) hFx3_ rfl rfl rfl rfl rfl rfl
    have rs79_ : ∀ m_, m_ ≤ M_ → rs1 A_ m_ Sx1_ := fun m_ hm_ => rs1_fr (rs76_ m_ hm_) hFx3_ rfl rfl rfl rfl
    have tw79_ : ∀ a_, z_wi b_ n_ A_ M_ p_ = .inr a_ → rtk b_ n_ T_ (Sx1_.1 13 0 25) a_.1 ∧ Sx1_.1 13 0 26 = a_.2.2 := fun a_ ha_ => ⟨by rw [hFx3_.1 13 0 25 rfl]; exact (tw_ a_ ha_).1, (hFx3_.1 13 0 26 rfl).trans (tw_ a_ ha_).2⟩
    refine sm_T_go 4 (c1 := (86, [some (.inr (.inr (some (13, 0)))), some (.inl m_), some (.inl val_), none], [.inl val_, .inl 4, .inl m_, .inr (.inr (some (13, 0)))], Sx1_)) rfl ?_
    refine sm_T_cal (d1 := 1) (Q1 := vq_308 m_ 4 val_ b_ n_ T_ (pb (pb (z_re b_ n_ A_ M_ p_) (z_rs b_ n_)) fun a_ => .inr a_.2) A_ M_ 3 Sx1_) rfl rfl (by decide) (vc_308 m_ 4 val_ b_ n_ T_ (pb (pb (z_re b_ n_ A_ M_ p_) (z_rs b_ n_)) fun a_ => .inr a_.2) A_ M_ 3 Sx1_ hIx2_ (by exact hIx2_) (by exact g79_) (by exact hmm_) (by exact ⟨rfl, by decide, by decide, by decide⟩) (by (intro p9_ hp9_; obtain ⟨a_, h1_, h2_⟩ := pb_inr hp9_; obtain ⟨a2_, h3_, h4_⟩ := pb_inr h1_; obtain ⟨a3_, h5_, h6_⟩ := pb_inr h3_; have k1_ := z_wi_ok le0_.1 hk_ h5_; have k2_ := (tw79_ a3_ h5_).2; have k3_ := k1_.2.1; have k4_ := k1_.2.2.2.2.2; have k5_ := vl76_ a2_ h3_; unfold z_rb at h6_; obtain ⟨z_, h7_, h8_⟩ := pb_inr h6_; cases h8_; have k6_ := rb_ok k1_.2.2.2.1 k1_.2.2.2.2.1 k4_ h7_; have k7_ := k6_.2.2.2; have k5_ : val_ = z_.2 := k5_; exact ⟨hA_, re79_, rs79_, by omega, by omega, by omega, fun z_ => absurd z_ (by decide)⟩))) (fun u_ Sx6_ px9_ => ?_)
    obtain ⟨rfl, hIx7_, hFx8_, px9_⟩ := px9_
    have hFx10_ : ai_fr (sx_W vw_336) S0_ Sx6_ := ai_fr_tr hFx5_ (fr_le hFx8_ rfl)
    have e86_ := px9_
    refine sm_T_rv rfl ⟨_, _, rfl, rfl, hIx7_, hFx10_, ?_⟩
    refine ⟨?_, fun r_ hr_ => ?_⟩
    · rw [re_eq, pb_as]; exact e86_.1
    · have k_ := re_ok hA_ le0_.1 hk_ hc_ hr_
      rw [re_eq] at hr_
      obtain ⟨a_, h1_, h2_⟩ := pb_inr hr_
      cases h2_
      obtain ⟨a2_, h3_, h4_⟩ := pb_inr h1_
      obtain ⟨a3_, h5_, h6_⟩ := pb_inr h3_
      have k5_ := tw79_ _ h5_
      have k6_ := vl76_ a2_ h3_
      unfold z_rb at h6_
      obtain ⟨z_, h7_, h8_⟩ := pb_inr h6_
      cases h8_
      unfold z_rs at h4_
      obtain ⟨y_, h8_, h9_⟩ := pb_inr h4_
      cases h9_
      have e_ := e86_.2 y_ a3_.1 (by rw [h1_]; rfl) k5_.1
      rw [k5_.2, show val_ = z_.2 from k6_] at e_
      exact ⟨k_.1, e_.1, e_.2, k_.2.1⟩
set_option maxHeartbeats 1500000 in
theorem vc_336 {sc_ : Nat × (Nat → Int)} (m_ : Int) (b_ : Nat → Int) (n_ : Nat) (T_ : Nat) (A_ : pA) (M_ : Nat) (c_ : List Int) (p_ : Nat) (S0_ : sm_S) (hI_ : gi S0_) (ht_ : rtab b_ n_ T_ S0_) (hx_ : rg b_ n_ T_ (.inr p_) S0_) (hk_ : lx_kd b_ n_ p_ ≠ 0) (hmo_ : (S0_.1 13 0 27) = 0) (hmm_ : m_ = (M_ : Int) ∧ M_ ≤ 15) (hmd_ : (S0_.1 13 0 28) = (M_ : Int)) (hA_ : a_ok b_ n_ A_ M_) (hre_ : ∀ m_, m_ ≤ M_ → re1 b_ n_ T_ A_ m_ S0_) (hrs_ : ∀ m_, m_ ≤ M_ → rs1 A_ m_ S0_) (hc_ : c_.length ≤ 3 * p_) : sm_T (mt_P sc_) 8 336 (0, [some (.inr (.inr (some (13, 0)))), some (.inl m_), none, none], [], S0_) (fun r_ => ∃ u_ S1_, r_ = (.inl u_, S1_, 0) ∧ vq_336 m_ b_ n_ T_ A_ M_ c_ p_ S0_ u_ S1_) := by
  have hF_ : ai_fr (sx_W vw_336) S0_ S0_ := ai_fr_rf
  have le0_ := rg_le ht_ hx_
  have hn1_ := ht_.1
  have hAM_ := (hA_.2 M_ (Nat.le_refl M_)).1
  refine sm_T_go 1 (c1 := (1, [some (.inr (.inr (some (13, 0)))), some (.inl m_), none, none], [.inr (.inr (some (13, 0)))], S0_)) rfl ?_
  refine sm_T_cal (d1 := 2) (Q1 := vq_297 b_ n_ T_ (.inr p_) S0_) rfl rfl (by decide) (vc_297 b_ n_ T_ (.inr p_) S0_ hI_ (by exact ht_) (by exact hx_) (by (intro q_ e_; cases e_; exact hk_))) (fun u_ Sx1_ px4_ => ?_)
  obtain ⟨rfl, hIx2_, hFx3_, px4_⟩ := px4_
  have hFx5_ : ai_fr (sx_W vw_336) S0_ Sx1_ := ai_fr_tr hF_ (fr_le hFx3_ rfl)
  have t1_ := rtab_fr ht_ hFx3_ rfl rfl rfl rfl rfl
  have re1x : ∀ m_, m_ ≤ M_ → re1 b_ n_ T_ A_ m_ Sx1_ := fun m_ hm_ => re1_fr (hre_ m_ hm_) hFx3_ rfl rfl rfl rfl rfl rfl
  have rs1x : ∀ m_, m_ ≤ M_ → rs1 A_ m_ Sx1_ := fun m_ hm_ => rs1_fr (hrs_ m_ hm_) hFx3_ rfl rfl rfl rfl
  have mo1_ := (hFx3_.1 13 0 27 rfl).trans hmo_
  have md1_ := (hFx3_.1 13 0 28 rfl).trans hmd_
  have g1_ : rg b_ n_ T_ (p_ad b_ n_ p_) Sx1_ := px4_.1
  refine sm_T_go 2 (c1 := (6, [some (.inr (.inr (some (13, 0)))), some (.inl m_), none, none], [.inl m_, .inr (.inr (some (13, 0)))], Sx1_)) rfl ?_
  refine sm_T_cal (d1 := 3) (Q1 := vq_306 m_ b_ n_ T_ (p_ad b_ n_ p_) A_ M_ Sx1_) rfl rfl (by decide) (vc_306 m_ b_ n_ T_ (p_ad b_ n_ p_) A_ M_ Sx1_ hIx2_ (by exact t1_) (by exact g1_) (by exact hmm_) (by exact re1x M_ (Nat.le_refl M_)) (by exact hAM_)) (fun u_ Sx6_ px9_ => ?_)
  obtain ⟨rfl, hIx7_, hFx8_, px9_⟩ := px9_
  have hFx10_ : ai_fr (sx_W vw_336) S0_ Sx6_ := ai_fr_tr hFx5_ (fr_le hFx8_ rfl)
  have t6_ := rtab_fr t1_ hFx8_ rfl rfl rfl rfl rfl
  have re6_ : ∀ m_, m_ ≤ M_ → re1 b_ n_ T_ A_ m_ Sx6_ := fun m_ hm_ => re1_fr (re1x m_ hm_) hFx8_ rfl rfl rfl rfl rfl rfl
  have rs6_ : ∀ m_, m_ ≤ M_ → rs1 A_ m_ Sx6_ := fun m_ hm_ => rs1_fr (rs1x m_ hm_) hFx8_ rfl rfl rfl rfl
  have mo6_ := (hFx8_.1 13 0 27 rfl).trans mo1_
  have md6_ := (hFx8_.1 13 0 28 rfl).trans md1_
  have g6_ : rg b_ n_ T_ (pb (z_nw b_ n_ A_ M_ p_) fun a_ => .inr a_.2) Sx6_ := rg_pb (z_ := p_ad b_ n_ p_) (ps_ := fun a_ => a_) (g_ := p_nw b_ n_ A_ M_) (by rw [pb_id]; exact px9_.1) (fun a_ _ => by rw [pb_as]; exact pb_id.symm)
  have tk6_ : ∀ a_, z_nw b_ n_ A_ M_ p_ = .inr a_ → rtk b_ n_ T_ (Sx6_.1 13 0 25) a_.1 := fun a_ ha_ => by obtain ⟨q_, h1_, h2_⟩ := pb_inr ha_; obtain ⟨r_, h3_, h4_⟩ := pb_inr h2_; cases h4_; exact px9_.2 q_ r_ h1_ h3_
  refine sm_T_go 1 (c1 := (10, [some (.inr (.inr (some (13, 0)))), some (.inl m_), none, none], [.inr (.inr (some (13, 0)))], Sx6_)) rfl ?_
  refine sm_T_cal (d1 := 3) (Q1 := vq_307 b_ n_ T_ (pb (z_nw b_ n_ A_ M_ p_) fun a_ => .inr a_.2) Sx6_) rfl rfl (by decide) (vc_307 b_ n_ T_ (pb (z_nw b_ n_ A_ M_ p_) fun a_ => .inr a_.2) Sx6_ hIx7_ (by exact t6_) (by exact g6_)) (fun u_ Sx11_ px14_ => ?_)
  obtain ⟨rfl, hIx12_, hFx13_, px14_⟩ := px14_
  have hFx15_ : ai_fr (sx_W vw_336) S0_ Sx11_ := ai_fr_tr hFx10_ (fr_le hFx13_ rfl)
  have t10_ := rtab_fr t6_ hFx13_ rfl rfl rfl rfl rfl
  have re10_ : ∀ m_, m_ ≤ M_ → re1 b_ n_ T_ A_ m_ Sx11_ := fun m_ hm_ => re1_fr (re6_ m_ hm_) hFx13_ rfl rfl rfl rfl rfl rfl
  have rs10_ : ∀ m_, m_ ≤ M_ → rs1 A_ m_ Sx11_ := fun m_ hm_ => rs1_fr (rs6_ m_ hm_) hFx13_ rfl rfl rfl rfl
  have mo10_ := (hFx13_.1 13 0 27 rfl).trans mo6_
  have md10_ := (hFx13_.1 13 0 28 rfl).trans md6_
  have g10_ : rg b_ n_ T_ (pb (z_wi b_ n_ A_ M_ p_) fun a_ => .inr a_.2.1) Sx11_ := rg_pb px14_.1 (fun a_ _ => by unfold p_w1; rw [pb_as]; rfl)
  have tk10_ : ∀ a_, z_wi b_ n_ A_ M_ p_ = .inr a_ → rtk b_ n_ T_ (Sx11_.1 13 0 25) a_.1 := fun a_ ha_ => by rw [hFx13_.1 13 0 25 rfl]; obtain ⟨q_, h1_, h2_⟩ := pb_inr ha_; obtain ⟨r_, h3_, h4_⟩ := pb_inr h2_; cases h4_; exact tk6_ q_ h1_
  have wd10_ : ∀ a_, z_wi b_ n_ A_ M_ p_ = .inr a_ → Sx11_.1 13 0 26 = a_.2.2 := fun a_ ha_ => by obtain ⟨q_, h1_, h2_⟩ := pb_inr ha_; obtain ⟨r_, h3_, h4_⟩ := pb_inr h2_; cases h4_; exact px14_.2 q_.2 r_ (by rw [h1_]; rfl) h3_
  have pl10_ : ∀ a_, z_wi b_ n_ A_ M_ p_ = .inr a_ → Sx11_.2.2.1 120 0 (Sx11_.1 13 0 9).toNat = (a_.2.1 : Int) := fun a_ ha_ => (rg_le t10_ (rg_at g10_ ha_)).2.2
  obtain ⟨nt_, hnt_⟩ : ∃ nt_, Sx11_.1 13 0 25 = nt_ := ⟨_, rfl⟩
  obtain ⟨nw_, hnw_⟩ : ∃ nw_, Sx11_.1 13 0 26 = nw_ := ⟨_, rfl⟩
  rw [hnt_] at tk10_
  rw [hnw_] at wd10_
  refine sm_T_go 3 (c1 := (16, [some (.inr (.inr (some (13, 0)))), some (.inl m_), some (.inl 0), none], [.inr (.inr (some (13, 0)))], Sx11_)) rfl ?_
  refine sm_T_cal (d1 := 0) (Q1 := vq_292  Sx11_) rfl rfl (by decide) (vc_292  Sx11_ hIx12_ ) (fun u_ Sx16_ px19_ => ?_)
  obtain ⟨rfl, vx21_, rfl, px19_⟩ := px19_
  have e16_ := px19_
  refine sm_T_b0 (a := 0) (z := 57) rfl (fun cx22_ => ?_) (fun cx22_ => ?_)
  · have cx22_ : vx21_ = 0 := of_decide_eq_true cx22_
    have hz_ := wr_if e16_ (by omega)
    obtain ⟨e5_, he5_⟩ := rg_wr g10_ hz_
    have g76x : rg b_ n_ T_ (pb (z_re b_ n_ A_ M_ p_) fun a_ => .inr a_.2.1) _ := rg_il g10_ he5_
    have v76x : ∀ a_, (z_re b_ n_ A_ M_ p_) = .inr a_ → (0 : Int) = a_.2.2 := fun a_ ha_ => by unfold z_re at ha_; rw [he5_] at ha_; cases ha_
    refine sm_T_go 0 (c1 := (76, [some (.inr (.inr (some (13, 0)))), some (.inl m_), some (.inl 0), none], [], Sx11_)) rfl ?_
    refine (vl_336 m_ b_ n_ T_ A_ M_ c_ p_ S0_ ht_ hx_ hk_ hmo_ hmm_ hmd_ hA_ hre_ hrs_ hc_ _) 0 Sx11_ hIx12_ hFx15_ ⟨?_, ?_, ?_, ?_, ?_, trivial⟩ (Nat.lt_succ_self _)
    · exact g76x
    · first | exact re73_ | exact re10_
    · first | exact rs73_ | exact rs10_
    · first | (intro a_ ha_; rw [nt73_, nw73_]; exact ⟨tk10_ a_ ha_, wd10_ a_ ha_⟩) | (intro a_ ha_; rw [hnt_, hnw_]; exact ⟨tk10_ a_ ha_, wd10_ a_ ha_⟩)
    · first | exact v76x | (intro a_ ha_; unfold z_re at ha_; rw [ha5_] at ha_; have ha_ : z_rb b_ n_ a5_ = .inr a_ := ha_; unfold z_rb at ha_; first | (rw [cw3_] at ha_; cases ha_; done) | (rw [crv_] at ha_; first | (cases ha_; done) | (obtain ⟨z_, h1_, h2_⟩ := pb_inr ha_; obtain ⟨r_, h3_, h4_⟩ := pb_inr h1_; cases h4_; cases h2_; exact nv_.1)))
  · have cx22_ : ¬ (vx21_ = 0) := of_decide_eq_false cx22_
    have hz_ := rt_if e16_ (by omega)
    obtain ⟨a5_, ha5_⟩ := rg_rt g10_ hz_
    have g11_ := rg_at g10_ ha5_
    have w5_ := wd10_ a5_ ha5_
    have k5_ := z_wi_ok le0_.1 hk_ ha5_
    have k6_ := k5_.2.2.2.2.2
    refine sm_T_go 2 (c1 := (25, [some (.inr (.inr (some (13, 0)))), some (.inl m_), some (.inl 0), none], [.inl 61, .inr (.inr (some (13, 0)))], Sx11_)) rfl ?_
    refine sm_T_cal (d1 := 0) (Q1 := vq_295 61 b_ n_ T_ (pb (z_wi b_ n_ A_ M_ p_) fun a_ => .inr a_.2.1) Sx11_) rfl rfl (by decide) (vc_295 61 b_ n_ T_ (pb (z_wi b_ n_ A_ M_ p_) fun a_ => .inr a_.2.1) Sx11_ hIx12_ (by exact t10_) (by exact g10_) (by decide)) (fun u_ Sx23_ px26_ => ?_)
    obtain ⟨rfl, vx28_, rfl, px26_⟩ := px26_
    have e25_ := px26_.2 a5_.2.1 (by rw [ha5_]; rfl)
    have r25_ := px26_.1.1
    refine sm_T_b0 (a := 0) (z := 48) rfl (fun cx29_ => ?_) (fun cx29_ => ?_)
    · have cx29_ : vx28_ = 0 := of_decide_eq_true cx29_
      have n61_ : lx_kd b_ n_ a5_.2.1 ≠ 61 := fun z_ => by have := e25_.mpr z_; omega
      have rb5_ : p_rb b_ n_ a5_.2.2 a5_.2.1 = .inr (a5_.2.1, 0) := if_neg n61_
      have g76x : rg b_ n_ T_ (pb (z_re b_ n_ A_ M_ p_) fun a_ => .inr a_.2.1) _ := rg_st g11_ ha5_ (by unfold z_rb; rw [rb5_]; rfl)
      have v76x : ∀ a_, (z_re b_ n_ A_ M_ p_) = .inr a_ → (0 : Int) = a_.2.2 := fun a_ ha_ => by unfold z_re at ha_; rw [ha5_] at ha_; have ha_ : z_rb b_ n_ a5_ = .inr a_ := ha_; unfold z_rb at ha_; rw [rb5_] at ha_; cases ha_; rfl
      refine sm_T_go 0 (c1 := (76, [some (.inr (.inr (some (13, 0)))), some (.inl m_), some (.inl 0), none], [], Sx11_)) rfl ?_
      refine (vl_336 m_ b_ n_ T_ A_ M_ c_ p_ S0_ ht_ hx_ hk_ hmo_ hmm_ hmd_ hA_ hre_ hrs_ hc_ _) 0 Sx11_ hIx12_ hFx15_ ⟨?_, ?_, ?_, ?_, ?_, trivial⟩ (Nat.lt_succ_self _)
      · exact g76x
      · first | exact re73_ | exact re10_
      · first | exact rs73_ | exact rs10_
      · first | (intro a_ ha_; rw [nt73_, nw73_]; exact ⟨tk10_ a_ ha_, wd10_ a_ ha_⟩) | (intro a_ ha_; rw [hnt_, hnw_]; exact ⟨tk10_ a_ ha_, wd10_ a_ ha_⟩)
      · first | exact v76x | (intro a_ ha_; unfold z_re at ha_; rw [ha5_] at ha_; have ha_ : z_rb b_ n_ a5_ = .inr a_ := ha_; unfold z_rb at ha_; first | (rw [cw3_] at ha_; cases ha_; done) | (rw [crv_] at ha_; first | (cases ha_; done) | (obtain ⟨z_, h1_, h2_⟩ := pb_inr ha_; obtain ⟨r_, h3_, h4_⟩ := pb_inr h1_; cases h4_; cases h2_; exact nv_.1)))
    · have cx29_ : ¬ (vx28_ = 0) := of_decide_eq_false cx29_
      have k61_ : lx_kd b_ n_ a5_.2.1 = 61 := e25_.mp (by omega)
      refine sm_T_go 1 (c1 := (32, [some (.inr (.inr (some (13, 0)))), some (.inl m_), some (.inl 0), none], [.inr (.inr (some (13, 0)))], Sx11_)) rfl ?_
      refine sm_T_cal (d1 := 2) (Q1 := vq_297 b_ n_ T_ (.inr a5_.2.1) Sx11_) rfl rfl (by decide) (vc_297 b_ n_ T_ (.inr a5_.2.1) Sx11_ hIx12_ (by exact t10_) (by exact g11_) (by (intro q_ e_; cases e_; omega))) (fun u_ Sx30_ px33_ => ?_)
      obtain ⟨rfl, hIx31_, hFx32_, px33_⟩ := px33_
      have hFx34_ : ai_fr (sx_W vw_336) S0_ Sx30_ := ai_fr_tr hFx15_ (fr_le hFx32_ rfl)
      have t32_ := rtab_fr t10_ hFx32_ rfl rfl rfl rfl rfl
      have re32_ : ∀ m_, m_ ≤ M_ → re1 b_ n_ T_ A_ m_ Sx30_ := fun m_ hm_ => re1_fr (re10_ m_ hm_) hFx32_ rfl rfl rfl rfl rfl rfl
      have rs32_ : ∀ m_, m_ ≤ M_ → rs1 A_ m_ Sx30_ := fun m_ hm_ => rs1_fr (rs10_ m_ hm_) hFx32_ rfl rfl rfl rfl
      have mo32_ := (hFx32_.1 13 0 27 rfl).trans mo10_
      have md32_ := (hFx32_.1 13 0 28 rfl).trans md10_
      have g32_ : rg b_ n_ T_ (p_ad b_ n_ a5_.2.1) Sx30_ := px33_.1
      have nt32_ := (hFx32_.1 13 0 25 rfl).trans hnt_
      have nw32_ := (hFx32_.1 13 0 26 rfl).trans hnw_
      refine sm_T_go 2 (c1 := (37, [some (.inr (.inr (some (13, 0)))), some (.inl m_), some (.inl 0), none], [.inl 2, .inr (.inr (some (13, 0)))], Sx30_)) rfl ?_
      refine sm_T_cal (d1 := 1) (Q1 := vq_299 2 b_ n_ T_ (p_ad b_ n_ a5_.2.1) Sx30_) rfl rfl (by decide) (vc_299 2 b_ n_ T_ (p_ad b_ n_ a5_.2.1) Sx30_ hIx31_ (by exact t32_) (by exact g32_) (by decide)) (fun u_ Sx35_ px38_ => ?_)
      obtain ⟨vx40_, rfl, hIx36_, hFx37_, px38_⟩ := px38_
      have hFx39_ : ai_fr (sx_W vw_336) S0_ Sx35_ := ai_fr_tr hFx34_ (fr_le hFx37_ rfl)
      have t37_ := rtab_fr t32_ hFx37_ rfl rfl rfl rfl rfl
      have re37_ : ∀ m_, m_ ≤ M_ → re1 b_ n_ T_ A_ m_ Sx35_ := fun m_ hm_ => re1_fr (re32_ m_ hm_) hFx37_ rfl rfl rfl rfl rfl rfl
      have rs37_ : ∀ m_, m_ ≤ M_ → rs1 A_ m_ Sx35_ := fun m_ hm_ => rs1_fr (rs32_ m_ hm_) hFx37_ rfl rfl rfl rfl
      have mo37_ := (hFx37_.1 13 0 27 rfl).trans mo32_
      have md37_ := (hFx37_.1 13 0 28 rfl).trans md32_
      have a3_ := px38_.1
      have g3_ := px38_.2
      have nt37_ := (hFx37_.1 13 0 25 rfl).trans nt32_
      have nw37_ := (hFx37_.1 13 0 26 rfl).trans nw32_
      have at3_ := hFx37_.1 13 0 9 rfl
      have v3b : 0 ≤ vx40_ ∧ vx40_ ≤ 1280 := by rw [a3_, ← at3_]; exact hIx36_.1 13 0 9 rfl
      have nv17_ : ∀ r_ i3_ : Nat, Sx35_.1 13 0 9 = (i3_ : Int) → rp b_ n_ T_ i3_ r_ → lx_kd b_ n_ r_ = 2 → Sx35_.2.2.1 121 0 vx40_.toNat = lx_vl b_ n_ r_ ∧ Sx35_.2.2.1 120 0 vx40_.toNat = (r_ : Int) ∧ Sx35_.2.2.1 119 0 vx40_.toNat ≠ 4 := by intro r_ i3_ q1_ q2_ q3_; have q4_ := rp_at t37_ q2_; rw [show vx40_.toNat = i3_ by omega, q4_.1, q4_.2.1, q4_.2.2.1, q3_]; exact ⟨rfl, rfl, by decide⟩
      refine sm_T_go 4 (c1 := (46, [some (.inr (.inr (some (13, 0)))), some (.inl m_), some (.inl 0), some (.inl vx40_)], [.inl vx40_, .inr (.inr (some (121, 0)))], Sx35_)) rfl ?_
      refine sm_T_iald (n := 65537) rfl rfl (by omega) (by omega) ?_
      have bx41_ : (-2147483648) ≤ Sx35_.2.2.1 121 0 vx40_.toNat ∧ Sx35_.2.2.1 121 0 vx40_.toNat ≤ 2147483647 := hIx36_.2 121 0 _
      refine sm_T_go 2 (c1 := (49, [some (.inr (.inr (some (13, 0)))), some (.inl m_), some (.inl (Sx35_.2.2.1 121 0 vx40_.toNat)), some (.inl vx40_)], [.inr (.inr (some (13, 0)))], Sx35_)) rfl ?_
      refine sm_T_cal (d1 := 0) (Q1 := vq_292  Sx35_) rfl rfl (by decide) (vc_292  Sx35_ hIx36_ ) (fun u_ Sx42_ px45_ => ?_)
      obtain ⟨rfl, vx47_, rfl, px45_⟩ := px45_
      have e49_ := px45_
      refine sm_T_b0 (a := 0) (z := 20) rfl (fun cx48_ => ?_) (fun cx48_ => ?_)
      · have cx48_ : vx47_ = 0 := of_decide_eq_true cx48_
        obtain ⟨e3_, he3_⟩ := rg_w g3_ (wr_if e49_ (by omega))
        have cw3_ := rb_w (w_ := a5_.2.2) k61_ he3_
        rw [he3_] at g3_
        obtain ⟨x4_, hx4_, hx4b⟩ : ∃ x4_ : pE Nat, rg b_ n_ T_ x4_ _ ∧ x4_ = .inl e3_ := ⟨_, g3_, rfl⟩
        have t4_ := t37_
        have re4_ := re37_
        have rs4_ := rs37_
        have nt4_ := nt37_
        have nw4_ := nw37_
        refine sm_T_go 1 (c1 := (73, [some (.inr (.inr (some (13, 0)))), some (.inl m_), some (.inl (Sx35_.2.2.1 121 0 vx40_.toNat)), some (.inl vx40_)], [.inr (.inr (some (13, 0)))], Sx35_)) rfl ?_
        refine sm_T_cal (d1 := 2) (Q1 := vq_297 b_ n_ T_ x4_ Sx35_) rfl rfl (by decide) (vc_297 b_ n_ T_ x4_ Sx35_ hIx36_ (by exact t4_) (by exact hx4_) (by (intro z_ e_; rw [hx4b] at e_; first | (cases e_; done) | (cases e_; rw [cr.1]; decide)))) (fun u_ Sx49_ px52_ => ?_)
        obtain ⟨rfl, hIx50_, hFx51_, px52_⟩ := px52_
        have hFx53_ : ai_fr (sx_W vw_336) S0_ Sx49_ := ai_fr_tr hFx39_ (fr_le hFx51_ rfl)
        have g73_ := px52_.1
        rw [hx4b] at g73_
        have re73_ : ∀ m_, m_ ≤ M_ → re1 b_ n_ T_ A_ m_ Sx49_ := fun m_ hm_ => re1_fr (re4_ m_ hm_) hFx51_ rfl rfl rfl rfl rfl rfl
        have rs73_ : ∀ m_, m_ ≤ M_ → rs1 A_ m_ Sx49_ := fun m_ hm_ => rs1_fr (rs4_ m_ hm_) hFx51_ rfl rfl rfl rfl
        have nt73_ := (hFx51_.1 13 0 25 rfl).trans nt4_
        have nw73_ := (hFx51_.1 13 0 26 rfl).trans nw4_
        have g76x : rg b_ n_ T_ (pb (z_re b_ n_ A_ M_ p_) fun a_ => .inr a_.2.1) Sx49_ := rg_st g73_ ha5_ (by unfold z_rb; first | (rw [cw3_]; rfl) | (rw [crv_]; first | rfl | (rw [pb_as, pb_as]; show _ = p_ad b_ n_ q_; exact pb_id)))
        refine sm_T_go 0 (c1 := (76, [some (.inr (.inr (some (13, 0)))), some (.inl m_), some (.inl (Sx35_.2.2.1 121 0 vx40_.toNat)), some (.inl vx40_)], [], Sx49_)) rfl ?_
        refine sm_T_wk [some (.inr (.inr (some (13, 0)))), some (.inl m_), some (.inl (Sx35_.2.2.1 121 0 vx40_.toNat)), none] (by exact ⟨rfl, rfl, rfl, trivial⟩) ?_
        refine (vl_336 m_ b_ n_ T_ A_ M_ c_ p_ S0_ ht_ hx_ hk_ hmo_ hmm_ hmd_ hA_ hre_ hrs_ hc_ _) (Sx35_.2.2.1 121 0 vx40_.toNat) Sx49_ hIx50_ hFx53_ ⟨?_, ?_, ?_, ?_, ?_, trivial⟩ (Nat.lt_succ_self _)
        · exact g76x
        · first | exact re73_ | exact re10_
        · first | exact rs73_ | exact rs10_
        · first | (intro a_ ha_; rw [nt73_, nw73_]; exact ⟨tk10_ a_ ha_, wd10_ a_ ha_⟩) | (intro a_ ha_; rw [hnt_, hnw_]; exact ⟨tk10_ a_ ha_, wd10_ a_ ha_⟩)
        · first | exact v76x | (intro a_ ha_; unfold z_re at ha_; rw [ha5_] at ha_; have ha_ : z_rb b_ n_ a5_ = .inr a_ := ha_; unfold z_rb at ha_; first | (rw [cw3_] at ha_; cases ha_; done) | (rw [crv_] at ha_; first | (cases ha_; done) | (obtain ⟨z_, h1_, h2_⟩ := pb_inr ha_; obtain ⟨r_, h3_, h4_⟩ := pb_inr h1_; cases h4_; cases h2_; exact nv_.1)))
      · have cx48_ : ¬ (vx47_ = 0) := of_decide_eq_false cx48_
        have hz4_ := rt_if e49_ (by omega)
        obtain ⟨q_, i3_, hq3_, e31_, e32_⟩ := rg_r g3_ hz4_
        have cr := rb_r (w_ := a5_.2.2) k61_ hq3_
        have nv_ := nv17_ q_ i3_ e31_ e32_ cr.1
        have sh_ := i_shl1 (e := nw_) (by omega) (by omega)
        rw [w5_] at sh_
        have vp_ := lx_vl_0 cr.1
        have bx54_ : (-2147483648) ≤ Sx35_.1 13 0 26 ∧ Sx35_.1 13 0 26 ≤ 2147483647 := hIx36_.1 13 0 26 rfl
        refine sm_T_go 4 (c1 := (61, [some (.inr (.inr (some (13, 0)))), some (.inl m_), some (.inl (Sx35_.2.2.1 121 0 vx40_.toNat)), some (.inl vx40_)], [.inl (Sx35_.1 13 0 26), .inl 1, .inl (Sx35_.2.2.1 121 0 vx40_.toNat)], Sx35_)) rfl ?_
        refine sm_T_bin (w := (i_shl 1 (Sx35_.1 13 0 26))) rfl rfl ?_
        refine sm_T_br (a := 2) (z := 10) rfl (fun cx55_ => ?_) (fun cx55_ => ?_)
        · have cx55_ : (Sx35_.2.2.1 121 0 vx40_.toNat) < (i_shl 1 (Sx35_.1 13 0 26)) := of_decide_eq_true cx55_
          rw [hq3_] at g3_
          obtain ⟨x4_, hx4_, hx4b⟩ : ∃ x4_ : pE Nat, rg b_ n_ T_ x4_ _ ∧ x4_ = .inr q_ := ⟨_, g3_, rfl⟩
          have crv_ := cr.2
          rw [nw37_, w5_, sh_] at cx55_
          rw [if_neg (by omega)] at crv_
          have t4_ := t37_
          have re4_ := re37_
          have rs4_ := rs37_
          have nt4_ := nt37_
          have nw4_ := nw37_
          refine sm_T_go 1 (c1 := (73, [some (.inr (.inr (some (13, 0)))), some (.inl m_), some (.inl (Sx35_.2.2.1 121 0 vx40_.toNat)), some (.inl vx40_)], [.inr (.inr (some (13, 0)))], Sx35_)) rfl ?_
          refine sm_T_cal (d1 := 2) (Q1 := vq_297 b_ n_ T_ x4_ Sx35_) rfl rfl (by decide) (vc_297 b_ n_ T_ x4_ Sx35_ hIx36_ (by exact t4_) (by exact hx4_) (by (intro z_ e_; rw [hx4b] at e_; first | (cases e_; done) | (cases e_; rw [cr.1]; decide)))) (fun u_ Sx56_ px59_ => ?_)
          obtain ⟨rfl, hIx57_, hFx58_, px59_⟩ := px59_
          have hFx60_ : ai_fr (sx_W vw_336) S0_ Sx56_ := ai_fr_tr hFx39_ (fr_le hFx58_ rfl)
          have ex61_ : Sx56_.1 13 0 26 = Sx35_.1 13 0 26 := hFx58_.1 13 0 26 rfl
          have g73_ := px59_.1
          rw [hx4b] at g73_
          have re73_ : ∀ m_, m_ ≤ M_ → re1 b_ n_ T_ A_ m_ Sx56_ := fun m_ hm_ => re1_fr (re4_ m_ hm_) hFx58_ rfl rfl rfl rfl rfl rfl
          have rs73_ : ∀ m_, m_ ≤ M_ → rs1 A_ m_ Sx56_ := fun m_ hm_ => rs1_fr (rs4_ m_ hm_) hFx58_ rfl rfl rfl rfl
          have nt73_ := (hFx58_.1 13 0 25 rfl).trans nt4_
          have nw73_ := (hFx58_.1 13 0 26 rfl).trans nw4_
          have g76x : rg b_ n_ T_ (pb (z_re b_ n_ A_ M_ p_) fun a_ => .inr a_.2.1) Sx56_ := rg_st g73_ ha5_ (by unfold z_rb; first | (rw [cw3_]; rfl) | (rw [crv_]; first | rfl | (rw [pb_as, pb_as]; show _ = p_ad b_ n_ q_; exact pb_id)))
          refine sm_T_go 0 (c1 := (76, [some (.inr (.inr (some (13, 0)))), some (.inl m_), some (.inl (Sx35_.2.2.1 121 0 vx40_.toNat)), some (.inl vx40_)], [], Sx56_)) rfl ?_
          refine sm_T_wk [some (.inr (.inr (some (13, 0)))), some (.inl m_), some (.inl (Sx35_.2.2.1 121 0 vx40_.toNat)), none] (by exact ⟨rfl, rfl, rfl, trivial⟩) ?_
          refine (vl_336 m_ b_ n_ T_ A_ M_ c_ p_ S0_ ht_ hx_ hk_ hmo_ hmm_ hmd_ hA_ hre_ hrs_ hc_ _) (Sx35_.2.2.1 121 0 vx40_.toNat) Sx56_ hIx57_ hFx60_ ⟨?_, ?_, ?_, ?_, ?_, trivial⟩ (Nat.lt_succ_self _)
          · exact g76x
          · first | exact re73_ | exact re10_
          · first | exact rs73_ | exact rs10_
          · first | (intro a_ ha_; rw [nt73_, nw73_]; exact ⟨tk10_ a_ ha_, wd10_ a_ ha_⟩) | (intro a_ ha_; rw [hnt_, hnw_]; exact ⟨tk10_ a_ ha_, wd10_ a_ ha_⟩)
          · first | exact v76x | (intro a_ ha_; unfold z_re at ha_; rw [ha5_] at ha_; have ha_ : z_rb b_ n_ a5_ = .inr a_ := ha_; unfold z_rb at ha_; first | (rw [cw3_] at ha_; cases ha_; done) | (rw [crv_] at ha_; first | (cases ha_; done) | (obtain ⟨z_, h1_, h2_⟩ := pb_inr ha_; obtain ⟨r_, h3_, h4_⟩ := pb_inr h1_; cases h4_; cases h2_; exact nv_.1)))
        · have cx55_ : ¬ ((Sx35_.2.2.1 121 0 vx40_.toNat) < (i_shl 1 (Sx35_.1 13 0 26))) := of_decide_eq_false cx55_
          have crv_ := cr.2
          rw [nw37_, w5_, sh_] at cx55_
          rw [if_pos (by omega)] at crv_
          refine sm_T_go 3 (c1 := (69, [some (.inr (.inr (some (13, 0)))), some (.inl m_), some (.inl (Sx35_.2.2.1 121 0 vx40_.toNat)), some (.inl vx40_)], [.inl vx40_, .inl 12, .inr (.inr (some (13, 0)))], Sx35_)) rfl ?_
          refine sm_T_cal (d1 := 0) (Q1 := vq_293 12 vx40_ Sx35_) rfl rfl (by decide) (vc_293 12 vx40_ Sx35_ hIx36_ (by decide) (by omega)) (fun u_ Sx62_ px65_ => ?_)
          obtain ⟨rfl, hIx63_, hFx64_, px65_⟩ := px65_
          have hFx66_ : ai_fr (sx_W vw_336) S0_ Sx62_ := ai_fr_tr hFx39_ (fr_le hFx64_ rfl)
          have ex67_ : Sx62_.1 13 0 26 = Sx35_.1 13 0 26 := hFx64_.1 13 0 26 rfl
          have g36_ : rg b_ n_ T_ (.inl (12, q_)) Sx62_ := by rcases px65_ with z_ | z_; (exact absurd hz4_ z_.1); (exact ⟨z_.2.1.trans (if_neg nv_.2.2), z_.2.2.trans nv_.2.1, by show (12 : Int) ≠ 0; decide⟩)
          obtain ⟨x4_, hx4_, hx4b⟩ : ∃ x4_ : pE Nat, rg b_ n_ T_ x4_ Sx62_ ∧ x4_ = .inl (12, q_) := ⟨_, g36_, rfl⟩
          have t4_ := rtab_fr t37_ hFx64_ rfl rfl rfl rfl rfl
          have re4_ : ∀ m_, m_ ≤ M_ → re1 b_ n_ T_ A_ m_ Sx62_ := fun m_ hm_ => re1_fr (re37_ m_ hm_) hFx64_ rfl rfl rfl rfl rfl rfl
          have rs4_ : ∀ m_, m_ ≤ M_ → rs1 A_ m_ Sx62_ := fun m_ hm_ => rs1_fr (rs37_ m_ hm_) hFx64_ rfl rfl rfl rfl
          have nt4_ := (hFx64_.1 13 0 25 rfl).trans nt37_
          have nw4_ := (hFx64_.1 13 0 26 rfl).trans nw37_
          refine sm_T_go 1 (c1 := (73, [some (.inr (.inr (some (13, 0)))), some (.inl m_), some (.inl (Sx35_.2.2.1 121 0 vx40_.toNat)), some (.inl vx40_)], [.inr (.inr (some (13, 0)))], Sx62_)) rfl ?_
          refine sm_T_cal (d1 := 2) (Q1 := vq_297 b_ n_ T_ x4_ Sx62_) rfl rfl (by decide) (vc_297 b_ n_ T_ x4_ Sx62_ hIx63_ (by exact t4_) (by exact hx4_) (by (intro z_ e_; rw [hx4b] at e_; first | (cases e_; done) | (cases e_; rw [cr.1]; decide)))) (fun u_ Sx68_ px71_ => ?_)
          obtain ⟨rfl, hIx69_, hFx70_, px71_⟩ := px71_
          have hFx72_ : ai_fr (sx_W vw_336) S0_ Sx68_ := ai_fr_tr hFx66_ (fr_le hFx70_ rfl)
          have g73_ := px71_.1
          rw [hx4b] at g73_
          have re73_ : ∀ m_, m_ ≤ M_ → re1 b_ n_ T_ A_ m_ Sx68_ := fun m_ hm_ => re1_fr (re4_ m_ hm_) hFx70_ rfl rfl rfl rfl rfl rfl
          have rs73_ : ∀ m_, m_ ≤ M_ → rs1 A_ m_ Sx68_ := fun m_ hm_ => rs1_fr (rs4_ m_ hm_) hFx70_ rfl rfl rfl rfl
          have nt73_ := (hFx70_.1 13 0 25 rfl).trans nt4_
          have nw73_ := (hFx70_.1 13 0 26 rfl).trans nw4_
          have g76x : rg b_ n_ T_ (pb (z_re b_ n_ A_ M_ p_) fun a_ => .inr a_.2.1) Sx68_ := rg_st g73_ ha5_ (by unfold z_rb; first | (rw [cw3_]; rfl) | (rw [crv_]; first | rfl | (rw [pb_as, pb_as]; show _ = p_ad b_ n_ q_; exact pb_id)))
          refine sm_T_go 0 (c1 := (76, [some (.inr (.inr (some (13, 0)))), some (.inl m_), some (.inl (Sx35_.2.2.1 121 0 vx40_.toNat)), some (.inl vx40_)], [], Sx68_)) rfl ?_
          refine sm_T_wk [some (.inr (.inr (some (13, 0)))), some (.inl m_), some (.inl (Sx35_.2.2.1 121 0 vx40_.toNat)), none] (by exact ⟨rfl, rfl, rfl, trivial⟩) ?_
          refine (vl_336 m_ b_ n_ T_ A_ M_ c_ p_ S0_ ht_ hx_ hk_ hmo_ hmm_ hmd_ hA_ hre_ hrs_ hc_ _) (Sx35_.2.2.1 121 0 vx40_.toNat) Sx68_ hIx69_ hFx72_ ⟨?_, ?_, ?_, ?_, ?_, trivial⟩ (Nat.lt_succ_self _)
          · exact g76x
          · first | exact re73_ | exact re10_
          · first | exact rs73_ | exact rs10_
          · first | (intro a_ ha_; rw [nt73_, nw73_]; exact ⟨tk10_ a_ ha_, wd10_ a_ ha_⟩) | (intro a_ ha_; rw [hnt_, hnw_]; exact ⟨tk10_ a_ ha_, wd10_ a_ ha_⟩)
          · first | exact v76x | (intro a_ ha_; unfold z_re at ha_; rw [ha5_] at ha_; have ha_ : z_rb b_ n_ a5_ = .inr a_ := ha_; unfold z_rb at ha_; first | (rw [cw3_] at ha_; cases ha_; done) | (rw [crv_] at ha_; first | (cases ha_; done) | (obtain ⟨z_, h1_, h2_⟩ := pb_inr ha_; obtain ⟨r_, h3_, h4_⟩ := pb_inr h1_; cases h4_; cases h2_; exact nv_.1)))
