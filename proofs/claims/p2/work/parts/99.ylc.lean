/-! M_.tellValue -/
def vw_335 : sx_Wl := ([(13, 9), (13, 10), (13, 11), (13, 25), (13, 26), (13, 32), (13, 33), (13, 34)], [126, 127, 128, 129, 130, 131, 132, 133, 134, 135, 136, 137, 138, 139], [])
def vq_335 (m_ : Int) (so_ : Int) (b_ : Nat → Int) (n_ : Nat) (T_ : Nat) (A_ : pA) (M_ : Nat) (c_ : List Int) (p_ : Nat) (cs_ : Int) (S0_ : sm_S) (u_ : Option sm_V) (S1_ : sm_S) : Prop := u_ = none ∧ gi S1_ ∧ ai_fr (sx_W vw_335) S0_ S1_ ∧ (rm b_ n_ T_ M_ (p_va b_ n_ A_ M_ cs_ c_ p_) S1_)
set_option maxHeartbeats 1500000 in
theorem vl_335 {sc_ : Nat × (Nat → Int)} (m_ : Int) (so_ : Int) (b_ : Nat → Int) (n_ : Nat) (T_ : Nat) (A_ : pA) (M_ : Nat) (c_ : List Int) (p_ : Nat) (cs_ : Int) (S0_ : sm_S) (ht_ : rtab b_ n_ T_ S0_) (hx_ : rg b_ n_ T_ (.inr p_) S0_) (hk_ : lx_kd b_ n_ p_ ≠ 0) (hmo_ : (S0_.1 13 0 27) = 0) (hmm_ : m_ = (M_ : Int) ∧ M_ ≤ 15) (hmd_ : (S0_.1 13 0 28) = (M_ : Int)) (hA_ : a_ok b_ n_ A_ M_) (hre_ : ∀ m_, m_ ≤ M_ → re1 b_ n_ T_ A_ m_ S0_) (hrs_ : ∀ m_, m_ ≤ M_ → rs1 A_ m_ S0_) (hc_ : c_.length ≤ 3 * p_) (hcs_ : so_ = cs_ + 1 ∧ 1 ≤ cs_ ∧ cs_ ≤ 2) : ∀ nn_ : Nat, (∀ (tk_ : Int) (w_ : Int) (S_ : sm_S), gi S_ → ai_fr (sx_W vw_335) S0_ S_ → ((rg b_ n_ T_ (pb (pb (z_va b_ n_ A_ M_ c_ p_) z_vw) fun a_ => .inr a_.2.1) S_) ∧ (∀ m_, m_ ≤ M_ → re1 b_ n_ T_ A_ m_ S_) ∧ (∀ m_, m_ ≤ M_ → rs1 A_ m_ S_) ∧ (∀ a_, z_wi b_ n_ A_ M_ p_ = .inr a_ → rtk b_ n_ T_ tk_ a_.1 ∧ w_ = a_.2.2) ∧ ((0 ≤ tk_ ∧ tk_ ≤ 1280) ∧ (-2147483648 ≤ w_ ∧ w_ ≤ 2147483647)) ∧ True) → ((2 : Nat)) < nn_ → sm_T (mt_P sc_) 8 335 (66, [some (.inr (.inr (some (13, 0)))), some (.inl m_), some (.inl so_), some (.inl tk_), some (.inl w_), none], [], S_) (fun r_ => ∃ u_ S1_, r_ = (.inl u_, S1_, 0) ∧ vq_335 m_ so_ b_ n_ T_ A_ M_ c_ p_ cs_ S0_ u_ S1_)) := by
  intro nn_
  induction nn_ with
  | zero => exact fun _ _ _ _ _ _ h_ => absurd h_ (Nat.not_lt_zero _)
  | succ nn_ ih_ =>
    rintro tk_ w_ S_ hI_ hF_ ⟨g66_, re66_, rs66_, tw_, tb_, -⟩ hm_
    have le0_ := rg_le ht_ hx_
    have hn1_ := ht_.1
    have hAM_ := (hA_.2 M_ (Nat.le_refl M_)).1
    have t66_ := rtab_fr ht_ hF_ rfl rfl rfl rfl rfl
    have zvx_ : ∀ a_, z_va b_ n_ A_ M_ c_ p_ = .inr a_ → z_wi b_ n_ A_ M_ p_ = .inr a_.1 := fun a_ ha_ => by obtain ⟨a0_, h1_, h2_⟩ := pb_inr ha_; obtain ⟨v_, h3_, h4_⟩ := pb_inr h2_; obtain ⟨r_, h5_, h6_⟩ := pb_inr h4_; cases h6_; exact h1_
    refine sm_T_go 2 (c1 := (69, [some (.inr (.inr (some (13, 0)))), some (.inl m_), some (.inl so_), some (.inl tk_), some (.inl w_), none], [.inl 59, .inr (.inr (some (13, 0)))], S_)) rfl ?_
    refine sm_T_cal (d1 := 3) (Q1 := vq_300 59 b_ n_ T_ (pb (pb (z_va b_ n_ A_ M_ c_ p_) z_vw) fun a_ => .inr a_.2.1) S_) rfl rfl (by decide) (vc_300 59 b_ n_ T_ (pb (pb (z_va b_ n_ A_ M_ c_ p_) z_vw) fun a_ => .inr a_.2.1) S_ hI_ (by exact t66_) (by exact g66_) (by decide)) (fun u_ Sx1_ px4_ => ?_)
    obtain ⟨rfl, hIx2_, hFx3_, px4_⟩ := px4_
    have hFx5_ : ai_fr (sx_W vw_335) S0_ Sx1_ := ai_fr_tr hF_ (fr_le hFx3_ rfl)
    have g69_ : rg b_ n_ T_ (pb (pb (pb (z_va b_ n_ A_ M_ c_ p_) z_vw) (z_vs b_ n_)) fun a_ => .inr a_.2) Sx1_ := rg_pb px4_ (fun a_ _ => by unfold z_vs; rw [pb_as]; exact pb_id.symm)
    have re69_ : ∀ m_, m_ ≤ M_ → re1 b_ n_ T_ A_ m_ Sx1_ := fun m_ hm_ => re1_fr (re66_ m_ hm_) hFx3_ rfl rfl rfl rfl rfl rfl
    have rs69_ : ∀ m_, m_ ≤ M_ → rs1 A_ m_ Sx1_ := fun m_ hm_ => rs1_fr (rs66_ m_ hm_) hFx3_ rfl rfl rfl rfl
    have hIx6_ : gi (sm_pI Sx1_ 13 0 25 tk_) := gi_pI hIx2_ (show 0 ≤ tk_ ∧ tk_ ≤ 1280 from ⟨by omega, by omega⟩)
    have hFx7_ : ai_fr (sx_W vw_335) S0_ (sm_pI Sx1_ 13 0 25 tk_) := ai_fr_tr hFx5_ (ai_fr_pI rfl)
    have hIx8_ : gi (sm_pI (sm_pI Sx1_ 13 0 25 tk_) 13 0 26 w_) := gi_pI hIx6_ (show (-2147483648) ≤ w_ ∧ w_ ≤ 2147483647 from ⟨by omega, by omega⟩)
    have hFx9_ : ai_fr (sx_W vw_335) S0_ (sm_pI (sm_pI Sx1_ 13 0 25 tk_) 13 0 26 w_) := ai_fr_tr hFx7_ (ai_fr_pI rfl)
    refine sm_T_go 10 (c1 := (87, [some (.inr (.inr (some (13, 0)))), some (.inl m_), some (.inl so_), some (.inl tk_), some (.inl w_), none], [.inl 0, .inl so_, .inl m_, .inr (.inr (some (13, 0)))], sm_pI (sm_pI Sx1_ 13 0 25 tk_) 13 0 26 w_)) rfl ?_
    refine sm_T_cal (d1 := 1) (Q1 := vq_308 m_ so_ 0 b_ n_ T_ (pb (pb (pb (z_va b_ n_ A_ M_ c_ p_) z_vw) (z_vs b_ n_)) fun a_ => .inr a_.2) A_ M_ cs_ (sm_pI (sm_pI Sx1_ 13 0 25 tk_) 13 0 26 w_)) rfl rfl (by decide) (vc_308 m_ so_ 0 b_ n_ T_ (pb (pb (pb (z_va b_ n_ A_ M_ c_ p_) z_vw) (z_vs b_ n_)) fun a_ => .inr a_.2) A_ M_ cs_ (sm_pI (sm_pI Sx1_ 13 0 25 tk_) 13 0 26 w_) hIx8_ (by exact hIx8_) (by exact rg_fr (w_ := ([(13, 25), (13, 26)], [], [])) g69_ (ai_fr_tr (ai_fr_pI rfl) (ai_fr_pI rfl)) rfl rfl rfl) (by exact hmm_) (by exact ⟨by unfold r_s2; rw [if_pos (by omega)]; omega, by omega, by omega, by omega⟩) (by (intro p9_ hp9_; obtain ⟨a_, h1_, h2_⟩ := pb_inr hp9_; obtain ⟨a2_, h3_, h4_⟩ := pb_inr h1_; obtain ⟨a3_, h5_, h6_⟩ := pb_inr h3_; obtain ⟨a4_, h7_, h8_⟩ := pb_inr h5_; have k1_ := z_wi_ok le0_.1 hk_ h7_; have k2_ := (tw_ a4_ h7_).2; have k3_ := k1_.2.1; have k4_ := k1_.2.2.2.2.2; exact ⟨hA_, fun m_ hm_ => re1_fr (w_ := ([(13, 25), (13, 26)], [], [])) (re69_ m_ hm_) (ai_fr_tr (ai_fr_pI rfl) (ai_fr_pI rfl)) rfl rfl rfl rfl rfl rfl, fun m_ hm_ => rs1_fr (w_ := ([(13, 25), (13, 26)], [], [])) (rs69_ m_ hm_) (ai_fr_tr (ai_fr_pI rfl) (ai_fr_pI rfl)) rfl rfl rfl rfl, by omega, by show 0 ≤ w_ ∧ w_ ≤ 8; omega, by decide, fun z_ => by omega⟩))) (fun u_ Sx10_ px13_ => ?_)
    obtain ⟨rfl, hIx11_, hFx12_, px13_⟩ := px13_
    have hFx14_ : ai_fr (sx_W vw_335) S0_ Sx10_ := ai_fr_tr hFx9_ (fr_le hFx12_ rfl)
    have e87_ := px13_
    refine sm_T_rv rfl ⟨_, _, rfl, rfl, hIx11_, hFx14_, ?_⟩
    refine ⟨?_, fun r_ hr_ => ?_⟩
    · rw [va_eq, pb_as]; exact e87_.1
    · have k_ := va_ok hn1_ hA_ (by omega) le0_.1 hk_ hc_ hr_
      rw [va_eq] at hr_
      obtain ⟨a_, h1_, h2_⟩ := pb_inr hr_
      cases h2_
      obtain ⟨a2_, h3_, h4_⟩ := pb_inr h1_
      obtain ⟨a3_, h5_, h6_⟩ := pb_inr h3_
      have k5_ := tw_ _ (zvx_ a3_ h5_)
      have q1_ : a3_ = a2_ := by unfold z_vw at h6_; split at h6_; (cases h6_; rfl); (cases h6_)
      subst q1_
      have q2_ : a3_ = a_.1 := by unfold z_vs at h4_; obtain ⟨y_, h8_, h9_⟩ := pb_inr h4_; cases h9_; rfl
      subst q2_
      have e_ := e87_.2 a_.2 a_.1.1.1 (by rw [h1_]; rfl) k5_.1
      have e_ : (∀ m_, m_ ≤ M_ → re1 b_ n_ T_ (a_te A_ M_ a_.1.1.1 cs_ w_ 0) m_ _) ∧ (∀ m_, m_ ≤ M_ → rs1 (a_te A_ M_ a_.1.1.1 cs_ w_ 0) m_ _) := e_
      rw [k5_.2] at e_
      exact ⟨k_.1, e_.1, e_.2, k_.2.1⟩
set_option maxHeartbeats 1500000 in
theorem vc_335 {sc_ : Nat × (Nat → Int)} (m_ : Int) (so_ : Int) (b_ : Nat → Int) (n_ : Nat) (T_ : Nat) (A_ : pA) (M_ : Nat) (c_ : List Int) (p_ : Nat) (cs_ : Int) (S0_ : sm_S) (hI_ : gi S0_) (ht_ : rtab b_ n_ T_ S0_) (hx_ : rg b_ n_ T_ (.inr p_) S0_) (hk_ : lx_kd b_ n_ p_ ≠ 0) (hmo_ : (S0_.1 13 0 27) = 0) (hmm_ : m_ = (M_ : Int) ∧ M_ ≤ 15) (hmd_ : (S0_.1 13 0 28) = (M_ : Int)) (hA_ : a_ok b_ n_ A_ M_) (hre_ : ∀ m_, m_ ≤ M_ → re1 b_ n_ T_ A_ m_ S0_) (hrs_ : ∀ m_, m_ ≤ M_ → rs1 A_ m_ S0_) (hc_ : c_.length ≤ 3 * p_) (hcs_ : so_ = cs_ + 1 ∧ 1 ≤ cs_ ∧ cs_ ≤ 2) : sm_T (mt_P sc_) 8 335 (0, [some (.inr (.inr (some (13, 0)))), some (.inl m_), some (.inl so_), none, none, none], [], S0_) (fun r_ => ∃ u_ S1_, r_ = (.inl u_, S1_, 0) ∧ vq_335 m_ so_ b_ n_ T_ A_ M_ c_ p_ cs_ S0_ u_ S1_) := by
  have hF_ : ai_fr (sx_W vw_335) S0_ S0_ := ai_fr_rf
  have le0_ := rg_le ht_ hx_
  have hn1_ := ht_.1
  have hAM_ := (hA_.2 M_ (Nat.le_refl M_)).1
  refine sm_T_go 1 (c1 := (1, [some (.inr (.inr (some (13, 0)))), some (.inl m_), some (.inl so_), none, none, none], [.inr (.inr (some (13, 0)))], S0_)) rfl ?_
  refine sm_T_cal (d1 := 2) (Q1 := vq_297 b_ n_ T_ (.inr p_) S0_) rfl rfl (by decide) (vc_297 b_ n_ T_ (.inr p_) S0_ hI_ (by exact ht_) (by exact hx_) (by (intro q_ e_; cases e_; exact hk_))) (fun u_ Sx1_ px4_ => ?_)
  obtain ⟨rfl, hIx2_, hFx3_, px4_⟩ := px4_
  have hFx5_ : ai_fr (sx_W vw_335) S0_ Sx1_ := ai_fr_tr hF_ (fr_le hFx3_ rfl)
  have t1_ := rtab_fr ht_ hFx3_ rfl rfl rfl rfl rfl
  have re1x : ∀ m_, m_ ≤ M_ → re1 b_ n_ T_ A_ m_ Sx1_ := fun m_ hm_ => re1_fr (hre_ m_ hm_) hFx3_ rfl rfl rfl rfl rfl rfl
  have rs1x : ∀ m_, m_ ≤ M_ → rs1 A_ m_ Sx1_ := fun m_ hm_ => rs1_fr (hrs_ m_ hm_) hFx3_ rfl rfl rfl rfl
  have mo1_ := (hFx3_.1 13 0 27 rfl).trans hmo_
  have md1_ := (hFx3_.1 13 0 28 rfl).trans hmd_
  have g1_ : rg b_ n_ T_ (p_ad b_ n_ p_) Sx1_ := px4_.1
  refine sm_T_go 2 (c1 := (6, [some (.inr (.inr (some (13, 0)))), some (.inl m_), some (.inl so_), none, none, none], [.inl m_, .inr (.inr (some (13, 0)))], Sx1_)) rfl ?_
  refine sm_T_cal (d1 := 3) (Q1 := vq_306 m_ b_ n_ T_ (p_ad b_ n_ p_) A_ M_ Sx1_) rfl rfl (by decide) (vc_306 m_ b_ n_ T_ (p_ad b_ n_ p_) A_ M_ Sx1_ hIx2_ (by exact t1_) (by exact g1_) (by exact hmm_) (by exact re1x M_ (Nat.le_refl M_)) (by exact hAM_)) (fun u_ Sx6_ px9_ => ?_)
  obtain ⟨rfl, hIx7_, hFx8_, px9_⟩ := px9_
  have hFx10_ : ai_fr (sx_W vw_335) S0_ Sx6_ := ai_fr_tr hFx5_ (fr_le hFx8_ rfl)
  have t6_ := rtab_fr t1_ hFx8_ rfl rfl rfl rfl rfl
  have re6_ : ∀ m_, m_ ≤ M_ → re1 b_ n_ T_ A_ m_ Sx6_ := fun m_ hm_ => re1_fr (re1x m_ hm_) hFx8_ rfl rfl rfl rfl rfl rfl
  have rs6_ : ∀ m_, m_ ≤ M_ → rs1 A_ m_ Sx6_ := fun m_ hm_ => rs1_fr (rs1x m_ hm_) hFx8_ rfl rfl rfl rfl
  have mo6_ := (hFx8_.1 13 0 27 rfl).trans mo1_
  have md6_ := (hFx8_.1 13 0 28 rfl).trans md1_
  have g6_ : rg b_ n_ T_ (pb (z_nw b_ n_ A_ M_ p_) fun a_ => .inr a_.2) Sx6_ := rg_pb (z_ := p_ad b_ n_ p_) (ps_ := fun a_ => a_) (g_ := p_nw b_ n_ A_ M_) (by rw [pb_id]; exact px9_.1) (fun a_ _ => by rw [pb_as]; exact pb_id.symm)
  have tk6_ : ∀ a_, z_nw b_ n_ A_ M_ p_ = .inr a_ → rtk b_ n_ T_ (Sx6_.1 13 0 25) a_.1 := fun a_ ha_ => by obtain ⟨q_, h1_, h2_⟩ := pb_inr ha_; obtain ⟨r_, h3_, h4_⟩ := pb_inr h2_; cases h4_; exact px9_.2 q_ r_ h1_ h3_
  refine sm_T_go 1 (c1 := (10, [some (.inr (.inr (some (13, 0)))), some (.inl m_), some (.inl so_), none, none, none], [.inr (.inr (some (13, 0)))], Sx6_)) rfl ?_
  refine sm_T_cal (d1 := 3) (Q1 := vq_307 b_ n_ T_ (pb (z_nw b_ n_ A_ M_ p_) fun a_ => .inr a_.2) Sx6_) rfl rfl (by decide) (vc_307 b_ n_ T_ (pb (z_nw b_ n_ A_ M_ p_) fun a_ => .inr a_.2) Sx6_ hIx7_ (by exact t6_) (by exact g6_)) (fun u_ Sx11_ px14_ => ?_)
  obtain ⟨rfl, hIx12_, hFx13_, px14_⟩ := px14_
  have hFx15_ : ai_fr (sx_W vw_335) S0_ Sx11_ := ai_fr_tr hFx10_ (fr_le hFx13_ rfl)
  have t10_ := rtab_fr t6_ hFx13_ rfl rfl rfl rfl rfl
  have re10_ : ∀ m_, m_ ≤ M_ → re1 b_ n_ T_ A_ m_ Sx11_ := fun m_ hm_ => re1_fr (re6_ m_ hm_) hFx13_ rfl rfl rfl rfl rfl rfl
  have rs10_ : ∀ m_, m_ ≤ M_ → rs1 A_ m_ Sx11_ := fun m_ hm_ => rs1_fr (rs6_ m_ hm_) hFx13_ rfl rfl rfl rfl
  have mo10_ := (hFx13_.1 13 0 27 rfl).trans mo6_
  have md10_ := (hFx13_.1 13 0 28 rfl).trans md6_
  have g10_ : rg b_ n_ T_ (pb (z_wi b_ n_ A_ M_ p_) fun a_ => .inr a_.2.1) Sx11_ := rg_pb px14_.1 (fun a_ _ => by unfold p_w1; rw [pb_as]; rfl)
  have tk10_ : ∀ a_, z_wi b_ n_ A_ M_ p_ = .inr a_ → rtk b_ n_ T_ (Sx11_.1 13 0 25) a_.1 := fun a_ ha_ => by rw [hFx13_.1 13 0 25 rfl]; obtain ⟨q_, h1_, h2_⟩ := pb_inr ha_; obtain ⟨r_, h3_, h4_⟩ := pb_inr h2_; cases h4_; exact tk6_ q_ h1_
  have wd10_ : ∀ a_, z_wi b_ n_ A_ M_ p_ = .inr a_ → Sx11_.1 13 0 26 = a_.2.2 := fun a_ ha_ => by obtain ⟨q_, h1_, h2_⟩ := pb_inr ha_; obtain ⟨r_, h3_, h4_⟩ := pb_inr h2_; cases h4_; exact px14_.2 q_.2 r_ (by rw [h1_]; rfl) h3_
  have pl10_ : ∀ a_, z_wi b_ n_ A_ M_ p_ = .inr a_ → Sx11_.2.2.1 120 0 (Sx11_.1 13 0 9).toNat = (a_.2.1 : Int) := fun a_ ha_ => (rg_le t10_ (rg_at g10_ ha_)).2.2
  have bx16_ : 0 ≤ Sx11_.1 13 0 25 ∧ Sx11_.1 13 0 25 ≤ 1280 := hIx12_.1 13 0 25 rfl
  have bx17_ : (-2147483648) ≤ Sx11_.1 13 0 26 ∧ Sx11_.1 13 0 26 ≤ 2147483647 := hIx12_.1 13 0 26 rfl
  have bx18_ : 0 ≤ Sx11_.1 13 0 9 ∧ Sx11_.1 13 0 9 ≤ 1280 := hIx12_.1 13 0 9 rfl
  refine sm_T_go 11 (c1 := (33, [some (.inr (.inr (some (13, 0)))), some (.inl m_), some (.inl so_), some (.inl (Sx11_.1 13 0 25)), some (.inl (Sx11_.1 13 0 26)), some (.inl (Sx11_.1 13 0 9))], [.inl 61, .inr (.inr (some (13, 0)))], Sx11_)) rfl ?_
  refine sm_T_cal (d1 := 3) (Q1 := vq_300 61 b_ n_ T_ (pb (z_wi b_ n_ A_ M_ p_) fun a_ => .inr a_.2.1) Sx11_) rfl rfl (by decide) (vc_300 61 b_ n_ T_ (pb (z_wi b_ n_ A_ M_ p_) fun a_ => .inr a_.2.1) Sx11_ hIx12_ (by exact t10_) (by exact g10_) (by decide)) (fun u_ Sx19_ px22_ => ?_)
  obtain ⟨rfl, hIx20_, hFx21_, px22_⟩ := px22_
  have hFx23_ : ai_fr (sx_W vw_335) S0_ Sx19_ := ai_fr_tr hFx15_ (fr_le hFx21_ rfl)
  have ex24_ : Sx19_.1 13 0 25 = Sx11_.1 13 0 25 := hFx21_.1 13 0 25 rfl
  have ex25_ : Sx19_.1 13 0 26 = Sx11_.1 13 0 26 := hFx21_.1 13 0 26 rfl
  have t33_ := rtab_fr t10_ hFx21_ rfl rfl rfl rfl rfl
  have re33_ : ∀ m_, m_ ≤ M_ → re1 b_ n_ T_ A_ m_ Sx19_ := fun m_ hm_ => re1_fr (re10_ m_ hm_) hFx21_ rfl rfl rfl rfl rfl rfl
  have rs33_ : ∀ m_, m_ ≤ M_ → rs1 A_ m_ Sx19_ := fun m_ hm_ => rs1_fr (rs10_ m_ hm_) hFx21_ rfl rfl rfl rfl
  have mo33_ := (hFx21_.1 13 0 27 rfl).trans mo10_
  have md33_ := (hFx21_.1 13 0 28 rfl).trans md10_
  have g33_ : rg b_ n_ T_ (pb (pb (z_wi b_ n_ A_ M_ p_) fun a_ => pb (p_nd b_ n_ 61 a_.2.1) fun v_ => .inr (a_, v_)) fun a_ => .inr a_.2) Sx19_ := rg_pb px22_ (fun a_ _ => by rw [pb_as]; exact pb_id.symm)
  have F33_ := hFx21_
  refine sm_T_go 1 (c1 := (37, [some (.inr (.inr (some (13, 0)))), some (.inl m_), some (.inl so_), some (.inl (Sx11_.1 13 0 25)), some (.inl (Sx11_.1 13 0 26)), some (.inl (Sx11_.1 13 0 9))], [.inr (.inr (some (13, 0)))], Sx19_)) rfl ?_
  refine sm_T_cal (d1 := 7) (Q1 := vq_321 b_ n_ T_ 0 (pb (pb (z_wi b_ n_ A_ M_ p_) fun a_ => pb (p_nd b_ n_ 61 a_.2.1) fun v_ => .inr (a_, v_)) fun a_ => .inr a_.2) c_ A_ M_ 0 (fun _ => 0) Sx19_) rfl rfl (by decide) (vc_321 b_ n_ T_ 0 (pb (pb (z_wi b_ n_ A_ M_ p_) fun a_ => pb (p_nd b_ n_ 61 a_.2.1) fun v_ => .inr (a_, v_)) fun a_ => .inr a_.2) c_ A_ M_ 0 (fun _ => 0) Sx19_ hIx20_ (by exact t33_) (by exact g33_) (by exact Or.inl rfl) (by exact mo33_) (by (intro q_ hq_; obtain ⟨a_, h1_, h2_⟩ := pb_inr hq_; cases h2_; obtain ⟨a0_, h3_, h4_⟩ := pb_inr h1_; obtain ⟨v_, h5_, h6_⟩ := pb_inr h4_; cases h6_; have k1_ := z_wi_ok le0_.1 hk_ h3_; have k2_ := nd_ok k1_.2.2.2.1 (by decide) h5_; have k3_ := k1_.2.2.1; have k4_ := k2_.1; exact ⟨by show c_.length ≤ 3 * v_; omega, en_0 hA_ md33_ re33_⟩)) (by exact pm_0 hA_)) (fun u_ Sx26_ px29_ => ?_)
  obtain ⟨rfl, hIx27_, hFx28_, px29_⟩ := px29_
  have hFx30_ : ai_fr (sx_W vw_335) S0_ Sx26_ := ai_fr_tr hFx23_ (fr_le hFx28_ rfl)
  have t37_ := rtab_fr t33_ hFx28_ rfl rfl rfl rfl rfl
  have re37_ : ∀ m_, m_ ≤ M_ → re1 b_ n_ T_ A_ m_ Sx26_ := fun m_ hm_ => re1_fr (re33_ m_ hm_) hFx28_ rfl rfl rfl rfl rfl rfl
  have rs37_ : ∀ m_, m_ ≤ M_ → rs1 A_ m_ Sx26_ := fun m_ hm_ => rs1_fr (rs33_ m_ hm_) hFx28_ rfl rfl rfl rfl
  have mo37_ := (hFx28_.1 13 0 27 rfl).trans mo33_
  have md37_ := (hFx28_.1 13 0 28 rfl).trans md33_
  have g37_ : rg b_ n_ T_ (pb (z_va b_ n_ A_ M_ c_ p_) fun a_ => .inr a_.2.1) Sx26_ := by have z_ := px29_.1; simp only [pb_as, pb_ir, xd_0] at z_; unfold z_va; simp only [pb_as, pb_ir]; exact z_
  have v37_ : ∀ a_, z_va b_ n_ A_ M_ c_ p_ = .inr a_ → Sx26_.2.2.1 138 0 (0 : Int).toNat = h_tp a_.2.2.1 := fun a_ ha_ => by obtain ⟨a0_, h1_, h2_⟩ := pb_inr ha_; obtain ⟨v_, h3_, h4_⟩ := pb_inr h2_; obtain ⟨r_, h5_, h6_⟩ := pb_inr h4_; cases h6_; have k_ := px29_.2 r_ (by rw [h1_]; simp only [pb_as, pb_ir]; rw [h3_]; simp only [pb_ir]; rw [xd_0]; exact h5_); exact vs_1 k_.1 k_.2
  have zv_ : ∀ a_, z_va b_ n_ A_ M_ c_ p_ = .inr a_ → z_wi b_ n_ A_ M_ p_ = .inr a_.1 := fun a_ ha_ => by obtain ⟨a0_, h1_, h2_⟩ := pb_inr ha_; obtain ⟨v_, h3_, h4_⟩ := pb_inr h2_; obtain ⟨r_, h5_, h6_⟩ := pb_inr h4_; cases h6_; exact h1_
  have F37_ := hFx28_
  refine sm_T_go 1 (c1 := (41, [some (.inr (.inr (some (13, 0)))), some (.inl m_), some (.inl so_), some (.inl (Sx11_.1 13 0 25)), some (.inl (Sx11_.1 13 0 26)), some (.inl (Sx11_.1 13 0 9))], [.inr (.inr (some (13, 0)))], Sx26_)) rfl ?_
  refine sm_T_cal (d1 := 0) (Q1 := vq_292  Sx26_) rfl rfl (by decide) (vc_292  Sx26_ hIx27_ ) (fun u_ Sx31_ px34_ => ?_)
  obtain ⟨rfl, vx36_, rfl, px34_⟩ := px34_
  have e41_ := px34_
  refine sm_T_b0 (a := 0) (z := 22) rfl (fun cx37_ => ?_) (fun cx37_ => ?_)
  · have cx37_ : vx36_ = 0 := of_decide_eq_true cx37_
    have hz_ := wr_if e41_ (by omega)
    obtain ⟨e5_, he5_⟩ := rg_wr g37_ hz_
    have g6x : rg b_ n_ T_ (pb (pb (z_va b_ n_ A_ M_ c_ p_) z_vw) fun a_ => .inr a_.2.1) _ := rg_ok g37_ (fun a_ ha_ => by rw [he5_] at ha_; cases ha_)
    refine sm_T_go 0 (c1 := (66, [some (.inr (.inr (some (13, 0)))), some (.inl m_), some (.inl so_), some (.inl (Sx11_.1 13 0 25)), some (.inl (Sx11_.1 13 0 26)), some (.inl (Sx11_.1 13 0 9))], [], Sx26_)) rfl ?_
    refine sm_T_wk [some (.inr (.inr (some (13, 0)))), some (.inl m_), some (.inl so_), some (.inl (Sx11_.1 13 0 25)), some (.inl (Sx11_.1 13 0 26)), none] (by exact ⟨rfl, rfl, rfl, rfl, rfl, trivial⟩) ?_
    refine (vl_335 m_ so_ b_ n_ T_ A_ M_ c_ p_ cs_ S0_ ht_ hx_ hk_ hmo_ hmm_ hmd_ hA_ hre_ hrs_ hc_ hcs_ _) (Sx11_.1 13 0 25) (Sx11_.1 13 0 26) Sx26_ hIx27_ hFx30_ ⟨?_, ?_, ?_, ?_, ?_, trivial⟩ (Nat.lt_succ_self _)
    · exact g6x
    · first | exact re63_ | exact re37_
    · first | exact rs63_ | exact rs37_
    · exact fun a_ ha_ => ⟨tk10_ a_ ha_, wd10_ a_ ha_⟩
    · omega
  · have cx37_ : ¬ (vx36_ = 0) := of_decide_eq_false cx37_
    have hz_ := rt_if e41_ (by omega)
    obtain ⟨a5_, ha5_⟩ := rg_rt g37_ hz_
    have v5_ := v37_ a5_ ha5_
    have w5_ := wd10_ _ (zv_ a5_ ha5_)
    refine sm_T_go 3 (c1 := (52, [some (.inr (.inr (some (13, 0)))), some (.inl m_), some (.inl so_), some (.inl (Sx11_.1 13 0 25)), some (.inl (Sx11_.1 13 0 26)), some (.inl (Sx11_.1 13 0 9))], [.inl 0, .inr (.inr (some (138, 0)))], Sx26_)) rfl ?_
    refine sm_T_iald (n := 1024) rfl rfl (by omega) (by omega) ?_
    have bx38_ : (-2147483648) ≤ Sx26_.2.2.1 138 0 (0 : Int).toNat ∧ Sx26_.2.2.1 138 0 (0 : Int).toNat ≤ 2147483647 := hIx27_.2 138 0 _
    refine sm_T_go 1 (c1 := (55, [some (.inr (.inr (some (13, 0)))), some (.inl m_), some (.inl so_), some (.inl (Sx11_.1 13 0 25)), some (.inl (Sx11_.1 13 0 26)), some (.inl (Sx11_.1 13 0 9))], [.inl (Sx11_.1 13 0 26), .inl (Sx26_.2.2.1 138 0 (0 : Int).toNat)], Sx26_)) rfl ?_
    refine sm_T_br (a := 0) (z := 11) rfl (fun cx39_ => ?_) (fun cx39_ => ?_)
    · have cx39_ : (Sx26_.2.2.1 138 0 (0 : Int).toNat) = (Sx11_.1 13 0 26) := of_decide_eq_true cx39_
      have g6x : rg b_ n_ T_ (pb (pb (z_va b_ n_ A_ M_ c_ p_) z_vw) fun a_ => .inr a_.2.1) _ := rg_ok g37_ (fun a_ ha_ => by rw [ha5_] at ha_; cases ha_; unfold z_vw; rw [if_pos (by omega)])
      refine sm_T_go 0 (c1 := (66, [some (.inr (.inr (some (13, 0)))), some (.inl m_), some (.inl so_), some (.inl (Sx11_.1 13 0 25)), some (.inl (Sx11_.1 13 0 26)), some (.inl (Sx11_.1 13 0 9))], [], Sx26_)) rfl ?_
      refine sm_T_wk [some (.inr (.inr (some (13, 0)))), some (.inl m_), some (.inl so_), some (.inl (Sx11_.1 13 0 25)), some (.inl (Sx11_.1 13 0 26)), none] (by exact ⟨rfl, rfl, rfl, rfl, rfl, trivial⟩) ?_
      refine (vl_335 m_ so_ b_ n_ T_ A_ M_ c_ p_ cs_ S0_ ht_ hx_ hk_ hmo_ hmm_ hmd_ hA_ hre_ hrs_ hc_ hcs_ _) (Sx11_.1 13 0 25) (Sx11_.1 13 0 26) Sx26_ hIx27_ hFx30_ ⟨?_, ?_, ?_, ?_, ?_, trivial⟩ (Nat.lt_succ_self _)
      · exact g6x
      · first | exact re63_ | exact re37_
      · first | exact rs63_ | exact rs37_
      · exact fun a_ ha_ => ⟨tk10_ a_ ha_, wd10_ a_ ha_⟩
      · omega
    · have cx39_ : ¬ ((Sx26_.2.2.1 138 0 (0 : Int).toNat) = (Sx11_.1 13 0 26)) := of_decide_eq_false cx39_
      refine sm_T_go 3 (c1 := (63, [some (.inr (.inr (some (13, 0)))), some (.inl m_), some (.inl so_), some (.inl (Sx11_.1 13 0 25)), some (.inl (Sx11_.1 13 0 26)), some (.inl (Sx11_.1 13 0 9))], [.inl (Sx11_.1 13 0 9), .inl 13, .inr (.inr (some (13, 0)))], Sx26_)) rfl ?_
      refine sm_T_cal (d1 := 0) (Q1 := vq_294 13 (Sx11_.1 13 0 9) Sx26_) rfl rfl (by decide) (vc_294 13 (Sx11_.1 13 0 9) Sx26_ hIx27_ (by decide) (by omega)) (fun u_ Sx40_ px43_ => ?_)
      obtain ⟨rfl, hIx41_, hFx42_, px43_⟩ := px43_
      have hFx44_ : ai_fr (sx_W vw_335) S0_ Sx40_ := ai_fr_tr hFx30_ (fr_le hFx42_ rfl)
      have g6x : rg b_ n_ T_ (pb (pb (z_va b_ n_ A_ M_ c_ p_) z_vw) fun a_ => .inr a_.2.1) Sx40_ := rg_fb (fl_ := 13) (pl_ := a5_.1.2.1) g37_ hz_ (fun a_ ha_ => by rw [ha5_] at ha_; cases ha_; unfold z_vw; rw [if_neg (by omega)]) (by decide) (by rcases px43_ with w9_ | w9_; (exact Or.inl w9_); (refine Or.inr ⟨w9_.1, w9_.2.1, w9_.2.2.trans ?_⟩; have q9_ := pl10_ _ (zv_ a5_ ha5_); rw [fr_arr (t := 120) (i := 0) F37_ rfl, fr_arr (t := 120) (i := 0) F33_ rfl]; exact q9_))
      have re63_ : ∀ m_, m_ ≤ M_ → re1 b_ n_ T_ A_ m_ Sx40_ := fun m_ hm_ => re1_fr (re37_ m_ hm_) hFx42_ rfl rfl rfl rfl rfl rfl
      have rs63_ : ∀ m_, m_ ≤ M_ → rs1 A_ m_ Sx40_ := fun m_ hm_ => rs1_fr (rs37_ m_ hm_) hFx42_ rfl rfl rfl rfl
      refine sm_T_go 0 (c1 := (66, [some (.inr (.inr (some (13, 0)))), some (.inl m_), some (.inl so_), some (.inl (Sx11_.1 13 0 25)), some (.inl (Sx11_.1 13 0 26)), some (.inl (Sx11_.1 13 0 9))], [], Sx40_)) rfl ?_
      refine sm_T_wk [some (.inr (.inr (some (13, 0)))), some (.inl m_), some (.inl so_), some (.inl (Sx11_.1 13 0 25)), some (.inl (Sx11_.1 13 0 26)), none] (by exact ⟨rfl, rfl, rfl, rfl, rfl, trivial⟩) ?_
      refine (vl_335 m_ so_ b_ n_ T_ A_ M_ c_ p_ cs_ S0_ ht_ hx_ hk_ hmo_ hmm_ hmd_ hA_ hre_ hrs_ hc_ hcs_ _) (Sx11_.1 13 0 25) (Sx11_.1 13 0 26) Sx40_ hIx41_ hFx44_ ⟨?_, ?_, ?_, ?_, ?_, trivial⟩ (Nat.lt_succ_self _)
      · exact g6x
      · first | exact re63_ | exact re37_
      · first | exact rs63_ | exact rs37_
      · exact fun a_ ha_ => ⟨tk10_ a_ ha_, wd10_ a_ ha_⟩
      · omega
