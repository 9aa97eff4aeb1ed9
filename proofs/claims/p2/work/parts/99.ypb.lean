/-! M_.tellItem -/
def vw_334 : sx_Wl := ([(13, 9), (13, 10), (13, 11), (13, 25), (13, 26), (13, 32), (13, 33), (13, 34)], [126, 127, 128, 129, 130, 131, 132, 133, 134, 135, 136, 137, 138, 139], [])
def vq_334 (m_ : Int) (b_ : Nat → Int) (n_ : Nat) (T_ : Nat) (A_ : pA) (M_ : Nat) (c_ : List Int) (p_ : Nat) (N_ : Nat → Nat) (S0_ : sm_S) (u_ : Option sm_V) (S1_ : sm_S) : Prop := u_ = none ∧ gi S1_ ∧ ai_fr (sx_W vw_334) S0_ S1_ ∧ (rm b_ n_ T_ M_ (p_i2 b_ n_ A_ N_ M_ c_ p_) S1_)
set_option maxHeartbeats 2000000 in
theorem vc_334 {sc_ : Nat × (Nat → Int)} (m_ : Int) (b_ : Nat → Int) (n_ : Nat) (T_ : Nat) (A_ : pA) (M_ : Nat) (c_ : List Int) (p_ : Nat) (N_ : Nat → Nat) (S0_ : sm_S) (hI_ : gi S0_) (ht_ : rtab b_ n_ T_ S0_) (hx_ : rg b_ n_ T_ (.inr p_) S0_) (hmo_ : (S0_.1 13 0 27) = 0) (hmm_ : m_ = (M_ : Int) ∧ M_ ≤ 15) (hmd_ : (S0_.1 13 0 28) = (M_ : Int)) (hA_ : a_ok b_ n_ A_ M_) (hre_ : ∀ m_, m_ ≤ M_ → re1 b_ n_ T_ A_ m_ S0_) (hrs_ : ∀ m_, m_ ≤ M_ → rs1 A_ m_ S0_) (hc_ : c_.length ≤ 3 * p_) (hms_ : (S0_.1 13 0 12) = (M_ : Int)) (hN_ : rnr b_ n_ T_ N_ M_ S0_) : sm_T (mt_P sc_) 9 334 (0, [some (.inr (.inr (some (13, 0)))), some (.inl m_)], [], S0_) (fun r_ => ∃ u_ S1_, r_ = (.inl u_, S1_, 0) ∧ vq_334 m_ b_ n_ T_ A_ M_ c_ p_ N_ S0_ u_ S1_) := by
  have hF_ : ai_fr (sx_W vw_334) S0_ S0_ := ai_fr_rf
  have le0_ := rg_le ht_ hx_
  have hn1_ := ht_.1
  have hAM_ := (hA_.2 M_ (Nat.le_refl M_)).1
  refine sm_T_go 2 (c1 := (2, [some (.inr (.inr (some (13, 0)))), some (.inl m_)], [.inl 2, .inr (.inr (some (13, 0)))], S0_)) rfl ?_
  refine sm_T_cal (d1 := 0) (Q1 := vq_296 2 b_ n_ T_ (.inr p_) S0_) rfl rfl (by decide) (vc_296 2 b_ n_ T_ (.inr p_) S0_ hI_ (by exact ht_) (by exact hx_) (by decide)) (fun u_ Sx1_ px4_ => ?_)
  obtain ⟨rfl, vx6_, rfl, px4_⟩ := px4_
  have w2_ := px4_.2 p_ rfl
  have q2_ := px4_.1
  refine sm_T_b0 (a := 0) (z := 32) rfl (fun cx7_ => ?_) (fun cx7_ => ?_)
  · have cx7_ : vx6_ = 0 := of_decide_eq_true cx7_
    have nk4_ : lx_kd b_ n_ p_ ≠ 4 := fun z_ => by have := w2_.mpr (by omega); omega
    refine sm_T_go 2 (c1 := (39, [some (.inr (.inr (some (13, 0)))), some (.inl m_)], [.inl 3, .inr (.inr (some (13, 0)))], S0_)) rfl ?_
    refine sm_T_cal (d1 := 0) (Q1 := vq_296 3 b_ n_ T_ (.inr p_) S0_) rfl rfl (by decide) (vc_296 3 b_ n_ T_ (.inr p_) S0_ hI_ (by exact ht_) (by exact hx_) (by decide)) (fun u_ Sx8_ px11_ => ?_)
    obtain ⟨rfl, vx13_, rfl, px11_⟩ := px11_
    have w39_ := px11_.2 p_ rfl
    have q39_ := px11_.1
    refine sm_T_b0 (a := 0) (z := 12) rfl (fun cx14_ => ?_) (fun cx14_ => ?_)
    · have cx14_ : vx13_ = 0 := of_decide_eq_true cx14_
      have nk5_ : lx_kd b_ n_ p_ ≠ 5 := fun z_ => by have := w39_.mpr (by omega); omega
      refine sm_T_go 2 (c1 := (56, [some (.inr (.inr (some (13, 0)))), some (.inl m_)], [.inl 4, .inr (.inr (some (13, 0)))], S0_)) rfl ?_
      refine sm_T_cal (d1 := 0) (Q1 := vq_296 4 b_ n_ T_ (.inr p_) S0_) rfl rfl (by decide) (vc_296 4 b_ n_ T_ (.inr p_) S0_ hI_ (by exact ht_) (by exact hx_) (by decide)) (fun u_ Sx15_ px18_ => ?_)
      obtain ⟨rfl, vx20_, rfl, px18_⟩ := px18_
      have w56_ := px18_.2 p_ rfl
      have q56_ := px18_.1
      refine sm_T_b0 (a := 0) (z := 12) rfl (fun cx21_ => ?_) (fun cx21_ => ?_)
      · have cx21_ : vx20_ = 0 := of_decide_eq_true cx21_
        have nk6_ : lx_kd b_ n_ p_ ≠ 6 := fun z_ => by have := w56_.mpr (by omega); omega
        refine sm_T_go 2 (c1 := (73, [some (.inr (.inr (some (13, 0)))), some (.inl m_)], [.inl 5, .inr (.inr (some (13, 0)))], S0_)) rfl ?_
        refine sm_T_cal (d1 := 0) (Q1 := vq_296 5 b_ n_ T_ (.inr p_) S0_) rfl rfl (by decide) (vc_296 5 b_ n_ T_ (.inr p_) S0_ hI_ (by exact ht_) (by exact hx_) (by decide)) (fun u_ Sx22_ px25_ => ?_)
        obtain ⟨rfl, vx27_, rfl, px25_⟩ := px25_
        have w73_ := px25_.2 p_ rfl
        have q73_ := px25_.1
        refine sm_T_b0 (a := 0) (z := 11) rfl (fun cx28_ => ?_) (fun cx28_ => ?_)
        · have cx28_ : vx27_ = 0 := of_decide_eq_true cx28_
          have nk7_ : lx_kd b_ n_ p_ ≠ 7 := fun z_ => by have := w73_.mpr (by omega); omega
          refine sm_T_go 2 (c1 := (90, [some (.inr (.inr (some (13, 0)))), some (.inl m_)], [.inl 6, .inr (.inr (some (13, 0)))], S0_)) rfl ?_
          refine sm_T_cal (d1 := 0) (Q1 := vq_296 6 b_ n_ T_ (.inr p_) S0_) rfl rfl (by decide) (vc_296 6 b_ n_ T_ (.inr p_) S0_ hI_ (by exact ht_) (by exact hx_) (by decide)) (fun u_ Sx29_ px32_ => ?_)
          obtain ⟨rfl, vx34_, rfl, px32_⟩ := px32_
          have w90_ := px32_.2 p_ rfl
          have q90_ := px32_.1
          refine sm_T_b0 (a := 0) (z := 11) rfl (fun cx35_ => ?_) (fun cx35_ => ?_)
          · have cx35_ : vx34_ = 0 := of_decide_eq_true cx35_
            have nk8_ : lx_kd b_ n_ p_ ≠ 8 := fun z_ => by have := w90_.mpr (by omega); omega
            refine sm_T_go 2 (c1 := (106, [some (.inr (.inr (some (13, 0)))), some (.inl m_)], [.inl m_, .inr (.inr (some (13, 0)))], S0_)) rfl ?_
            refine sm_T_cal (d1 := 8) (Q1 := vq_337 m_ b_ n_ T_ A_ M_ c_ p_ S0_) rfl rfl (by decide) (vc_337 m_ b_ n_ T_ A_ M_ c_ p_ S0_ hI_ (by exact ht_) (by exact hx_) (by exact hmo_) (by exact hmm_) (by exact hmd_) (by exact hA_) (by exact hre_) (by exact hrs_) (by exact hc_)) (fun u_ Sx36_ px39_ => ?_)
            obtain ⟨rfl, hIx37_, hFx38_, px39_⟩ := px39_
            have hFx40_ : ai_fr (sx_W vw_334) S0_ Sx36_ := ai_fr_tr hF_ (fr_le hFx38_ rfl)
            have e9_ := px39_
            rw [← i2_6 (N_ := N_) (fun k_ h1_ h2_ => by omega)] at e9_
            refine sm_T_rv rfl ⟨_, _, rfl, rfl, hIx37_, hFx40_, ?_⟩
            exact e9_
          · have cx35_ : ¬ (vx34_ = 0) := of_decide_eq_false cx35_
            have kd_ : lx_kd b_ n_ p_ = 8 := by have := w90_.mp (by omega); omega
            refine sm_T_go 2 (c1 := (98, [some (.inr (.inr (some (13, 0)))), some (.inl m_)], [.inl m_, .inr (.inr (some (13, 0)))], S0_)) rfl ?_
            refine sm_T_cal (d1 := 8) (Q1 := vq_338 m_ b_ n_ T_ A_ M_ c_ p_ N_ S0_) rfl rfl (by decide) (vc_338 m_ b_ n_ T_ A_ M_ c_ p_ N_ S0_ hI_ (by exact ht_) (by exact hx_) (by omega) (by exact hmo_) (by exact hmm_) (by exact hmd_) (by exact hA_) (by exact hre_) (by exact hrs_) (by exact hc_) (by exact hms_) (by exact hN_)) (fun u_ Sx41_ px44_ => ?_)
            obtain ⟨rfl, hIx42_, hFx43_, px44_⟩ := px44_
            have hFx45_ : ai_fr (sx_W vw_334) S0_ Sx41_ := ai_fr_tr hF_ (fr_le hFx43_ rfl)
            have e9_ := px44_
            rw [← i2_5 kd_] at e9_
            refine sm_T_go 1 (c1 := (109, [some (.inr (.inr (some (13, 0)))), some (.inl m_)], [], Sx41_)) rfl ?_
            refine sm_T_rv rfl ⟨_, _, rfl, rfl, hIx42_, hFx45_, ?_⟩
            exact e9_
        · have cx28_ : ¬ (vx27_ = 0) := of_decide_eq_false cx28_
          have kd_ : lx_kd b_ n_ p_ = 7 := by have := w73_.mp (by omega); omega
          refine sm_T_go 2 (c1 := (81, [some (.inr (.inr (some (13, 0)))), some (.inl m_)], [.inl m_, .inr (.inr (some (13, 0)))], S0_)) rfl ?_
          refine sm_T_cal (d1 := 8) (Q1 := vq_336 m_ b_ n_ T_ A_ M_ c_ p_ S0_) rfl rfl (by decide) (vc_336 m_ b_ n_ T_ A_ M_ c_ p_ S0_ hI_ (by exact ht_) (by exact hx_) (by omega) (by exact hmo_) (by exact hmm_) (by exact hmd_) (by exact hA_) (by exact hre_) (by exact hrs_) (by exact hc_)) (fun u_ Sx46_ px49_ => ?_)
          obtain ⟨rfl, hIx47_, hFx48_, px49_⟩ := px49_
          have hFx50_ : ai_fr (sx_W vw_334) S0_ Sx46_ := ai_fr_tr hF_ (fr_le hFx48_ rfl)
          have e9_ := px49_
          rw [← i2_4 (N_ := N_) kd_] at e9_
          refine sm_T_go 1 (c1 := (109, [some (.inr (.inr (some (13, 0)))), some (.inl m_)], [], Sx46_)) rfl ?_
          refine sm_T_rv rfl ⟨_, _, rfl, rfl, hIx47_, hFx50_, ?_⟩
          exact e9_
      · have cx21_ : ¬ (vx20_ = 0) := of_decide_eq_false cx21_
        have kd_ : lx_kd b_ n_ p_ = 6 := by have := w56_.mp (by omega); omega
        refine sm_T_go 3 (c1 := (65, [some (.inr (.inr (some (13, 0)))), some (.inl m_)], [.inl 3, .inl m_, .inr (.inr (some (13, 0)))], S0_)) rfl ?_
        refine sm_T_cal (d1 := 8) (Q1 := vq_335 m_ 3 b_ n_ T_ A_ M_ c_ p_ 2 S0_) rfl rfl (by decide) (vc_335 m_ 3 b_ n_ T_ A_ M_ c_ p_ 2 S0_ hI_ (by exact ht_) (by exact hx_) (by omega) (by exact hmo_) (by exact hmm_) (by exact hmd_) (by exact hA_) (by exact hre_) (by exact hrs_) (by exact hc_) (by decide)) (fun u_ Sx51_ px54_ => ?_)
        obtain ⟨rfl, hIx52_, hFx53_, px54_⟩ := px54_
        have hFx55_ : ai_fr (sx_W vw_334) S0_ Sx51_ := ai_fr_tr hF_ (fr_le hFx53_ rfl)
        have e9_ := px54_
        rw [← i2_3 (N_ := N_) kd_] at e9_
        refine sm_T_go 1 (c1 := (109, [some (.inr (.inr (some (13, 0)))), some (.inl m_)], [], Sx51_)) rfl ?_
        refine sm_T_rv rfl ⟨_, _, rfl, rfl, hIx52_, hFx55_, ?_⟩
        exact e9_
    · have cx14_ : ¬ (vx13_ = 0) := of_decide_eq_false cx14_
      have kd_ : lx_kd b_ n_ p_ = 5 := by have := w39_.mp (by omega); omega
      refine sm_T_go 3 (c1 := (48, [some (.inr (.inr (some (13, 0)))), some (.inl m_)], [.inl 2, .inl m_, .inr (.inr (some (13, 0)))], S0_)) rfl ?_
      refine sm_T_cal (d1 := 8) (Q1 := vq_335 m_ 2 b_ n_ T_ A_ M_ c_ p_ 1 S0_) rfl rfl (by decide) (vc_335 m_ 2 b_ n_ T_ A_ M_ c_ p_ 1 S0_ hI_ (by exact ht_) (by exact hx_) (by omega) (by exact hmo_) (by exact hmm_) (by exact hmd_) (by exact hA_) (by exact hre_) (by exact hrs_) (by exact hc_) (by decide)) (fun u_ Sx56_ px59_ => ?_)
      obtain ⟨rfl, hIx57_, hFx58_, px59_⟩ := px59_
      have hFx60_ : ai_fr (sx_W vw_334) S0_ Sx56_ := ai_fr_tr hF_ (fr_le hFx58_ rfl)
      have e9_ := px59_
      rw [← i2_2 (N_ := N_) kd_] at e9_
      refine sm_T_go 1 (c1 := (109, [some (.inr (.inr (some (13, 0)))), some (.inl m_)], [], Sx56_)) rfl ?_
      refine sm_T_rv rfl ⟨_, _, rfl, rfl, hIx57_, hFx60_, ?_⟩
      exact e9_
  · have cx7_ : ¬ (vx6_ = 0) := of_decide_eq_false cx7_
    have kd_ : lx_kd b_ n_ p_ = 4 := by have := w2_.mp (by omega); omega
    refine sm_T_go 1 (c1 := (9, [some (.inr (.inr (some (13, 0)))), some (.inl m_)], [.inr (.inr (some (13, 0)))], S0_)) rfl ?_
    refine sm_T_cal (d1 := 2) (Q1 := vq_297 b_ n_ T_ (.inr p_) S0_) rfl rfl (by decide) (vc_297 b_ n_ T_ (.inr p_) S0_ hI_ (by exact ht_) (by exact hx_) (by (intro q_ e_; cases e_; omega))) (fun u_ Sx61_ px64_ => ?_)
    obtain ⟨rfl, hIx62_, hFx63_, px64_⟩ := px64_
    have hFx65_ : ai_fr (sx_W vw_334) S0_ Sx61_ := ai_fr_tr hF_ (fr_le hFx63_ rfl)
    have t1_ := rtab_fr ht_ hFx63_ rfl rfl rfl rfl rfl
    have re1x : ∀ m_, m_ ≤ M_ → re1 b_ n_ T_ A_ m_ Sx61_ := fun m_ hm_ => re1_fr (hre_ m_ hm_) hFx63_ rfl rfl rfl rfl rfl rfl
    have rs1x : ∀ m_, m_ ≤ M_ → rs1 A_ m_ Sx61_ := fun m_ hm_ => rs1_fr (hrs_ m_ hm_) hFx63_ rfl rfl rfl rfl
    have mo1_ := (hFx63_.1 13 0 27 rfl).trans hmo_
    have md1_ := (hFx63_.1 13 0 28 rfl).trans hmd_
    have g1_ : rg b_ n_ T_ (p_ad b_ n_ p_) Sx61_ := px64_.1
    refine sm_T_go 2 (c1 := (14, [some (.inr (.inr (some (13, 0)))), some (.inl m_)], [.inl m_, .inr (.inr (some (13, 0)))], Sx61_)) rfl ?_
    refine sm_T_cal (d1 := 3) (Q1 := vq_306 m_ b_ n_ T_ (p_ad b_ n_ p_) A_ M_ Sx61_) rfl rfl (by decide) (vc_306 m_ b_ n_ T_ (p_ad b_ n_ p_) A_ M_ Sx61_ hIx62_ (by exact t1_) (by exact g1_) (by exact hmm_) (by exact re1x M_ (Nat.le_refl M_)) (by exact hAM_)) (fun u_ Sx66_ px69_ => ?_)
    obtain ⟨rfl, hIx67_, hFx68_, px69_⟩ := px69_
    have hFx70_ : ai_fr (sx_W vw_334) S0_ Sx66_ := ai_fr_tr hFx65_ (fr_le hFx68_ rfl)
    have t6_ := rtab_fr t1_ hFx68_ rfl rfl rfl rfl rfl
    have re6_ : ∀ m_, m_ ≤ M_ → re1 b_ n_ T_ A_ m_ Sx66_ := fun m_ hm_ => re1_fr (re1x m_ hm_) hFx68_ rfl rfl rfl rfl rfl rfl
    have rs6_ : ∀ m_, m_ ≤ M_ → rs1 A_ m_ Sx66_ := fun m_ hm_ => rs1_fr (rs1x m_ hm_) hFx68_ rfl rfl rfl rfl
    have mo6_ := (hFx68_.1 13 0 27 rfl).trans mo1_
    have md6_ := (hFx68_.1 13 0 28 rfl).trans md1_
    have g6_ : rg b_ n_ T_ (pb (z_nw b_ n_ A_ M_ p_) fun a_ => .inr a_.2) Sx66_ := rg_pb (z_ := p_ad b_ n_ p_) (ps_ := fun a_ => a_) (g_ := p_nw b_ n_ A_ M_) (by rw [pb_id]; exact px69_.1) (fun a_ _ => by rw [pb_as]; exact pb_id.symm)
    have tk6_ : ∀ a_, z_nw b_ n_ A_ M_ p_ = .inr a_ → rtk b_ n_ T_ (Sx66_.1 13 0 25) a_.1 := fun a_ ha_ => by obtain ⟨q_, h1_, h2_⟩ := pb_inr ha_; obtain ⟨r_, h3_, h4_⟩ := pb_inr h2_; cases h4_; exact px69_.2 q_ r_ h1_ h3_
    refine sm_T_go 1 (c1 := (18, [some (.inr (.inr (some (13, 0)))), some (.inl m_)], [.inr (.inr (some (13, 0)))], Sx66_)) rfl ?_
    refine sm_T_cal (d1 := 3) (Q1 := vq_307 b_ n_ T_ (pb (z_nw b_ n_ A_ M_ p_) fun a_ => .inr a_.2) Sx66_) rfl rfl (by decide) (vc_307 b_ n_ T_ (pb (z_nw b_ n_ A_ M_ p_) fun a_ => .inr a_.2) Sx66_ hIx67_ (by exact t6_) (by exact g6_)) (fun u_ Sx71_ px74_ => ?_)
    obtain ⟨rfl, hIx72_, hFx73_, px74_⟩ := px74_
    have hFx75_ : ai_fr (sx_W vw_334) S0_ Sx71_ := ai_fr_tr hFx70_ (fr_le hFx73_ rfl)
    have t10_ := rtab_fr t6_ hFx73_ rfl rfl rfl rfl rfl
    have re10_ : ∀ m_, m_ ≤ M_ → re1 b_ n_ T_ A_ m_ Sx71_ := fun m_ hm_ => re1_fr (re6_ m_ hm_) hFx73_ rfl rfl rfl rfl rfl rfl
    have rs10_ : ∀ m_, m_ ≤ M_ → rs1 A_ m_ Sx71_ := fun m_ hm_ => rs1_fr (rs6_ m_ hm_) hFx73_ rfl rfl rfl rfl
    have mo10_ := (hFx73_.1 13 0 27 rfl).trans mo6_
    have md10_ := (hFx73_.1 13 0 28 rfl).trans md6_
    have g10_ : rg b_ n_ T_ (pb (z_wi b_ n_ A_ M_ p_) fun a_ => .inr a_.2.1) Sx71_ := rg_pb px74_.1 (fun a_ _ => by unfold p_w1; rw [pb_as]; rfl)
    have tk10_ : ∀ a_, z_wi b_ n_ A_ M_ p_ = .inr a_ → rtk b_ n_ T_ (Sx71_.1 13 0 25) a_.1 := fun a_ ha_ => by rw [hFx73_.1 13 0 25 rfl]; obtain ⟨q_, h1_, h2_⟩ := pb_inr ha_; obtain ⟨r_, h3_, h4_⟩ := pb_inr h2_; cases h4_; exact tk6_ q_ h1_
    have wd10_ : ∀ a_, z_wi b_ n_ A_ M_ p_ = .inr a_ → Sx71_.1 13 0 26 = a_.2.2 := fun a_ ha_ => by obtain ⟨q_, h1_, h2_⟩ := pb_inr ha_; obtain ⟨r_, h3_, h4_⟩ := pb_inr h2_; cases h4_; exact px74_.2 q_.2 r_ (by rw [h1_]; rfl) h3_
    have pl10_ : ∀ a_, z_wi b_ n_ A_ M_ p_ = .inr a_ → Sx71_.2.2.1 120 0 (Sx71_.1 13 0 9).toNat = (a_.2.1 : Int) := fun a_ ha_ => (rg_le t10_ (rg_at g10_ ha_)).2.2
    refine sm_T_go 2 (c1 := (24, [some (.inr (.inr (some (13, 0)))), some (.inl m_)], [.inl 59, .inr (.inr (some (13, 0)))], Sx71_)) rfl ?_
    refine sm_T_cal (d1 := 3) (Q1 := vq_300 59 b_ n_ T_ (pb (z_wi b_ n_ A_ M_ p_) fun a_ => .inr a_.2.1) Sx71_) rfl rfl (by decide) (vc_300 59 b_ n_ T_ (pb (z_wi b_ n_ A_ M_ p_) fun a_ => .inr a_.2.1) Sx71_ hIx72_ (by exact t10_) (by exact g10_) (by decide)) (fun u_ Sx76_ px79_ => ?_)
    obtain ⟨rfl, hIx77_, hFx78_, px79_⟩ := px79_
    have hFx80_ : ai_fr (sx_W vw_334) S0_ Sx76_ := ai_fr_tr hFx75_ (fr_le hFx78_ rfl)
    have t24_ := rtab_fr t10_ hFx78_ rfl rfl rfl rfl rfl
    have re24_ : ∀ m_, m_ ≤ M_ → re1 b_ n_ T_ A_ m_ Sx76_ := fun m_ hm_ => re1_fr (re10_ m_ hm_) hFx78_ rfl rfl rfl rfl rfl rfl
    have rs24_ : ∀ m_, m_ ≤ M_ → rs1 A_ m_ Sx76_ := fun m_ hm_ => rs1_fr (rs10_ m_ hm_) hFx78_ rfl rfl rfl rfl
    have mo24_ := (hFx78_.1 13 0 27 rfl).trans mo10_
    have md24_ := (hFx78_.1 13 0 28 rfl).trans md10_
    have g24_ : rg b_ n_ T_ (pb (pb (z_wi b_ n_ A_ M_ p_) (z_is b_ n_)) fun a_ => .inr a_.2) Sx76_ := rg_pb px79_ (fun a_ _ => by unfold z_is; rw [pb_as]; exact pb_id.symm)
    have tk24_ : ∀ a_, z_wi b_ n_ A_ M_ p_ = .inr a_ → rtk b_ n_ T_ (Sx76_.1 13 0 25) a_.1 := fun a_ ha_ => by rw [hFx78_.1 13 0 25 rfl]; exact tk10_ a_ ha_
    have wd24_ : ∀ a_, z_wi b_ n_ A_ M_ p_ = .inr a_ → Sx76_.1 13 0 26 = a_.2.2 := fun a_ ha_ => (hFx78_.1 13 0 26 rfl).trans (wd10_ a_ ha_)
    refine sm_T_go 4 (c1 := (31, [some (.inr (.inr (some (13, 0)))), some (.inl m_)], [.inl 0, .inl 1, .inl m_, .inr (.inr (some (13, 0)))], Sx76_)) rfl ?_
    refine sm_T_cal (d1 := 1) (Q1 := vq_308 m_ 1 0 b_ n_ T_ (pb (pb (z_wi b_ n_ A_ M_ p_) (z_is b_ n_)) fun a_ => .inr a_.2) A_ M_ 0 Sx76_) rfl rfl (by decide) (vc_308 m_ 1 0 b_ n_ T_ (pb (pb (z_wi b_ n_ A_ M_ p_) (z_is b_ n_)) fun a_ => .inr a_.2) A_ M_ 0 Sx76_ hIx77_ (by exact hIx77_) (by exact g24_) (by exact hmm_) (by exact ⟨rfl, by decide, by decide, by decide⟩) (by (intro p9_ hp9_; obtain ⟨a_, h1_, h2_⟩ := pb_inr hp9_; obtain ⟨a2_, h3_, h4_⟩ := pb_inr h1_; have k1_ := z_wi_ok le0_.1 (by omega) h3_; have k2_ := wd24_ a2_ h3_; have k3_ := k1_.2.1; have k4_ := k1_.2.2.2.2.2; exact ⟨hA_, re24_, rs24_, by omega, by omega, by decide, fun z_ => absurd z_ (by decide)⟩))) (fun u_ Sx81_ px84_ => ?_)
    obtain ⟨rfl, hIx82_, hFx83_, px84_⟩ := px84_
    have hFx85_ : ai_fr (sx_W vw_334) S0_ Sx81_ := ai_fr_tr hFx80_ (fr_le hFx83_ rfl)
    have e31_ := px84_
    have e9_ : rm b_ n_ T_ M_ (p_i2 b_ n_ A_ N_ M_ c_ p_) Sx81_ := by rw [i2_1 kd_]; refine ⟨?_, fun r_ hr_ => ?_⟩; (rw [in_eq, pb_as]; exact e31_.1); (have k_ := in_ok hA_ le0_.1 (by omega) hc_ hr_; rw [in_eq] at hr_; obtain ⟨a_, h1_, h2_⟩ := pb_inr hr_; cases h2_; obtain ⟨a2_, h3_, h4_⟩ := pb_inr h1_; have k5_ := tk24_ a2_ h3_; have k6_ := wd24_ a2_ h3_; unfold z_is at h4_; obtain ⟨y_, h8_, h9_⟩ := pb_inr h4_; cases h9_; have e_ := e31_.2 y_ a2_.1 (by rw [h1_]; rfl) k5_; rw [k6_] at e_; exact ⟨k_.1, e_.1, e_.2, k_.2.1⟩)
    refine sm_T_go 1 (c1 := (109, [some (.inr (.inr (some (13, 0)))), some (.inl m_)], [], Sx81_)) rfl ?_
    refine sm_T_rv rfl ⟨_, _, rfl, rfl, hIx82_, hFx85_, ?_⟩
    exact e9_
