/-! Builder.load -/
def vw_37 : sx_Wl := ([(1, 6)], [27, 28], [])
def vq_37 (k_ : Int) (m_ : Int) (f_ : Int) (a_ : Int) (d_ : Int) (tb_ : Nat → Int) (tn_ : Nat) (A_ : pA) (mm_ : Nat) (ff_ : Nat) (aa_ : Nat) (G_ : pGr) (E_ : gE) (O_ : gO) (V_ : gV) (V1_ : gV) (fc0_ : Nat) (fc_ : Nat) (S0_ : sm_S) (u_ : Option sm_V) (S1_ : sm_S) : Prop := u_ = none ∧ gi S1_ ∧ ai_fr (sx_W vw_37) S0_ S1_ ∧ (cstk G_ V1_ S1_)
set_option maxHeartbeats 1500000 in
set_option maxRecDepth 20000 in
theorem vl_37 {sc_ : Nat × (Nat → Int)} (k_ : Int) (m_ : Int) (f_ : Int) (a_ : Int) (d_ : Int) (tb_ : Nat → Int) (tn_ : Nat) (A_ : pA) (mm_ : Nat) (ff_ : Nat) (aa_ : Nat) (G_ : pGr) (E_ : gE) (O_ : gO) (V_ : gV) (V1_ : gV) (fc0_ : Nat) (fc_ : Nat) (S0_ : sm_S) (hI0_ : gi S0_) (hk0_ : 8 ≤ k_ ∧ k_ ≤ 11) (hd0_ : 0 ≤ d_ ∧ d_ ≤ 1048576) (hm1_ : m_ = (mm_ : Int) ∧ mm_ ≤ 15) (hf1_ : f_ = (ff_ : Int) ∧ ff_ < fc0_ ∧ fc0_ ≤ fc_ ∧ fc_ ≤ 201) (ha1_ : a_ = (aa_ : Int) ∧ aa_ ≤ 63) (her_ : ∀ k9_, k9_ ≤ mm_ → er1 tb_ tn_ A_ k9_ S0_) (hA_ : a_ok tb_ tn_ A_ mm_) (hfr_ : cfr ff_ fc0_ fc_ E_ O_ (S0_.2.2.1 26 0)) (hV_ : cstk G_ V_ S0_) (hok_ : G_.length ≤ 1000) (he_ : e_ld A_ mm_ k_ aa_ d_ E_ O_ V_ = some V1_) : ∀ nn_ : Nat, (∀ (ap_ : Int) (sy_ : Int) (j_ : Int) (S_ : sm_S), gi S_ → ai_fr (sx_W vw_37) S0_ S_ → ((k_ = 8) ∧ (0 ≤ j_ ∧ j_ ≤ a_ ∧ ap_ = 8 * (V_.length : Int)) ∧ ((S_.1 1 0 6) = (V_.length : Int)) ∧ (∀ j9_, S_.2.2.1 28 0 j9_ = if j9_ = V_.length then a_ else S0_.2.2.1 28 0 j9_) ∧ (rwv (S_.2.2.1 27 0) (8 * V_.length) (c_bt j_.toNat d_)) ∧ (∀ j9_, j9_ < 8 * V_.length → S_.2.2.1 27 0 j9_ = S0_.2.2.1 27 0 j9_) ∧ True) → ((a_ - j_).toNat) < nn_ → sm_T (mt_P sc_) 1 37 (88, [some (.inr (.inr (some (1, 0)))), some (.inl k_), some (.inl m_), some (.inl f_), some (.inl a_), some (.inl d_), some (.inl ap_), some (.inl sy_), some (.inl j_)], [], S_) (fun ro9_ => ∃ u_ S1_, ro9_ = (.inl u_, S1_, 0) ∧ vq_37 k_ m_ f_ a_ d_ tb_ tn_ A_ mm_ ff_ aa_ G_ E_ O_ V_ V1_ fc0_ fc_ S0_ u_ S1_)) := by
  intro nn_
  induction nn_ with
  | zero => exact fun _ _ _ _ _ _ _ h_ => absurd h_ (Nat.not_lt_zero _)
  | succ nn_ ih_ =>
    rintro ap_ sy_ j_ S_ hI_ hF_ ⟨hk_, h0_, ht1_, hw_, h1_, h2_, -⟩ hm_
    obtain ⟨v5_, ha8_, d0_, eV_⟩ := e_ld8 (show e_ld A_ mm_ 8 aa_ d_ E_ O_ V_ = some V1_ by rw [← hk_]; exact he_)
    refine sm_T_go 2 (c1 := (92, [some (.inr (.inr (some (1, 0)))), some (.inl k_), some (.inl m_), some (.inl f_), some (.inl a_), some (.inl d_), some (.inl ap_), some (.inl sy_), some (.inl j_)], [.inl a_, .inl j_], S_)) rfl ?_
    refine sm_T_br (a := 3) (z := 26) rfl (fun cx1_ => ?_) (fun cx1_ => ?_)
    · have cx1_ : a_ ≤ j_ := of_decide_eq_true cx1_
      have hfin : cstk G_ V1_ (sm_pI S_ 1 0 6 (S_.1 1 0 6 + 1)) := by rw [eV_]; refine ⟨?_, svl_tp hV_.2 (fun z_ => z_) (fun j9_ hj_ => h2_ j9_ hj_) (fun j9_ hj_ => ?_) ?_ (by rw [c_bt_l]; omega) (fun _ => ?_)⟩; (rw [rf_eq, ht1_, List.length_cons]; push_cast; rfl); (show S_.2.2.1 28 0 j9_ = _; rw [hw_, if_neg (by omega)]); (show S_.2.2.1 28 0 V_.length = _; rw [hw_, if_pos rfl, c_bt_l]; omega); (have q9_ := h1_; rw [show j_.toNat = aa_ by omega] at q9_; exact q9_)
      have bx2_ : 0 ≤ S_.1 1 0 6 ∧ S_.1 1 0 6 ≤ 512 := hI_.1 1 0 6 rfl
      refine sm_T_go 5 (c1 := (240, [some (.inr (.inr (some (1, 0)))), some (.inl k_), some (.inl m_), some (.inl f_), some (.inl a_), some (.inl d_), some (.inl ap_), some (.inl sy_), some (.inl j_)], [.inl 1, .inl (S_.1 1 0 6), .inr (.inr (some (1, 0)))], S_)) rfl ?_
      refine sm_T_bin (w := (S_.1 1 0 6) + 1) rfl (bi_add (by omega) (by omega) (by omega)) ?_
      have hIx3_ : gi (sm_pI S_ 1 0 6 ((S_.1 1 0 6) + 1)) := gi_pI hI_ (show 0 ≤ (S_.1 1 0 6) + 1 ∧ (S_.1 1 0 6) + 1 ≤ 512 from ⟨by omega, by omega⟩)
      have hFx4_ : ai_fr (sx_W vw_37) S0_ (sm_pI S_ 1 0 6 ((S_.1 1 0 6) + 1)) := ai_fr_tr hF_ (ai_fr_pI rfl)
      refine sm_T_go 1 (c1 := (244, [some (.inr (.inr (some (1, 0)))), some (.inl k_), some (.inl m_), some (.inl f_), some (.inl a_), some (.inl d_), some (.inl ap_), some (.inl sy_), some (.inl j_)], [], sm_pI S_ 1 0 6 ((S_.1 1 0 6) + 1))) rfl ?_
      refine sm_T_rv rfl ⟨_, _, rfl, rfl, hIx3_, hFx4_, ?_⟩
      first | exact hfin | (rw [eV_]; exact ld_go hV_ (by omega) (by omega) (by omega) (by omega) l8_ (by first | (rw [e153_, show (8 * (40 * f_ + a_)).toNat = 8 * (40 * ff_ + aa_) by omega]; exact (hfr_.1 aa_ (by omega)).1) | (rw [e220_, pt2_, show (8 * (40 * (P_ aa_ : Int) + d_)).toNat = 8 * (40 * P_ aa_ + d_.toNat) by omega]; exact (yP_.2.2.2 d_.toNat (by omega)).1)))
    · have cx1_ : ¬ (a_ ≤ j_) := of_decide_eq_false cx1_
      refine sm_T_go 4 (c1 := (103, [some (.inr (.inr (some (1, 0)))), some (.inl k_), some (.inl m_), some (.inl f_), some (.inl a_), some (.inl d_), some (.inl ap_), some (.inl sy_), some (.inl j_)], [.inl j_, .inl ap_, .inr (.inr (some (27, 0)))], S_)) rfl ?_
      refine sm_T_bin (w := ap_ + j_) rfl (bi_add (by omega) (by omega) (by omega)) ?_
      refine sm_T_go 2 (c1 := (108, [some (.inr (.inr (some (1, 0)))), some (.inl k_), some (.inl m_), some (.inl f_), some (.inl a_), some (.inl d_), some (.inl ap_), some (.inl sy_), some (.inl j_)], [.inl j_, .inl d_, .inl (ap_ + j_), .inr (.inr (some (27, 0)))], S_)) rfl ?_
      refine sm_T_bin (w := (i_shr d_ j_)) rfl rfl ?_
      refine sm_T_go 1 (c1 := (110, [some (.inr (.inr (some (1, 0)))), some (.inl k_), some (.inl m_), some (.inl f_), some (.inl a_), some (.inl d_), some (.inl ap_), some (.inl sy_), some (.inl j_)], [.inl 1, .inl (i_shr d_ j_), .inl (ap_ + j_), .inr (.inr (some (27, 0)))], S_)) rfl ?_
      refine sm_T_bin (w := ((i_shr d_ j_) % 2)) rfl (bi_msk (k := 1) (by decide)) ?_
      refine sm_T_iast (n := 4096) rfl rfl (by omega) (by omega) ?_
      have hIx5_ : gi (sm_aI S_ 27 0 (ap_ + j_).toNat ((i_shr d_ j_) % 2)) := gi_aI hI_ (show 0 ≤ ((i_shr d_ j_) % 2) ∧ ((i_shr d_ j_) % 2) ≤ 2025 from ⟨by omega, by omega⟩)
      have hFx6_ : ai_fr (sx_W vw_37) S0_ (sm_aI S_ 27 0 (ap_ + j_).toNat ((i_shr d_ j_) % 2)) := ai_fr_tr hF_ (ai_fr_aI rfl)
      refine sm_T_inc (a := 8) (z := 1) (v := j_) (w := j_ + 1) rfl rfl (by omega) (by omega) (by omega) ?_
      refine sm_T_go 1 (c1 := (88, [some (.inr (.inr (some (1, 0)))), some (.inl k_), some (.inl m_), some (.inl f_), some (.inl a_), some (.inl d_), some (.inl ap_), some (.inl sy_), some (.inl (j_ + 1))], [], sm_aI S_ 27 0 (ap_ + j_).toNat ((i_shr d_ j_) % 2))) rfl ?_
      refine ih_ ap_ sy_ (j_ + 1) (sm_aI S_ 27 0 (ap_ + j_).toNat ((i_shr d_ j_) % 2)) hIx5_ hFx6_ ⟨?_, ?_, ?_, ?_, ?_, ?_, trivial⟩ ?_
      · exact hk_
      · omega
      · exact ht1_
      · (intro j9_; rw [rd_ne (by decide)]; exact hw_ j9_)
      · rw [show (j_ + 1).toNat = j_.toNat + 1 by omega, c_bt_s]
        exact rwv_ap (q_ := (ap_ + j_).toNat) h1_ (by rw [c_bt_l]; omega) (fun j9_ => by rw [rd_eq, show ((j_.toNat : Nat) : Int) = j_ by omega])
      · (intro j9_ hj_; rw [rd_eq, if_neg (by omega)]; exact h2_ j9_ hj_)
      · omega
set_option maxHeartbeats 1500000 in
set_option maxRecDepth 20000 in
theorem vc_37 {sc_ : Nat × (Nat → Int)} (k_ : Int) (m_ : Int) (f_ : Int) (a_ : Int) (d_ : Int) (tb_ : Nat → Int) (tn_ : Nat) (A_ : pA) (mm_ : Nat) (ff_ : Nat) (aa_ : Nat) (G_ : pGr) (E_ : gE) (O_ : gO) (V_ : gV) (V1_ : gV) (fc0_ : Nat) (fc_ : Nat) (S0_ : sm_S) (hI_ : gi S0_) (hI0_ : gi S0_) (hk0_ : 8 ≤ k_ ∧ k_ ≤ 11) (hd0_ : 0 ≤ d_ ∧ d_ ≤ 1048576) (hm1_ : m_ = (mm_ : Int) ∧ mm_ ≤ 15) (hf1_ : f_ = (ff_ : Int) ∧ ff_ < fc0_ ∧ fc0_ ≤ fc_ ∧ fc_ ≤ 201) (ha1_ : a_ = (aa_ : Int) ∧ aa_ ≤ 63) (her_ : ∀ k9_, k9_ ≤ mm_ → er1 tb_ tn_ A_ k9_ S0_) (hA_ : a_ok tb_ tn_ A_ mm_) (hfr_ : cfr ff_ fc0_ fc_ E_ O_ (S0_.2.2.1 26 0)) (hV_ : cstk G_ V_ S0_) (hok_ : G_.length ≤ 1000) (he_ : e_ld A_ mm_ k_ aa_ d_ E_ O_ V_ = some V1_) : sm_T (mt_P sc_) 1 37 (0, [some (.inr (.inr (some (1, 0)))), some (.inl k_), some (.inl m_), some (.inl f_), some (.inl a_), some (.inl d_), none, none, none], [], S0_) (fun ro9_ => ∃ u_ S1_, ro9_ = (.inl u_, S1_, 0) ∧ vq_37 k_ m_ f_ a_ d_ tb_ tn_ A_ mm_ ff_ aa_ G_ E_ O_ V_ V1_ fc0_ fc_ S0_ u_ S1_) := by
  have hF_ : ai_fr (sx_W vw_37) S0_ S0_ := ai_fr_rf
  have tp9_ := hV_.1
  have tq9_ : S0_.1 1 0 6 ≤ 512 := (hI0_.1 1 0 6 rfl).2
  refine sm_T_go 2 (c1 := (3, [some (.inr (.inr (some (1, 0)))), some (.inl k_), some (.inl m_), some (.inl f_), some (.inl a_), some (.inl d_), none, none, none], [.inl 11, .inl k_], S0_)) rfl ?_
  refine sm_T_br (a := 1) (z := 47) rfl (fun cx1_ => ?_) (fun cx1_ => ?_)
  · have cx1_ : k_ ≠ 11 := of_decide_eq_true cx1_
    have bx2_ : 0 ≤ S0_.1 1 0 6 ∧ S0_.1 1 0 6 ≤ 512 := hI_.1 1 0 6 rfl
    refine sm_T_go 3 (c1 := (56, [some (.inr (.inr (some (1, 0)))), some (.inl k_), some (.inl m_), some (.inl f_), some (.inl a_), some (.inl d_), none, none, none], [.inl 8, .inl (S0_.1 1 0 6)], S0_)) rfl ?_
    refine sm_T_bin (w := 8 * (S0_.1 1 0 6)) rfl (bi_mul (by omega) (by omega) (by omega)) ?_
    refine sm_T_go 3 (c1 := (62, [some (.inr (.inr (some (1, 0)))), some (.inl k_), some (.inl m_), some (.inl f_), some (.inl a_), some (.inl d_), some (.inl (8 * (S0_.1 1 0 6))), none, none], [.inl 40, .inl m_], S0_)) rfl ?_
    refine sm_T_bin (w := 40 * m_) rfl (bi_mul (by omega) (by omega) (by omega)) ?_
    refine sm_T_go 1 (c1 := (65, [some (.inr (.inr (some (1, 0)))), some (.inl k_), some (.inl m_), some (.inl f_), some (.inl a_), some (.inl d_), some (.inl (8 * (S0_.1 1 0 6))), none, none], [.inl a_, .inl (40 * m_)], S0_)) rfl ?_
    refine sm_T_bin (w := 40 * m_ + a_) rfl (bi_add (by omega) (by omega) (by omega)) ?_
    refine sm_T_go 3 (c1 := (71, [some (.inr (.inr (some (1, 0)))), some (.inl k_), some (.inl m_), some (.inl f_), some (.inl a_), some (.inl d_), some (.inl (8 * (S0_.1 1 0 6))), some (.inl (40 * m_ + a_)), none], [.inl 8, .inl k_], S0_)) rfl ?_
    refine sm_T_br (a := 1) (z := 50) rfl (fun cx3_ => ?_) (fun cx3_ => ?_)
    · have cx3_ : k_ ≠ 8 := of_decide_eq_true cx3_
      refine sm_T_go 2 (c1 := (124, [some (.inr (.inr (some (1, 0)))), some (.inl k_), some (.inl m_), some (.inl f_), some (.inl a_), some (.inl d_), some (.inl (8 * (S0_.1 1 0 6))), some (.inl (40 * m_ + a_)), none], [.inl 9, .inl k_], S0_)) rfl ?_
      refine sm_T_br (a := 1) (z := 46) rfl (fun cx4_ => ?_) (fun cx4_ => ?_)
      · have cx4_ : k_ ≠ 9 := of_decide_eq_true cx4_
        obtain ⟨v5_, o_, hO_, aM_, d0_, dM_, q0_, qm_, l8_, lw_, eV_⟩ := e_ldp he_ (by omega) (by omega) (by omega)
        have A40_ := (hA_.2 mm_ (Nat.le_refl _)).1
        have w80_ : S0_.2.2.1 80 0 (40 * m_ + a_).toNat = A_.2.2.2.1 (40 * mm_ + aa_) ∧ S0_.2.2.1 81 0 (40 * m_ + a_).toNat = A_.2.2.2.2 (40 * mm_ + aa_) := by rw [show (40 * m_ + a_).toNat = 40 * mm_ + aa_ by omega]; exact ((her_ mm_ (Nat.le_refl _)).2 aa_ (by omega)).2.2
        obtain ⟨xE_, P_, xP_⟩ := id hfr_
        have yP_ := xP_ aa_ (by omega) o_ hO_
        have y2_ := yP_.2.1
        have D40_ := (hA_.2 (A_.2.2.2.2 (40 * mm_ + aa_)).toNat (by omega)).1
        have pt_ : S0_.2.2.1 26 0 (8 * (40 * f_ + a_)).toNat = (P_ aa_ : Int) := by rw [show (8 * (40 * f_ + a_)).toNat = 8 * (40 * ff_ + aa_) by omega]; exact yP_.1
        have w82_ : S0_.2.2.1 80 0 (40 * (S0_.2.2.1 81 0 (40 * m_ + a_).toNat) + d_).toNat = A_.2.2.2.1 (40 * (A_.2.2.2.2 (40 * mm_ + aa_)).toNat + d_.toNat) := by rw [w80_.2, show (40 * A_.2.2.2.2 (40 * mm_ + aa_) + d_).toNat = 40 * (A_.2.2.2.2 (40 * mm_ + aa_)).toNat + d_.toNat by omega]; exact ((her_ (A_.2.2.2.2 (40 * mm_ + aa_)).toNat (by omega)).2 d_.toNat (by omega)).2.2.1
        refine sm_T_go 11 (c1 := (194, [some (.inr (.inr (some (1, 0)))), some (.inl k_), some (.inl m_), some (.inl f_), some (.inl a_), some (.inl d_), some (.inl (8 * (S0_.1 1 0 6))), some (.inl (40 * m_ + a_)), none], [.inl (40 * m_ + a_), .inr (.inr (some (81, 0))), .inr (.inr (some (80, 0))), .inl (S0_.1 1 0 6), .inr (.inr (some (28, 0)))], S0_)) rfl ?_
        refine sm_T_iald (n := 640) rfl rfl (by omega) (by omega) ?_
        have bx5_ : 0 ≤ S0_.2.2.1 81 0 (40 * m_ + a_).toNat ∧ S0_.2.2.1 81 0 (40 * m_ + a_).toNat ≤ 255 := hI_.2 81 0 _
        refine sm_T_go 1 (c1 := (197, [some (.inr (.inr (some (1, 0)))), some (.inl k_), some (.inl m_), some (.inl f_), some (.inl a_), some (.inl d_), some (.inl (8 * (S0_.1 1 0 6))), some (.inl (40 * m_ + a_)), none], [.inl 40, .inl (S0_.2.2.1 81 0 (40 * m_ + a_).toNat), .inr (.inr (some (80, 0))), .inl (S0_.1 1 0 6), .inr (.inr (some (28, 0)))], S0_)) rfl ?_
        refine sm_T_bin (w := 40 * (S0_.2.2.1 81 0 (40 * m_ + a_).toNat)) rfl (bi_mul (by omega) (by omega) (by omega)) ?_
        refine sm_T_go 1 (c1 := (200, [some (.inr (.inr (some (1, 0)))), some (.inl k_), some (.inl m_), some (.inl f_), some (.inl a_), some (.inl d_), some (.inl (8 * (S0_.1 1 0 6))), some (.inl (40 * m_ + a_)), none], [.inl d_, .inl (40 * (S0_.2.2.1 81 0 (40 * m_ + a_).toNat)), .inr (.inr (some (80, 0))), .inl (S0_.1 1 0 6), .inr (.inr (some (28, 0)))], S0_)) rfl ?_
        refine sm_T_bin (w := 40 * (S0_.2.2.1 81 0 (40 * m_ + a_).toNat) + d_) rfl (bi_add (by omega) (by omega) (by omega)) ?_
        refine sm_T_iald (n := 640) rfl rfl (by omega) (by omega) ?_
        have bx6_ : 0 ≤ S0_.2.2.1 80 0 (40 * (S0_.2.2.1 81 0 (40 * m_ + a_).toNat) + d_).toNat ∧ S0_.2.2.1 80 0 (40 * (S0_.2.2.1 81 0 (40 * m_ + a_).toNat) + d_).toNat ≤ 8 := hI_.2 80 0 _
        refine sm_T_iast (n := 512) rfl rfl (by omega) (by omega) ?_
        have hIx7_ : gi (sm_aI S0_ 28 0 (S0_.1 1 0 6).toNat (S0_.2.2.1 80 0 (40 * (S0_.2.2.1 81 0 (40 * m_ + a_).toNat) + d_).toNat)) := gi_aI hI_ (show 0 ≤ (S0_.2.2.1 80 0 (40 * (S0_.2.2.1 81 0 (40 * m_ + a_).toNat) + d_).toNat) ∧ (S0_.2.2.1 80 0 (40 * (S0_.2.2.1 81 0 (40 * m_ + a_).toNat) + d_).toNat) ≤ 8 from ⟨by omega, by omega⟩)
        have hFx8_ : ai_fr (sx_W vw_37) S0_ (sm_aI S0_ 28 0 (S0_.1 1 0 6).toNat (S0_.2.2.1 80 0 (40 * (S0_.2.2.1 81 0 (40 * m_ + a_).toNat) + d_).toNat)) := ai_fr_tr hF_ (ai_fr_aI rfl)
        refine sm_T_go 6 (c1 := (214, [some (.inr (.inr (some (1, 0)))), some (.inl k_), some (.inl m_), some (.inl f_), some (.inl a_), some (.inl d_), some (.inl (8 * (S0_.1 1 0 6))), some (.inl (40 * m_ + a_)), none], [.inl a_, .inl f_, .inr (.inr (some (26, 0))), .inr (.inr (some (26, 0)))], sm_aI S0_ 28 0 (S0_.1 1 0 6).toNat (S0_.2.2.1 80 0 (40 * (S0_.2.2.1 81 0 (40 * m_ + a_).toNat) + d_).toNat))) rfl ?_
        refine sm_T_cal (d1 := 0) (Q1 := vq_35 f_ a_ (sm_aI S0_ 28 0 (S0_.1 1 0 6).toNat (S0_.2.2.1 80 0 (40 * (S0_.2.2.1 81 0 (40 * m_ + a_).toNat) + d_).toNat))) rfl rfl (by decide) (vc_35 f_ a_ (sm_aI S0_ 28 0 (S0_.1 1 0 6).toNat (S0_.2.2.1 80 0 (40 * (S0_.2.2.1 81 0 (40 * m_ + a_).toNat) + d_).toNat)) hIx7_ (by omega) (by omega)) (fun u_ Sx9_ px12_ => ?_)
        obtain ⟨rfl, vx14_, rfl, px12_⟩ := px12_
        have e214_ := px12_
        have pt2_ : S0_.2.2.1 26 0 vx14_.toNat = (P_ aa_ : Int) := by rw [e214_]; exact pt_
        refine sm_T_iald (n := 64320) rfl rfl (by omega) (by omega) ?_
        have bx15_ : 0 ≤ S0_.2.2.1 26 0 vx14_.toNat ∧ S0_.2.2.1 26 0 vx14_.toNat ≤ 2025 := hI_.2 26 0 _
        refine sm_T_go 1 (c1 := (220, [some (.inr (.inr (some (1, 0)))), some (.inl k_), some (.inl m_), some (.inl f_), some (.inl a_), some (.inl d_), some (.inl (8 * (S0_.1 1 0 6))), some (.inl (40 * m_ + a_)), none], [.inl d_, .inl (S0_.2.2.1 26 0 vx14_.toNat), .inr (.inr (some (26, 0)))], sm_aI S0_ 28 0 (S0_.1 1 0 6).toNat (S0_.2.2.1 80 0 (40 * (S0_.2.2.1 81 0 (40 * m_ + a_).toNat) + d_).toNat))) rfl ?_
        refine sm_T_cal (d1 := 0) (Q1 := vq_35 (S0_.2.2.1 26 0 vx14_.toNat) d_ (sm_aI S0_ 28 0 (S0_.1 1 0 6).toNat (S0_.2.2.1 80 0 (40 * (S0_.2.2.1 81 0 (40 * m_ + a_).toNat) + d_).toNat))) rfl rfl (by decide) (vc_35 (S0_.2.2.1 26 0 vx14_.toNat) d_ (sm_aI S0_ 28 0 (S0_.1 1 0 6).toNat (S0_.2.2.1 80 0 (40 * (S0_.2.2.1 81 0 (40 * m_ + a_).toNat) + d_).toNat)) hIx7_ (by omega) (by omega)) (fun u_ Sx16_ px19_ => ?_)
        obtain ⟨rfl, vx21_, rfl, px19_⟩ := px19_
        have e220_ := px19_
        refine sm_T_go 4 (c1 := (231, [some (.inr (.inr (some (1, 0)))), some (.inl k_), some (.inl m_), some (.inl f_), some (.inl a_), some (.inl d_), some (.inl (8 * (S0_.1 1 0 6))), some (.inl (40 * m_ + a_)), none], [.inl 8, .inl (8 * (S0_.1 1 0 6)), .inr (.inr (some (27, 0))), .inl vx21_, .inr (.inr (some (26, 0)))], sm_aI S0_ 28 0 (S0_.1 1 0 6).toNat (S0_.2.2.1 80 0 (40 * (S0_.2.2.1 81 0 (40 * m_ + a_).toNat) + d_).toNat))) rfl ?_
        refine sm_T_nt (u := none) (S1 := sm_acI (sm_aI S0_ 28 0 (S0_.1 1 0 6).toNat (S0_.2.2.1 80 0 (40 * (S0_.2.2.1 81 0 (40 * m_ + a_).toNat) + d_).toNat)) 26 0 27 0 vx21_.toNat (8 * (S0_.1 1 0 6)).toNat (8 : Int).toNat) rfl rfl (nt_acI (sc := sc_) (n := 64320) (n1 := 4096) rfl rfl (by omega) (by omega) (by omega) (by omega) (by omega)) ?_
        have hIx22_ : gi (sm_acI (sm_aI S0_ 28 0 (S0_.1 1 0 6).toNat (S0_.2.2.1 80 0 (40 * (S0_.2.2.1 81 0 (40 * m_ + a_).toNat) + d_).toNat)) 26 0 27 0 vx21_.toNat (8 * (S0_.1 1 0 6)).toNat (8 : Int).toNat) := gi_ac hIx7_ (by decide) (by decide)
        have hFx23_ : ai_fr (sx_W vw_37) S0_ (sm_acI (sm_aI S0_ 28 0 (S0_.1 1 0 6).toNat (S0_.2.2.1 80 0 (40 * (S0_.2.2.1 81 0 (40 * m_ + a_).toNat) + d_).toNat)) 26 0 27 0 vx21_.toNat (8 * (S0_.1 1 0 6)).toNat (8 : Int).toNat) := ai_fr_tr hFx8_ (fr_ac rfl)
        refine sm_T_go 4 (c1 := (240, [some (.inr (.inr (some (1, 0)))), some (.inl k_), some (.inl m_), some (.inl f_), some (.inl a_), some (.inl d_), some (.inl (8 * (S0_.1 1 0 6))), some (.inl (40 * m_ + a_)), none], [.inl 1, .inl (S0_.1 1 0 6), .inr (.inr (some (1, 0)))], sm_acI (sm_aI S0_ 28 0 (S0_.1 1 0 6).toNat (S0_.2.2.1 80 0 (40 * (S0_.2.2.1 81 0 (40 * m_ + a_).toNat) + d_).toNat)) 26 0 27 0 vx21_.toNat (8 * (S0_.1 1 0 6)).toNat (8 : Int).toNat)) rfl ?_
        refine sm_T_bin (w := (S0_.1 1 0 6) + 1) rfl (bi_add (by omega) (by omega) (by omega)) ?_
        have hIx24_ : gi (sm_pI (sm_acI (sm_aI S0_ 28 0 (S0_.1 1 0 6).toNat (S0_.2.2.1 80 0 (40 * (S0_.2.2.1 81 0 (40 * m_ + a_).toNat) + d_).toNat)) 26 0 27 0 vx21_.toNat (8 * (S0_.1 1 0 6)).toNat (8 : Int).toNat) 1 0 6 ((S0_.1 1 0 6) + 1)) := gi_pI hIx22_ (show 0 ≤ (S0_.1 1 0 6) + 1 ∧ (S0_.1 1 0 6) + 1 ≤ 512 from ⟨by omega, by omega⟩)
        have hFx25_ : ai_fr (sx_W vw_37) S0_ (sm_pI (sm_acI (sm_aI S0_ 28 0 (S0_.1 1 0 6).toNat (S0_.2.2.1 80 0 (40 * (S0_.2.2.1 81 0 (40 * m_ + a_).toNat) + d_).toNat)) 26 0 27 0 vx21_.toNat (8 * (S0_.1 1 0 6)).toNat (8 : Int).toNat) 1 0 6 ((S0_.1 1 0 6) + 1)) := ai_fr_tr hFx23_ (ai_fr_pI rfl)
        refine sm_T_go 1 (c1 := (244, [some (.inr (.inr (some (1, 0)))), some (.inl k_), some (.inl m_), some (.inl f_), some (.inl a_), some (.inl d_), some (.inl (8 * (S0_.1 1 0 6))), some (.inl (40 * m_ + a_)), none], [], sm_pI (sm_acI (sm_aI S0_ 28 0 (S0_.1 1 0 6).toNat (S0_.2.2.1 80 0 (40 * (S0_.2.2.1 81 0 (40 * m_ + a_).toNat) + d_).toNat)) 26 0 27 0 vx21_.toNat (8 * (S0_.1 1 0 6)).toNat (8 : Int).toNat) 1 0 6 ((S0_.1 1 0 6) + 1))) rfl ?_
        refine sm_T_rv rfl ⟨_, _, rfl, rfl, hIx24_, hFx25_, ?_⟩
        first | exact hfin | (rw [eV_]; exact ld_go hV_ (by omega) (by omega) (by omega) (by omega) l8_ (by first | (rw [e153_, show (8 * (40 * f_ + a_)).toNat = 8 * (40 * ff_ + aa_) by omega]; exact (hfr_.1 aa_ (by omega)).1) | (rw [e220_, pt2_, show (8 * (40 * (P_ aa_ : Int) + d_)).toNat = 8 * (40 * P_ aa_ + d_.toNat) by omega]; exact (yP_.2.2.2 d_.toNat (by omega)).1)))
      · have cx4_ : ¬ (k_ ≠ 9) := of_decide_eq_false cx4_
        have hk_ : k_ = 9 := by omega
        obtain ⟨v5_, aM_, l8_, lw_, eV_⟩ := e_ld9 (show e_ld A_ mm_ 9 aa_ d_ E_ O_ V_ = some V1_ by rw [← hk_]; exact he_)
        have A40_ := (hA_.2 mm_ (Nat.le_refl _)).1
        have w80_ : S0_.2.2.1 80 0 (40 * m_ + a_).toNat = A_.2.2.2.1 (40 * mm_ + aa_) ∧ S0_.2.2.1 81 0 (40 * m_ + a_).toNat = A_.2.2.2.2 (40 * mm_ + aa_) := by rw [show (40 * m_ + a_).toNat = 40 * mm_ + aa_ by omega]; exact ((her_ mm_ (Nat.le_refl _)).2 aa_ (by omega)).2.2
        refine sm_T_go 8 (c1 := (144, [some (.inr (.inr (some (1, 0)))), some (.inl k_), some (.inl m_), some (.inl f_), some (.inl a_), some (.inl d_), some (.inl (8 * (S0_.1 1 0 6))), some (.inl (40 * m_ + a_)), none], [.inl (40 * m_ + a_), .inr (.inr (some (80, 0))), .inl (S0_.1 1 0 6), .inr (.inr (some (28, 0)))], S0_)) rfl ?_
        refine sm_T_iald (n := 640) rfl rfl (by omega) (by omega) ?_
        have bx26_ : 0 ≤ S0_.2.2.1 80 0 (40 * m_ + a_).toNat ∧ S0_.2.2.1 80 0 (40 * m_ + a_).toNat ≤ 8 := hI_.2 80 0 _
        refine sm_T_iast (n := 512) rfl rfl (by omega) (by omega) ?_
        have hIx27_ : gi (sm_aI S0_ 28 0 (S0_.1 1 0 6).toNat (S0_.2.2.1 80 0 (40 * m_ + a_).toNat)) := gi_aI hI_ (show 0 ≤ (S0_.2.2.1 80 0 (40 * m_ + a_).toNat) ∧ (S0_.2.2.1 80 0 (40 * m_ + a_).toNat) ≤ 8 from ⟨by omega, by omega⟩)
        have hFx28_ : ai_fr (sx_W vw_37) S0_ (sm_aI S0_ 28 0 (S0_.1 1 0 6).toNat (S0_.2.2.1 80 0 (40 * m_ + a_).toNat)) := ai_fr_tr hF_ (ai_fr_aI rfl)
        refine sm_T_go 4 (c1 := (153, [some (.inr (.inr (some (1, 0)))), some (.inl k_), some (.inl m_), some (.inl f_), some (.inl a_), some (.inl d_), some (.inl (8 * (S0_.1 1 0 6))), some (.inl (40 * m_ + a_)), none], [.inl a_, .inl f_, .inr (.inr (some (26, 0)))], sm_aI S0_ 28 0 (S0_.1 1 0 6).toNat (S0_.2.2.1 80 0 (40 * m_ + a_).toNat))) rfl ?_
        refine sm_T_cal (d1 := 0) (Q1 := vq_35 f_ a_ (sm_aI S0_ 28 0 (S0_.1 1 0 6).toNat (S0_.2.2.1 80 0 (40 * m_ + a_).toNat))) rfl rfl (by decide) (vc_35 f_ a_ (sm_aI S0_ 28 0 (S0_.1 1 0 6).toNat (S0_.2.2.1 80 0 (40 * m_ + a_).toNat)) hIx27_ (by omega) (by omega)) (fun u_ Sx29_ px32_ => ?_)
        obtain ⟨rfl, vx34_, rfl, px32_⟩ := px32_
        have e153_ := px32_
        refine sm_T_go 4 (c1 := (164, [some (.inr (.inr (some (1, 0)))), some (.inl k_), some (.inl m_), some (.inl f_), some (.inl a_), some (.inl d_), some (.inl (8 * (S0_.1 1 0 6))), some (.inl (40 * m_ + a_)), none], [.inl 8, .inl (8 * (S0_.1 1 0 6)), .inr (.inr (some (27, 0))), .inl vx34_, .inr (.inr (some (26, 0)))], sm_aI S0_ 28 0 (S0_.1 1 0 6).toNat (S0_.2.2.1 80 0 (40 * m_ + a_).toNat))) rfl ?_
        refine sm_T_nt (u := none) (S1 := sm_acI (sm_aI S0_ 28 0 (S0_.1 1 0 6).toNat (S0_.2.2.1 80 0 (40 * m_ + a_).toNat)) 26 0 27 0 vx34_.toNat (8 * (S0_.1 1 0 6)).toNat (8 : Int).toNat) rfl rfl (nt_acI (sc := sc_) (n := 64320) (n1 := 4096) rfl rfl (by omega) (by omega) (by omega) (by omega) (by omega)) ?_
        have hIx35_ : gi (sm_acI (sm_aI S0_ 28 0 (S0_.1 1 0 6).toNat (S0_.2.2.1 80 0 (40 * m_ + a_).toNat)) 26 0 27 0 vx34_.toNat (8 * (S0_.1 1 0 6)).toNat (8 : Int).toNat) := gi_ac hIx27_ (by decide) (by decide)
        have hFx36_ : ai_fr (sx_W vw_37) S0_ (sm_acI (sm_aI S0_ 28 0 (S0_.1 1 0 6).toNat (S0_.2.2.1 80 0 (40 * m_ + a_).toNat)) 26 0 27 0 vx34_.toNat (8 * (S0_.1 1 0 6)).toNat (8 : Int).toNat) := ai_fr_tr hFx28_ (fr_ac rfl)
        refine sm_T_go 5 (c1 := (240, [some (.inr (.inr (some (1, 0)))), some (.inl k_), some (.inl m_), some (.inl f_), some (.inl a_), some (.inl d_), some (.inl (8 * (S0_.1 1 0 6))), some (.inl (40 * m_ + a_)), none], [.inl 1, .inl (S0_.1 1 0 6), .inr (.inr (some (1, 0)))], sm_acI (sm_aI S0_ 28 0 (S0_.1 1 0 6).toNat (S0_.2.2.1 80 0 (40 * m_ + a_).toNat)) 26 0 27 0 vx34_.toNat (8 * (S0_.1 1 0 6)).toNat (8 : Int).toNat)) rfl ?_
        refine sm_T_bin (w := (S0_.1 1 0 6) + 1) rfl (bi_add (by omega) (by omega) (by omega)) ?_
        have hIx37_ : gi (sm_pI (sm_acI (sm_aI S0_ 28 0 (S0_.1 1 0 6).toNat (S0_.2.2.1 80 0 (40 * m_ + a_).toNat)) 26 0 27 0 vx34_.toNat (8 * (S0_.1 1 0 6)).toNat (8 : Int).toNat) 1 0 6 ((S0_.1 1 0 6) + 1)) := gi_pI hIx35_ (show 0 ≤ (S0_.1 1 0 6) + 1 ∧ (S0_.1 1 0 6) + 1 ≤ 512 from ⟨by omega, by omega⟩)
        have hFx38_ : ai_fr (sx_W vw_37) S0_ (sm_pI (sm_acI (sm_aI S0_ 28 0 (S0_.1 1 0 6).toNat (S0_.2.2.1 80 0 (40 * m_ + a_).toNat)) 26 0 27 0 vx34_.toNat (8 * (S0_.1 1 0 6)).toNat (8 : Int).toNat) 1 0 6 ((S0_.1 1 0 6) + 1)) := ai_fr_tr hFx36_ (ai_fr_pI rfl)
        refine sm_T_go 1 (c1 := (244, [some (.inr (.inr (some (1, 0)))), some (.inl k_), some (.inl m_), some (.inl f_), some (.inl a_), some (.inl d_), some (.inl (8 * (S0_.1 1 0 6))), some (.inl (40 * m_ + a_)), none], [], sm_pI (sm_acI (sm_aI S0_ 28 0 (S0_.1 1 0 6).toNat (S0_.2.2.1 80 0 (40 * m_ + a_).toNat)) 26 0 27 0 vx34_.toNat (8 * (S0_.1 1 0 6)).toNat (8 : Int).toNat) 1 0 6 ((S0_.1 1 0 6) + 1))) rfl ?_
        refine sm_T_rv rfl ⟨_, _, rfl, rfl, hIx37_, hFx38_, ?_⟩
        first | exact hfin | (rw [eV_]; exact ld_go hV_ (by omega) (by omega) (by omega) (by omega) l8_ (by first | (rw [e153_, show (8 * (40 * f_ + a_)).toNat = 8 * (40 * ff_ + aa_) by omega]; exact (hfr_.1 aa_ (by omega)).1) | (rw [e220_, pt2_, show (8 * (40 * (P_ aa_ : Int) + d_)).toNat = 8 * (40 * P_ aa_ + d_.toNat) by omega]; exact (yP_.2.2.2 d_.toNat (by omega)).1)))
    · have cx3_ : ¬ (k_ ≠ 8) := of_decide_eq_false cx3_
      have hk_ : k_ = 8 := by omega
      obtain ⟨v5_, ha8_, d0_, eV_⟩ := e_ld8 (show e_ld A_ mm_ 8 aa_ d_ E_ O_ V_ = some V1_ by rw [← hk_]; exact he_)
      refine sm_T_go 5 (c1 := (84, [some (.inr (.inr (some (1, 0)))), some (.inl k_), some (.inl m_), some (.inl f_), some (.inl a_), some (.inl d_), some (.inl (8 * (S0_.1 1 0 6))), some (.inl (40 * m_ + a_)), none], [.inl a_, .inl (S0_.1 1 0 6), .inr (.inr (some (28, 0)))], S0_)) rfl ?_
      refine sm_T_iast (n := 512) rfl rfl (by omega) (by omega) ?_
      have hIx39_ : gi (sm_aI S0_ 28 0 (S0_.1 1 0 6).toNat a_) := gi_aI hI_ (show 0 ≤ a_ ∧ a_ ≤ 8 from ⟨by omega, by omega⟩)
      have hFx40_ : ai_fr (sx_W vw_37) S0_ (sm_aI S0_ 28 0 (S0_.1 1 0 6).toNat a_) := ai_fr_tr hF_ (ai_fr_aI rfl)
      refine sm_T_go 2 (c1 := (88, [some (.inr (.inr (some (1, 0)))), some (.inl k_), some (.inl m_), some (.inl f_), some (.inl a_), some (.inl d_), some (.inl (8 * (S0_.1 1 0 6))), some (.inl (40 * m_ + a_)), some (.inl 0)], [], sm_aI S0_ 28 0 (S0_.1 1 0 6).toNat a_)) rfl ?_
      refine (vl_37 k_ m_ f_ a_ d_ tb_ tn_ A_ mm_ ff_ aa_ G_ E_ O_ V_ V1_ fc0_ fc_ S0_ hI0_ hk0_ hd0_ hm1_ hf1_ ha1_ her_ hA_ hfr_ hV_ hok_ he_ _) (8 * (S0_.1 1 0 6)) (40 * m_ + a_) 0 (sm_aI S0_ 28 0 (S0_.1 1 0 6).toNat a_) hIx39_ hFx40_ ⟨?_, ?_, ?_, ?_, ?_, ?_, trivial⟩ (Nat.lt_succ_self _)
      · exact hk_
      · omega
      · exact hV_.1
      · (intro j9_; rw [rd_eq, show (S0_.1 1 0 6).toNat = V_.length by omega])
      · (intro k9_ z9_ e9_; simp [c_bt] at e9_)
      · (intro j9_ hj_; exact rd_ne (by decide))
  · have cx1_ : ¬ (k_ ≠ 11) := of_decide_eq_false cx1_
    have hk_ : k_ = 11 := by omega
    obtain ⟨x_, l_, rfl, ax_, eV_⟩ := e_ld11 (show e_ld A_ mm_ 11 aa_ d_ E_ O_ V_ = some V1_ by rw [← hk_]; exact he_)
    have x8_ : x_.length ≤ 8 := hV_.2.2.1.2
    have tp_ : S0_.1 1 0 6 = (l_.length : Int) + 1 := by rw [hV_.1]; simp only [List.length_cons]; push_cast; omega
    have bx41_ : 0 ≤ S0_.1 1 0 6 ∧ S0_.1 1 0 6 ≤ 512 := hI_.1 1 0 6 rfl
    refine sm_T_go 5 (c1 := (15, [some (.inr (.inr (some (1, 0)))), some (.inl k_), some (.inl m_), some (.inl f_), some (.inl a_), some (.inl d_), none, none, none], [.inl 1, .inl (S0_.1 1 0 6), .inr (.inr (some (27, 0)))], S0_)) rfl ?_
    refine sm_T_bin (w := (S0_.1 1 0 6) - 1) rfl (bi_sub (by omega) (by omega) (by omega)) ?_
    refine sm_T_go 1 (c1 := (18, [some (.inr (.inr (some (1, 0)))), some (.inl k_), some (.inl m_), some (.inl f_), some (.inl a_), some (.inl d_), none, none, none], [.inl 8, .inl ((S0_.1 1 0 6) - 1), .inr (.inr (some (27, 0)))], S0_)) rfl ?_
    refine sm_T_bin (w := 8 * (S0_.1 1 0 6) - 8) rfl (bi_mul (by omega) (by omega) (by omega)) ?_
    refine sm_T_go 5 (c1 := (28, [some (.inr (.inr (some (1, 0)))), some (.inl k_), some (.inl m_), some (.inl f_), some (.inl a_), some (.inl d_), none, none, none], [.inl 1, .inl (S0_.1 1 0 6), .inr (.inr (some (27, 0))), .inl (8 * (S0_.1 1 0 6) - 8), .inr (.inr (some (27, 0)))], S0_)) rfl ?_
    refine sm_T_bin (w := (S0_.1 1 0 6) - 1) rfl (bi_sub (by omega) (by omega) (by omega)) ?_
    refine sm_T_go 1 (c1 := (31, [some (.inr (.inr (some (1, 0)))), some (.inl k_), some (.inl m_), some (.inl f_), some (.inl a_), some (.inl d_), none, none, none], [.inl 8, .inl ((S0_.1 1 0 6) - 1), .inr (.inr (some (27, 0))), .inl (8 * (S0_.1 1 0 6) - 8), .inr (.inr (some (27, 0)))], S0_)) rfl ?_
    refine sm_T_bin (w := 8 * (S0_.1 1 0 6) - 8) rfl (bi_mul (by omega) (by omega) (by omega)) ?_
    refine sm_T_go 1 (c1 := (34, [some (.inr (.inr (some (1, 0)))), some (.inl k_), some (.inl m_), some (.inl f_), some (.inl a_), some (.inl d_), none, none, none], [.inl a_, .inl (8 * (S0_.1 1 0 6) - 8), .inr (.inr (some (27, 0))), .inl (8 * (S0_.1 1 0 6) - 8), .inr (.inr (some (27, 0)))], S0_)) rfl ?_
    refine sm_T_bin (w := 8 * (S0_.1 1 0 6) + a_ - 8) rfl (bi_add (by omega) (by omega) (by omega)) ?_
    refine sm_T_iald (n := 4096) rfl rfl (by omega) (by omega) ?_
    have bx42_ : 0 ≤ S0_.2.2.1 27 0 (8 * (S0_.1 1 0 6) + a_ - 8).toNat ∧ S0_.2.2.1 27 0 (8 * (S0_.1 1 0 6) + a_ - 8).toNat ≤ 2025 := hI_.2 27 0 _
    refine sm_T_iast (n := 4096) rfl rfl (by omega) (by omega) ?_
    have hIx43_ : gi (sm_aI S0_ 27 0 (8 * (S0_.1 1 0 6) - 8).toNat (S0_.2.2.1 27 0 (8 * (S0_.1 1 0 6) + a_ - 8).toNat)) := gi_aI hI_ (show 0 ≤ (S0_.2.2.1 27 0 (8 * (S0_.1 1 0 6) + a_ - 8).toNat) ∧ (S0_.2.2.1 27 0 (8 * (S0_.1 1 0 6) + a_ - 8).toNat) ≤ 2025 from ⟨by omega, by omega⟩)
    have hFx44_ : ai_fr (sx_W vw_37) S0_ (sm_aI S0_ 27 0 (8 * (S0_.1 1 0 6) - 8).toNat (S0_.2.2.1 27 0 (8 * (S0_.1 1 0 6) + a_ - 8).toNat)) := ai_fr_tr hF_ (ai_fr_aI rfl)
    refine sm_T_go 5 (c1 := (46, [some (.inr (.inr (some (1, 0)))), some (.inl k_), some (.inl m_), some (.inl f_), some (.inl a_), some (.inl d_), none, none, none], [.inl 1, .inl (S0_.1 1 0 6), .inr (.inr (some (28, 0)))], sm_aI S0_ 27 0 (8 * (S0_.1 1 0 6) - 8).toNat (S0_.2.2.1 27 0 (8 * (S0_.1 1 0 6) + a_ - 8).toNat))) rfl ?_
    refine sm_T_bin (w := (S0_.1 1 0 6) - 1) rfl (bi_sub (by omega) (by omega) (by omega)) ?_
    refine sm_T_go 1 (c1 := (48, [some (.inr (.inr (some (1, 0)))), some (.inl k_), some (.inl m_), some (.inl f_), some (.inl a_), some (.inl d_), none, none, none], [.inl 1, .inl ((S0_.1 1 0 6) - 1), .inr (.inr (some (28, 0)))], sm_aI S0_ 27 0 (8 * (S0_.1 1 0 6) - 8).toNat (S0_.2.2.1 27 0 (8 * (S0_.1 1 0 6) + a_ - 8).toNat))) rfl ?_
    refine sm_T_iast (n := 512) rfl rfl (by omega) (by omega) ?_
    have hIx45_ : gi (sm_aI (sm_aI S0_ 27 0 (8 * (S0_.1 1 0 6) - 8).toNat (S0_.2.2.1 27 0 (8 * (S0_.1 1 0 6) + a_ - 8).toNat)) 28 0 ((S0_.1 1 0 6) - 1).toNat 1) := gi_aI hIx43_ (show 0 ≤ 1 ∧ 1 ≤ 8 from ⟨by omega, by omega⟩)
    have hFx46_ : ai_fr (sx_W vw_37) S0_ (sm_aI (sm_aI S0_ 27 0 (8 * (S0_.1 1 0 6) - 8).toNat (S0_.2.2.1 27 0 (8 * (S0_.1 1 0 6) + a_ - 8).toNat)) 28 0 ((S0_.1 1 0 6) - 1).toNat 1) := ai_fr_tr hFx44_ (ai_fr_aI rfl)
    refine sm_T_rv rfl ⟨_, _, rfl, rfl, hIx45_, hFx46_, ?_⟩
    rw [eV_]
    refine ⟨by show S0_.1 1 0 6 = _; rw [tp_]; simp only [List.length_cons]; push_cast; rfl, svl_tp hV_.2.2.2.2 (fun z_ => z_) (fun j_ hj_ => ?_) (fun j_ hj_ => ?_) ?_ (by simp) (fun z_ => ?_)⟩
    · rw [rd_ne (by decide), rd_eq, if_neg (by omega)]
    · rw [rd_eq, if_neg (by omega), rd_ne (by decide)]
    · rw [rd_eq, if_pos (by omega)]; rfl
    · intro k9_ z9_ e9_; have k0_ : k9_ = 0 := (by cases k9_ with | zero => rfl | succ k9_ => simp at e9_); subst k0_; rw [rd_ne (by decide), rd_eq, if_pos (by omega)]; have q9_ := Option.some.inj e9_; rw [← q9_, show (8 * S0_.1 1 0 6 + a_ - 8).toNat = 8 * l_.length + aa_ by omega]; exact rwv_g (hV_.2.2.2.1 z_) ax_
