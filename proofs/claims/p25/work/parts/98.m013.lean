/-! 99.zb6b -/
section
/-! Builder.store -/
def vw_38 : sx_Wl := ([(1, 3), (1, 6), (1, 9), (3, 5)], [26, 46], [])
def vq_38 (k_ : Int) (m_ : Int) (f_ : Int) (a_ : Int) (d_ : Int) (tb_ : Nat → Int) (tn_ : Nat) (A_ : pA) (mm_ : Nat) (ff_ : Nat) (aa_ : Nat) (dd_ : Nat) (F_ : Nat) (I_ : Nat) (s_ : gS) (r_ : gS) (fc0_ : Nat) (S0_ : sm_S) (u_ : Option sm_V) (S1_ : sm_S) : Prop := u_ = none ∧ gi S1_ ∧ ai_fr (sx_W vw_38) S0_ S1_ ∧ (idf dd_ S0_ S1_ ∧ (cxs dd_ F_ I_ ff_ fc0_ r_ S1_ ∧ fun_ ff_ fc0_ (S0_.2.2.1 26 0) (S1_.2.2.1 26 0)))
set_option maxHeartbeats 2000000 in
set_option maxRecDepth 20000 in
theorem vl_38 {sc_ : Nat × (Nat → Int)} (k_ : Int) (m_ : Int) (f_ : Int) (a_ : Int) (d_ : Int) (tb_ : Nat → Int) (tn_ : Nat) (A_ : pA) (mm_ : Nat) (ff_ : Nat) (aa_ : Nat) (dd_ : Nat) (F_ : Nat) (I_ : Nat) (s_ : gS) (r_ : gS) (fc0_ : Nat) (S0_ : sm_S) (hI0_ : gi S0_) (hd_ : S0_.2.1 1 0 1 = some dd_) (hk0_ : 12 ≤ k_ ∧ k_ ≤ 16) (hd0_ : 0 ≤ d_ ∧ d_ ≤ 1048576) (hm1_ : m_ = (mm_ : Int) ∧ mm_ ≤ 15) (hf1_ : f_ = (ff_ : Int)) (ha1_ : a_ = (aa_ : Int) ∧ aa_ ≤ 63) (her_ : ∀ k9_, k9_ ≤ mm_ → er1 tb_ tn_ A_ k9_ S0_) (hA_ : a_ok tb_ tn_ A_ mm_) (hx_ : cxs dd_ F_ I_ ff_ fc0_ s_ S0_) (hok_ : s_.1.1.length ≤ 1000) (he_ : e_st I_ A_ mm_ k_ aa_ d_ s_ = some r_) (hlw_ : lwS F_ s_) (hRF_ : 1 + I_ + r_.1.2.1 ≤ F_) : ∀ nn_ : Nat, (∀ (sy_ : Int) (j_ : Int) (S_ : sm_S), gi S_ → ai_fr (sx_W vw_38) S0_ S_ → ((k_ = 13) ∧ (0 ≤ j_ ∧ sy_ = 40 * m_ + a_ ∧ j_ ≤ 8) ∧ (rwv (S_.2.2.1 26 0) (8 * (40 * ff_ + aa_)) (r_bt I_ s_.1.2.1 j_.toNat)) ∧ (∀ j9_, j9_ < 8 * (40 * ff_ + aa_) ∨ 8 * (40 * ff_ + aa_) + 8 ≤ j9_ → S_.2.2.1 26 0 j9_ = S0_.2.2.1 26 0 j9_) ∧ ((S_.1 1 0 9) = (s_.1.2.1 : Int) + j_ ∧ j_ ≤ A_.2.2.2.1 (40 * mm_ + aa_)) ∧ ((S_.1 1 0 3) = (s_.1.2.2 : Int)) ∧ ((S_.1 1 0 6) = S0_.1 1 0 6 ∧ (∀ j9_, S_.2.2.1 27 0 j9_ = S0_.2.2.1 27 0 j9_) ∧ (∀ j9_, S_.2.2.1 28 0 j9_ = S0_.2.2.1 28 0 j9_) ∧ S_.1 3 dd_ 1 = (I_ : Int)) ∧ (cgl dd_ F_ s_.1.1 S_) ∧ (cxb dd_ (s_.1.2.1 + j_.toNat) S_) ∧ (idf dd_ S0_ S_) ∧ True) → ((8 - j_).toNat) < nn_ → sm_T (mt_P sc_) 1 38 (50, [some (.inr (.inr (some (1, 0)))), some (.inl k_), some (.inl m_), some (.inl f_), some (.inl a_), some (.inl d_), some (.inl sy_), some (.inl j_), none], [], S_) (fun ro9_ => ∃ u_ S1_, ro9_ = (.inl u_, S1_, 0) ∧ vq_38 k_ m_ f_ a_ d_ tb_ tn_ A_ mm_ ff_ aa_ dd_ F_ I_ s_ r_ fc0_ S0_ u_ S1_)) := by
  intro nn_
  induction nn_ with
  | zero => exact fun _ _ _ _ _ _ h_ => absurd h_ (Nat.not_lt_zero _)
  | succ nn_ ih_ =>
    rintro sy_ j_ S_ hI_ hF_ ⟨hk_, h0_, h1_, h2_, h3_, h4_, h5_, h6_, h7_, hD_, -⟩ hm_
    obtain ⟨x1_, x2_, x3_, x4_, x5_, x6_, x7_, x8_, x9_⟩ := id hx_
    have x9a := x9_.1
    have cb_ := cgl_b x1_
    have c12_ : 0 ≤ S0_.1 3 dd_ 1 ∧ 0 ≤ S0_.1 3 dd_ 2 := ⟨(hI0_.1 3 dd_ 1 rfl).1, (hI0_.1 3 dd_ 2 rfl).1⟩
    have A40_ := (hA_.2 mm_ (Nat.le_refl _)).1
    have tp9_ := x8_.1
    have tq9_ : S0_.1 1 0 6 ≤ 512 := (hI0_.1 1 0 6 rfl).2
    obtain ⟨aM_, hO_, w1_, w8_, r6_, er⟩ := e_st13 (show e_st I_ A_ mm_ 13 aa_ d_ s_ = some r_ by rw [← hk_]; exact he_)
    have w80_ : S_.2.2.1 80 0 sy_.toNat = A_.2.2.2.1 (40 * mm_ + aa_) := by rw [show sy_.toNat = 40 * mm_ + aa_ by omega, fr_arr (t := 80) (i := 0) hF_ rfl]; exact ((her_ mm_ (Nat.le_refl _)).2 aa_ (by omega)).2.2.1
    have h3a := h3_.1
    have h5d := h5_.2.2.2
    have hd2_ : S_.1 3 dd_ 2 = S0_.1 3 dd_ 2 := hF_.1 3 dd_ 2 rfl
    refine sm_T_go 5 (c1 := (61, [some (.inr (.inr (some (1, 0)))), some (.inl k_), some (.inl m_), some (.inl f_), some (.inl a_), some (.inl d_), some (.inl sy_), some (.inl j_), none], [.inl sy_, .inr (.inr (some (80, 0))), .inl j_], S_)) rfl ?_
    refine sm_T_iald (n := 640) rfl rfl (by omega) (by omega) ?_
    have bx1_ : 0 ≤ S_.2.2.1 80 0 sy_.toNat ∧ S_.2.2.1 80 0 sy_.toNat ≤ 8 := hI_.2 80 0 _
    refine sm_T_br (a := 3) (z := 99) rfl (fun cx2_ => ?_) (fun cx2_ => ?_)
    · have cx2_ : (S_.2.2.1 80 0 sy_.toNat) ≤ j_ := of_decide_eq_true cx2_
      refine sm_T_rv rfl ⟨_, _, rfl, rfl, hI_, hF_, ?_⟩
      refine ⟨hD_, ?_⟩
      rw [er]
      have jw_ : j_.toNat = (A_.2.2.2.1 (40 * mm_ + aa_)).toNat := by omega
      rw [jw_] at h1_
      refine ⟨⟨h6_, by rw [h3a]; push_cast; omega, h4_, x4_, x5_, x6_, cfr_st x7_ x5_ (by omega) hO_ (by rw [r_bt_l]; omega) h1_ h2_, ⟨by rw [h5_.1]; exact x8_.1, svl_up x8_.2 (fun z_ => z_) (fun j9_ _ => h5_.2.1 j9_) (fun j9_ _ => h5_.2.2.1 j9_)⟩, ⟨h5_.2.2.2, by rw [jw_] at h7_; exact h7_⟩⟩, fun j9_ q1_ q2_ => h2_ j9_ (by omega)⟩
    · have cx2_ : ¬ ((S_.2.2.1 80 0 sy_.toNat) ≤ j_) := of_decide_eq_false cx2_
      refine sm_T_go 3 (c1 := (68, [some (.inr (.inr (some (1, 0)))), some (.inl k_), some (.inl m_), some (.inl f_), some (.inl a_), some (.inl d_), some (.inl sy_), some (.inl j_), none], [.inr (.inr (some (1, 0))), .inl 1, .inl 2], S_)) rfl ?_
      refine sm_T_gr rfl rfl ((hF_.2.1 1 0 1 rfl).trans hd_) ?_
      have bx3_ : 0 ≤ S_.1 3 dd_ 1 ∧ S_.1 3 dd_ 1 ≤ 320 := hI_.1 3 dd_ 1 rfl
      refine sm_T_go 1 (c1 := (74, [some (.inr (.inr (some (1, 0)))), some (.inl k_), some (.inl m_), some (.inl f_), some (.inl a_), some (.inl d_), some (.inl sy_), some (.inl j_), none], [.inl (S_.1 3 dd_ 1), .inl 1, .inl 2], S_)) rfl ?_
      refine sm_T_bin (w := (S_.1 3 dd_ 1) + 1) rfl (bi_add (by omega) (by omega) (by omega)) ?_
      have bx4_ : 0 ≤ S_.1 1 0 9 ∧ S_.1 1 0 9 ≤ 6 := hI_.1 1 0 9 rfl
      refine sm_T_go 2 (c1 := (79, [some (.inr (.inr (some (1, 0)))), some (.inl k_), some (.inl m_), some (.inl f_), some (.inl a_), some (.inl d_), some (.inl sy_), some (.inl j_), none], [.inl (S_.1 1 0 9), .inl ((S_.1 3 dd_ 1) + 1), .inl 2], S_)) rfl ?_
      refine sm_T_bin (w := (S_.1 3 dd_ 1) + (S_.1 1 0 9) + 1) rfl (bi_add (by omega) (by omega) (by omega)) ?_
      refine sm_T_bin (w := 2 * (S_.1 3 dd_ 1) + 2 * (S_.1 1 0 9) + 2) rfl (bi_mul (by omega) (by omega) (by omega)) ?_
      refine sm_T_go 5 (c1 := (90, [some (.inr (.inr (some (1, 0)))), some (.inl k_), some (.inl m_), some (.inl f_), some (.inl a_), some (.inl d_), some (.inl sy_), some (.inl j_), some (.inl (2 * (S_.1 3 dd_ 1) + 2 * (S_.1 1 0 9) + 2))], [.inl a_, .inl f_, .inr (.inr (some (26, 0)))], S_)) rfl ?_
      refine sm_T_cal (d1 := 0) (Q1 := vq_35 f_ a_ S_) rfl rfl (by decide) (vc_35 f_ a_ S_ hI_ (by omega) (by omega)) (fun u_ Sx5_ px8_ => ?_)
      obtain ⟨rfl, vx10_, rfl, px8_⟩ := px8_
      have e90_ := px8_
      have ec : (vx10_ + j_).toNat = 8 * (40 * ff_ + aa_) + j_.toNat := by omega
      refine sm_T_go 1 (c1 := (95, [some (.inr (.inr (some (1, 0)))), some (.inl k_), some (.inl m_), some (.inl f_), some (.inl a_), some (.inl d_), some (.inl sy_), some (.inl j_), some (.inl (2 * (S_.1 3 dd_ 1) + 2 * (S_.1 1 0 9) + 2))], [.inl j_, .inl vx10_, .inr (.inr (some (26, 0)))], S_)) rfl ?_
      refine sm_T_bin (w := vx10_ + j_) rfl (bi_add (by omega) (by omega) (by omega)) ?_
      refine sm_T_go 1 (c1 := (98, [some (.inr (.inr (some (1, 0)))), some (.inl k_), some (.inl m_), some (.inl f_), some (.inl a_), some (.inl d_), some (.inl sy_), some (.inl j_), some (.inl (2 * (S_.1 3 dd_ 1) + 2 * (S_.1 1 0 9) + 2))], [.inl (2 * (S_.1 3 dd_ 1) + 2 * (S_.1 1 0 9) + 2), .inl (vx10_ + j_), .inr (.inr (some (26, 0)))], S_)) rfl ?_
      refine sm_T_iast (n := 64320) rfl rfl (by omega) (by omega) ?_
      have hIx11_ : gi (sm_aI S_ 26 0 (vx10_ + j_).toNat (2 * (S_.1 3 dd_ 1) + 2 * (S_.1 1 0 9) + 2)) := gi_aI hI_ (show 0 ≤ 2 * (S_.1 3 dd_ 1) + 2 * (S_.1 1 0 9) + 2 ∧ 2 * (S_.1 3 dd_ 1) + 2 * (S_.1 1 0 9) + 2 ≤ 2025 from ⟨by omega, by omega⟩)
      have hFx12_ : ai_fr (sx_W vw_38) S0_ (sm_aI S_ 26 0 (vx10_ + j_).toNat (2 * (S_.1 3 dd_ 1) + 2 * (S_.1 1 0 9) + 2)) := ai_fr_tr hF_ (ai_fr_aI rfl)
      have hDx13_ : idf dd_ S0_ (sm_aI S_ 26 0 (vx10_ + j_).toNat (2 * (S_.1 3 dd_ 1) + 2 * (S_.1 1 0 9) + 2)) := idf_aI hD_ (Or.inl (by decide))
      refine sm_T_go 1 (c1 := (100, [some (.inr (.inr (some (1, 0)))), some (.inl k_), some (.inl m_), some (.inl f_), some (.inl a_), some (.inl d_), some (.inl sy_), some (.inl j_), some (.inl (2 * (S_.1 3 dd_ 1) + 2 * (S_.1 1 0 9) + 2))], [.inr (.inr (some (1, 0)))], sm_aI S_ 26 0 (vx10_ + j_).toNat (2 * (S_.1 3 dd_ 1) + 2 * (S_.1 1 0 9) + 2))) rfl ?_
      refine sm_T_gr rfl rfl ((hFx12_.2.1 1 0 1 rfl).trans hd_) ?_
      refine sm_T_go 4 (c1 := (112, [some (.inr (.inr (some (1, 0)))), some (.inl k_), some (.inl m_), some (.inl f_), some (.inl a_), some (.inl d_), some (.inl sy_), some (.inl j_), some (.inl (2 * (S_.1 3 dd_ 1) + 2 * (S_.1 1 0 9) + 2))], [.inl (2 * (S_.1 3 dd_ 1) + 2 * (S_.1 1 0 9) + 2), .inl (S_.1 1 0 9), .inr (.inr (some (46, (0 + dd_))))], sm_aI S_ 26 0 (vx10_ + j_).toNat (2 * (S_.1 3 dd_ 1) + 2 * (S_.1 1 0 9) + 2))) rfl ?_
      refine sm_T_iast (n := 6) rfl rfl (by omega) (by omega) ?_
      have hIx14_ : gi (sm_aI (sm_aI S_ 26 0 (vx10_ + j_).toNat (2 * (S_.1 3 dd_ 1) + 2 * (S_.1 1 0 9) + 2)) 46 (0 + dd_) (S_.1 1 0 9).toNat (2 * (S_.1 3 dd_ 1) + 2 * (S_.1 1 0 9) + 2)) := gi_aI hIx11_ (show 0 ≤ 2 * (S_.1 3 dd_ 1) + 2 * (S_.1 1 0 9) + 2 ∧ 2 * (S_.1 3 dd_ 1) + 2 * (S_.1 1 0 9) + 2 ≤ 2025 from ⟨by omega, by omega⟩)
      have hFx15_ : ai_fr (sx_W vw_38) S0_ (sm_aI (sm_aI S_ 26 0 (vx10_ + j_).toNat (2 * (S_.1 3 dd_ 1) + 2 * (S_.1 1 0 9) + 2)) 46 (0 + dd_) (S_.1 1 0 9).toNat (2 * (S_.1 3 dd_ 1) + 2 * (S_.1 1 0 9) + 2)) := ai_fr_tr hFx12_ (ai_fr_aI rfl)
      have hDx16_ : idf dd_ S0_ (sm_aI (sm_aI S_ 26 0 (vx10_ + j_).toNat (2 * (S_.1 3 dd_ 1) + 2 * (S_.1 1 0 9) + 2)) 46 (0 + dd_) (S_.1 1 0 9).toNat (2 * (S_.1 3 dd_ 1) + 2 * (S_.1 1 0 9) + 2)) := idf_aI hDx13_ (Or.inr rfl)
      refine sm_T_go 1 (c1 := (114, [some (.inr (.inr (some (1, 0)))), some (.inl k_), some (.inl m_), some (.inl f_), some (.inl a_), some (.inl d_), some (.inl sy_), some (.inl j_), some (.inl (2 * (S_.1 3 dd_ 1) + 2 * (S_.1 1 0 9) + 2))], [.inr (.inr (some (1, 0)))], sm_aI (sm_aI S_ 26 0 (vx10_ + j_).toNat (2 * (S_.1 3 dd_ 1) + 2 * (S_.1 1 0 9) + 2)) 46 (0 + dd_) (S_.1 1 0 9).toNat (2 * (S_.1 3 dd_ 1) + 2 * (S_.1 1 0 9) + 2))) rfl ?_
      refine sm_T_gr rfl rfl ((hFx15_.2.1 1 0 1 rfl).trans hd_) ?_
      have bx17_ : 0 ≤ S_.1 3 dd_ 5 ∧ S_.1 3 dd_ 5 ≤ 63 := hI_.1 3 dd_ 5 rfl
      refine sm_T_go 6 (c1 := (130, [some (.inr (.inr (some (1, 0)))), some (.inl k_), some (.inl m_), some (.inl f_), some (.inl a_), some (.inl d_), some (.inl sy_), some (.inl j_), some (.inl (2 * (S_.1 3 dd_ 1) + 2 * (S_.1 1 0 9) + 2))], [.inl sy_, .inr (.inr (some (81, 0))), .inl (S_.1 3 dd_ 5), .inr (.inr (some (3, dd_)))], sm_aI (sm_aI S_ 26 0 (vx10_ + j_).toNat (2 * (S_.1 3 dd_ 1) + 2 * (S_.1 1 0 9) + 2)) 46 (0 + dd_) (S_.1 1 0 9).toNat (2 * (S_.1 3 dd_ 1) + 2 * (S_.1 1 0 9) + 2))) rfl ?_
      refine sm_T_iald (n := 640) rfl rfl (by omega) (by omega) ?_
      have bx18_ : 0 ≤ S_.2.2.1 81 0 sy_.toNat ∧ S_.2.2.1 81 0 sy_.toNat ≤ 255 := hI_.2 81 0 _
      refine sm_T_go 1 (c1 := (133, [some (.inr (.inr (some (1, 0)))), some (.inl k_), some (.inl m_), some (.inl f_), some (.inl a_), some (.inl d_), some (.inl sy_), some (.inl j_), some (.inl (2 * (S_.1 3 dd_ 1) + 2 * (S_.1 1 0 9) + 2))], [.inl j_, .inl (S_.2.2.1 81 0 sy_.toNat), .inl (S_.1 3 dd_ 5), .inr (.inr (some (3, dd_)))], sm_aI (sm_aI S_ 26 0 (vx10_ + j_).toNat (2 * (S_.1 3 dd_ 1) + 2 * (S_.1 1 0 9) + 2)) 46 (0 + dd_) (S_.1 1 0 9).toNat (2 * (S_.1 3 dd_ 1) + 2 * (S_.1 1 0 9) + 2))) rfl ?_
      refine sm_T_bin (w := (i_shr (S_.2.2.1 81 0 sy_.toNat) j_)) rfl rfl ?_
      refine sm_T_go 1 (c1 := (135, [some (.inr (.inr (some (1, 0)))), some (.inl k_), some (.inl m_), some (.inl f_), some (.inl a_), some (.inl d_), some (.inl sy_), some (.inl j_), some (.inl (2 * (S_.1 3 dd_ 1) + 2 * (S_.1 1 0 9) + 2))], [.inl 1, .inl (i_shr (S_.2.2.1 81 0 sy_.toNat) j_), .inl (S_.1 3 dd_ 5), .inr (.inr (some (3, dd_)))], sm_aI (sm_aI S_ 26 0 (vx10_ + j_).toNat (2 * (S_.1 3 dd_ 1) + 2 * (S_.1 1 0 9) + 2)) 46 (0 + dd_) (S_.1 1 0 9).toNat (2 * (S_.1 3 dd_ 1) + 2 * (S_.1 1 0 9) + 2))) rfl ?_
      refine sm_T_bin (w := ((i_shr (S_.2.2.1 81 0 sy_.toNat) j_) % 2)) rfl (bi_msk (k := 1) (by decide)) ?_
      refine sm_T_go 2 (c1 := (140, [some (.inr (.inr (some (1, 0)))), some (.inl k_), some (.inl m_), some (.inl f_), some (.inl a_), some (.inl d_), some (.inl sy_), some (.inl j_), some (.inl (2 * (S_.1 3 dd_ 1) + 2 * (S_.1 1 0 9) + 2))], [.inl (S_.1 1 0 9), .inl ((i_shr (S_.2.2.1 81 0 sy_.toNat) j_) % 2), .inl (S_.1 3 dd_ 5), .inr (.inr (some (3, dd_)))], sm_aI (sm_aI S_ 26 0 (vx10_ + j_).toNat (2 * (S_.1 3 dd_ 1) + 2 * (S_.1 1 0 9) + 2)) 46 (0 + dd_) (S_.1 1 0 9).toNat (2 * (S_.1 3 dd_ 1) + 2 * (S_.1 1 0 9) + 2))) rfl ?_
      refine sm_T_bin (w := (i_shl ((i_shr (S_.2.2.1 81 0 sy_.toNat) j_) % 2) (S_.1 1 0 9))) rfl rfl ?_
      have bx19_ := i_shb (x_ := ((i_shr (S_.2.2.1 81 0 sy_.toNat) j_) % 2)) (y_ := (S_.1 1 0 9)) (by omega) (by omega)
      refine sm_T_bin (w := (i_or (S_.1 3 dd_ 5) (i_shl ((i_shr (S_.2.2.1 81 0 sy_.toNat) j_) % 2) (S_.1 1 0 9)))) rfl rfl ?_
      have bx20_ := i_orb (x_ := (S_.1 3 dd_ 5)) (y_ := (i_shl ((i_shr (S_.2.2.1 81 0 sy_.toNat) j_) % 2) (S_.1 1 0 9))) (by omega) (by omega)
      have hIx21_ : gi (sm_pI (sm_aI (sm_aI S_ 26 0 (vx10_ + j_).toNat (2 * (S_.1 3 dd_ 1) + 2 * (S_.1 1 0 9) + 2)) 46 (0 + dd_) (S_.1 1 0 9).toNat (2 * (S_.1 3 dd_ 1) + 2 * (S_.1 1 0 9) + 2)) 3 dd_ 5 (i_or (S_.1 3 dd_ 5) (i_shl ((i_shr (S_.2.2.1 81 0 sy_.toNat) j_) % 2) (S_.1 1 0 9)))) := gi_pI hIx14_ (show 0 ≤ (i_or (S_.1 3 dd_ 5) (i_shl ((i_shr (S_.2.2.1 81 0 sy_.toNat) j_) % 2) (S_.1 1 0 9))) ∧ (i_or (S_.1 3 dd_ 5) (i_shl ((i_shr (S_.2.2.1 81 0 sy_.toNat) j_) % 2) (S_.1 1 0 9))) ≤ 63 from ⟨by omega, by omega⟩)
      have hFx22_ : ai_fr (sx_W vw_38) S0_ (sm_pI (sm_aI (sm_aI S_ 26 0 (vx10_ + j_).toNat (2 * (S_.1 3 dd_ 1) + 2 * (S_.1 1 0 9) + 2)) 46 (0 + dd_) (S_.1 1 0 9).toNat (2 * (S_.1 3 dd_ 1) + 2 * (S_.1 1 0 9) + 2)) 3 dd_ 5 (i_or (S_.1 3 dd_ 5) (i_shl ((i_shr (S_.2.2.1 81 0 sy_.toNat) j_) % 2) (S_.1 1 0 9)))) := ai_fr_tr hFx15_ (ai_fr_pI rfl)
      have hDx23_ : idf dd_ S0_ (sm_pI (sm_aI (sm_aI S_ 26 0 (vx10_ + j_).toNat (2 * (S_.1 3 dd_ 1) + 2 * (S_.1 1 0 9) + 2)) 46 (0 + dd_) (S_.1 1 0 9).toNat (2 * (S_.1 3 dd_ 1) + 2 * (S_.1 1 0 9) + 2)) 3 dd_ 5 (i_or (S_.1 3 dd_ 5) (i_shl ((i_shr (S_.2.2.1 81 0 sy_.toNat) j_) % 2) (S_.1 1 0 9)))) := idf_pI hDx16_ (Or.inr rfl)
      refine sm_T_go 5 (c1 := (151, [some (.inr (.inr (some (1, 0)))), some (.inl k_), some (.inl m_), some (.inl f_), some (.inl a_), some (.inl d_), some (.inl sy_), some (.inl j_), some (.inl (2 * (S_.1 3 dd_ 1) + 2 * (S_.1 1 0 9) + 2))], [.inl 1, .inl (S_.1 1 0 9), .inr (.inr (some (1, 0)))], sm_pI (sm_aI (sm_aI S_ 26 0 (vx10_ + j_).toNat (2 * (S_.1 3 dd_ 1) + 2 * (S_.1 1 0 9) + 2)) 46 (0 + dd_) (S_.1 1 0 9).toNat (2 * (S_.1 3 dd_ 1) + 2 * (S_.1 1 0 9) + 2)) 3 dd_ 5 (i_or (S_.1 3 dd_ 5) (i_shl ((i_shr (S_.2.2.1 81 0 sy_.toNat) j_) % 2) (S_.1 1 0 9))))) rfl ?_
      refine sm_T_bin (w := (S_.1 1 0 9) + 1) rfl (bi_add (by omega) (by omega) (by omega)) ?_
      have hIx24_ : gi (sm_pI (sm_pI (sm_aI (sm_aI S_ 26 0 (vx10_ + j_).toNat (2 * (S_.1 3 dd_ 1) + 2 * (S_.1 1 0 9) + 2)) 46 (0 + dd_) (S_.1 1 0 9).toNat (2 * (S_.1 3 dd_ 1) + 2 * (S_.1 1 0 9) + 2)) 3 dd_ 5 (i_or (S_.1 3 dd_ 5) (i_shl ((i_shr (S_.2.2.1 81 0 sy_.toNat) j_) % 2) (S_.1 1 0 9)))) 1 0 9 ((S_.1 1 0 9) + 1)) := gi_pI hIx21_ (show 0 ≤ (S_.1 1 0 9) + 1 ∧ (S_.1 1 0 9) + 1 ≤ 6 from ⟨by omega, by omega⟩)
      have hFx25_ : ai_fr (sx_W vw_38) S0_ (sm_pI (sm_pI (sm_aI (sm_aI S_ 26 0 (vx10_ + j_).toNat (2 * (S_.1 3 dd_ 1) + 2 * (S_.1 1 0 9) + 2)) 46 (0 + dd_) (S_.1 1 0 9).toNat (2 * (S_.1 3 dd_ 1) + 2 * (S_.1 1 0 9) + 2)) 3 dd_ 5 (i_or (S_.1 3 dd_ 5) (i_shl ((i_shr (S_.2.2.1 81 0 sy_.toNat) j_) % 2) (S_.1 1 0 9)))) 1 0 9 ((S_.1 1 0 9) + 1)) := ai_fr_tr hFx22_ (ai_fr_pI rfl)
      have hDx26_ : idf dd_ S0_ (sm_pI (sm_pI (sm_aI (sm_aI S_ 26 0 (vx10_ + j_).toNat (2 * (S_.1 3 dd_ 1) + 2 * (S_.1 1 0 9) + 2)) 46 (0 + dd_) (S_.1 1 0 9).toNat (2 * (S_.1 3 dd_ 1) + 2 * (S_.1 1 0 9) + 2)) 3 dd_ 5 (i_or (S_.1 3 dd_ 5) (i_shl ((i_shr (S_.2.2.1 81 0 sy_.toNat) j_) % 2) (S_.1 1 0 9)))) 1 0 9 ((S_.1 1 0 9) + 1)) := idf_pI hDx23_ (Or.inl (by decide))
      refine sm_T_go 1 (c1 := (155, [some (.inr (.inr (some (1, 0)))), some (.inl k_), some (.inl m_), some (.inl f_), some (.inl a_), some (.inl d_), some (.inl sy_), some (.inl j_), some (.inl (2 * (S_.1 3 dd_ 1) + 2 * (S_.1 1 0 9) + 2))], [], sm_pI (sm_pI (sm_aI (sm_aI S_ 26 0 (vx10_ + j_).toNat (2 * (S_.1 3 dd_ 1) + 2 * (S_.1 1 0 9) + 2)) 46 (0 + dd_) (S_.1 1 0 9).toNat (2 * (S_.1 3 dd_ 1) + 2 * (S_.1 1 0 9) + 2)) 3 dd_ 5 (i_or (S_.1 3 dd_ 5) (i_shl ((i_shr (S_.2.2.1 81 0 sy_.toNat) j_) % 2) (S_.1 1 0 9)))) 1 0 9 ((S_.1 1 0 9) + 1))) rfl ?_
      refine sm_T_inc (a := 7) (z := 1) (v := j_) (w := j_ + 1) rfl rfl (by omega) (by omega) (by omega) ?_
      refine sm_T_go 1 (c1 := (50, [some (.inr (.inr (some (1, 0)))), some (.inl k_), some (.inl m_), some (.inl f_), some (.inl a_), some (.inl d_), some (.inl sy_), some (.inl (j_ + 1)), some (.inl (2 * (S_.1 3 dd_ 1) + 2 * (S_.1 1 0 9) + 2))], [], sm_pI (sm_pI (sm_aI (sm_aI S_ 26 0 (vx10_ + j_).toNat (2 * (S_.1 3 dd_ 1) + 2 * (S_.1 1 0 9) + 2)) 46 (0 + dd_) (S_.1 1 0 9).toNat (2 * (S_.1 3 dd_ 1) + 2 * (S_.1 1 0 9) + 2)) 3 dd_ 5 (i_or (S_.1 3 dd_ 5) (i_shl ((i_shr (S_.2.2.1 81 0 sy_.toNat) j_) % 2) (S_.1 1 0 9)))) 1 0 9 ((S_.1 1 0 9) + 1))) rfl ?_
      refine sm_T_wk [some (.inr (.inr (some (1, 0)))), some (.inl k_), some (.inl m_), some (.inl f_), some (.inl a_), some (.inl d_), some (.inl sy_), some (.inl (j_ + 1)), none] (by exact ⟨rfl, rfl, rfl, rfl, rfl, rfl, rfl, rfl, trivial⟩) ?_
      refine ih_ sy_ (j_ + 1) (sm_pI (sm_pI (sm_aI (sm_aI S_ 26 0 (vx10_ + j_).toNat (2 * (S_.1 3 dd_ 1) + 2 * (S_.1 1 0 9) + 2)) 46 (0 + dd_) (S_.1 1 0 9).toNat (2 * (S_.1 3 dd_ 1) + 2 * (S_.1 1 0 9) + 2)) 3 dd_ 5 (i_or (S_.1 3 dd_ 5) (i_shl ((i_shr (S_.2.2.1 81 0 sy_.toNat) j_) % 2) (S_.1 1 0 9)))) 1 0 9 ((S_.1 1 0 9) + 1)) hIx24_ hFx25_ ⟨?_, ?_, ?_, ?_, ?_, ?_, ?_, ?_, ?_, ?_, trivial⟩ ?_
      · exact hk_
      · omega
      · rw [show (j_ + 1).toNat = j_.toNat + 1 by omega, r_bt_s]
        refine rwv_ap (q_ := 8 * (40 * ff_ + aa_) + j_.toNat) h1_ (by rw [r_bt_l]) (fun j9_ => ?_)
        (try simp only [rd_eq, rd_ne, rf_eq, rf_nk, rf_nt, rd_fa, rd_af, rd_fl, rd_al, rd_lf, rd_la, rd_leq, rd_lne, rd_fr, rd_ar, ne_eq, Nat.reduceEqDiff, not_false_eq_true])
        rw [ec]
        by_cases q9_ : j9_ = 8 * (40 * ff_ + aa_) + j_.toNat
        · rw [if_pos q9_, if_pos q9_]; push_cast; omega
        · rw [if_neg q9_, if_neg q9_]
      · intro j9_ q_
        (try simp only [rd_eq, rd_ne, rf_eq, rf_nk, rf_nt, rd_fa, rd_af, rd_fl, rd_al, rd_lf, rd_la, rd_leq, rd_lne, rd_fr, rd_ar, ne_eq, Nat.reduceEqDiff, not_false_eq_true])
        rw [ec, if_neg (by omega)]
        exact h2_ j9_ q_
      · (try simp only [rd_eq, rd_ne, rf_eq, rf_nk, rf_nt, rd_fa, rd_af, rd_fl, rd_al, rd_lf, rd_la, rd_leq, rd_lne, rd_fr, rd_ar, ne_eq, Nat.reduceEqDiff, not_false_eq_true]); omega
      · (show S_.1 1 0 3 = _; exact h4_)
      · refine ⟨h5_.1, fun j9_ => ?_, fun j9_ => ?_, ?_⟩
        · (try simp only [rd_eq, rd_ne, rf_eq, rf_nk, rf_nt, rd_fa, rd_af, rd_fl, rd_al, rd_lf, rd_la, rd_leq, rd_lne, rd_fr, rd_ar, ne_eq, Nat.reduceEqDiff, not_false_eq_true]); exact h5_.2.1 j9_
        · (try simp only [rd_eq, rd_ne, rf_eq, rf_nk, rf_nt, rd_fa, rd_af, rd_fl, rd_al, rd_lf, rd_la, rd_leq, rd_lne, rd_fr, rd_ar, ne_eq, Nat.reduceEqDiff, not_false_eq_true]); exact h5_.2.2.1 j9_
        · (try simp only [rd_eq, rd_ne, rf_eq, rf_nk, rf_nt, rd_fa, rd_af, rd_fl, rd_al, rd_lf, rd_la, rd_leq, rd_lne, rd_fr, rd_ar, ne_eq, Nat.reduceEqDiff, not_false_eq_true]); exact h5d
      · exact cgl_fr (w_ := ([(1, 9), (3, 5)], [26, 46], [])) h6_ (ai_fr_tr (ai_fr_tr (ai_fr_tr (ai_fr_aI rfl) (ai_fr_aI rfl)) (ai_fr_pI rfl)) (ai_fr_pI rfl)) rfl rfl rfl rfl rfl rfl rfl rfl
      · refine ⟨?_, ?_⟩
        (try simp only [rd_eq, rd_ne, rf_eq, rf_nk, rf_nt, rd_fa, rd_af, rd_fl, rd_al, rd_lf, rd_la, rd_leq, rd_lne, rd_fr, rd_ar, ne_eq, Nat.reduceEqDiff, not_false_eq_true])
        rw [show (j_ + 1).toNat = j_.toNat + 1 by omega, ← Nat.add_assoc, show S_.1 1 0 9 = ((s_.1.2.1 + j_.toNat : Nat) : Int) by omega]
        exact bg_up h7_.1.1 h7_.1.2 (by omega) (by omega)
        intro k9_ hk9_
        have nn_ := cgl_n h6_ hok_
        have q7_ := h7_.2 k9_
        have rF_ : 1 + I_ + (s_.1.2.1 + (A_.2.2.2.1 (40 * mm_ + aa_)).toNat) ≤ F_ := by rw [er] at hRF_; exact hRF_
        (try simp only [rd_eq, rd_ne, rf_eq, rf_nk, rf_nt, rd_fa, rd_af, rd_fl, rd_al, rd_lf, rd_la, rd_leq, rd_lne, rd_fr, rd_ar, ne_eq, Nat.reduceEqDiff, not_false_eq_true])
        by_cases q9_ : k9_ = (S_.1 1 0 9).toNat
        · rw [if_pos q9_, nn_]; push_cast; omega
        · rw [if_neg q9_]; exact q7_ (by omega)
      · exact hDx26_
      · omega
set_option maxHeartbeats 2000000 in
set_option maxRecDepth 20000 in
theorem vc_38 {sc_ : Nat × (Nat → Int)} (k_ : Int) (m_ : Int) (f_ : Int) (a_ : Int) (d_ : Int) (tb_ : Nat → Int) (tn_ : Nat) (A_ : pA) (mm_ : Nat) (ff_ : Nat) (aa_ : Nat) (dd_ : Nat) (F_ : Nat) (I_ : Nat) (s_ : gS) (r_ : gS) (fc0_ : Nat) (S0_ : sm_S) (hI_ : gi S0_) (hI0_ : gi S0_) (hd_ : S0_.2.1 1 0 1 = some dd_) (hk0_ : 12 ≤ k_ ∧ k_ ≤ 16) (hd0_ : 0 ≤ d_ ∧ d_ ≤ 1048576) (hm1_ : m_ = (mm_ : Int) ∧ mm_ ≤ 15) (hf1_ : f_ = (ff_ : Int)) (ha1_ : a_ = (aa_ : Int) ∧ aa_ ≤ 63) (her_ : ∀ k9_, k9_ ≤ mm_ → er1 tb_ tn_ A_ k9_ S0_) (hA_ : a_ok tb_ tn_ A_ mm_) (hx_ : cxs dd_ F_ I_ ff_ fc0_ s_ S0_) (hok_ : s_.1.1.length ≤ 1000) (he_ : e_st I_ A_ mm_ k_ aa_ d_ s_ = some r_) (hlw_ : lwS F_ s_) (hRF_ : 1 + I_ + r_.1.2.1 ≤ F_) : sm_T (mt_P sc_) 1 38 (0, [some (.inr (.inr (some (1, 0)))), some (.inl k_), some (.inl m_), some (.inl f_), some (.inl a_), some (.inl d_), none, none, none], [], S0_) (fun ro9_ => ∃ u_ S1_, ro9_ = (.inl u_, S1_, 0) ∧ vq_38 k_ m_ f_ a_ d_ tb_ tn_ A_ mm_ ff_ aa_ dd_ F_ I_ s_ r_ fc0_ S0_ u_ S1_) := by
  have hF_ : ai_fr (sx_W vw_38) S0_ S0_ := ai_fr_rf
  have hD_ : idf dd_ S0_ S0_ := idf_rf
  obtain ⟨x1_, x2_, x3_, x4_, x5_, x6_, x7_, x8_, x9_⟩ := id hx_
  have x9a := x9_.1
  have cb_ := cgl_b x1_
  have c12_ : 0 ≤ S0_.1 3 dd_ 1 ∧ 0 ≤ S0_.1 3 dd_ 2 := ⟨(hI0_.1 3 dd_ 1 rfl).1, (hI0_.1 3 dd_ 2 rfl).1⟩
  have A40_ := (hA_.2 mm_ (Nat.le_refl _)).1
  have tp9_ := x8_.1
  have tq9_ : S0_.1 1 0 6 ≤ 512 := (hI0_.1 1 0 6 rfl).2
  refine sm_T_go 2 (c1 := (3, [some (.inr (.inr (some (1, 0)))), some (.inl k_), some (.inl m_), some (.inl f_), some (.inl a_), some (.inl d_), none, none, none], [.inl 40, .inl m_], S0_)) rfl ?_
  refine sm_T_bin (w := 40 * m_) rfl (bi_mul (by omega) (by omega) (by omega)) ?_
  refine sm_T_go 1 (c1 := (6, [some (.inr (.inr (some (1, 0)))), some (.inl k_), some (.inl m_), some (.inl f_), some (.inl a_), some (.inl d_), none, none, none], [.inl a_, .inl (40 * m_)], S0_)) rfl ?_
  refine sm_T_bin (w := 40 * m_ + a_) rfl (bi_add (by omega) (by omega) (by omega)) ?_
  refine sm_T_go 3 (c1 := (12, [some (.inr (.inr (some (1, 0)))), some (.inl k_), some (.inl m_), some (.inl f_), some (.inl a_), some (.inl d_), some (.inl (40 * m_ + a_)), none, none], [.inl 15, .inl k_], S0_)) rfl ?_
  refine sm_T_br (a := 1) (z := 29) rfl (fun cx1_ => ?_) (fun cx1_ => ?_)
  · have cx1_ : k_ ≠ 15 := of_decide_eq_true cx1_
    refine sm_T_go 2 (c1 := (44, [some (.inr (.inr (some (1, 0)))), some (.inl k_), some (.inl m_), some (.inl f_), some (.inl a_), some (.inl d_), some (.inl (40 * m_ + a_)), none, none], [.inl 13, .inl k_], S0_)) rfl ?_
    refine sm_T_br (a := 1) (z := 118) rfl (fun cx2_ => ?_) (fun cx2_ => ?_)
    · have cx2_ : k_ ≠ 13 := of_decide_eq_true cx2_
      obtain ⟨aM_, x_, l_, hsV_, hcs_⟩ := e_stp he_ (by omega) (by omega)
      rw [hsV_] at x8_
      have hxl_ : lwl (F_ + s_.1.1.length) x_ := by have q9_ := hlw_.2.2.2; rw [hsV_] at q9_; exact (lwV_c.mp q9_).1
      have x8b : x_.length ≤ 8 := x8_.2.2.1.2
      have tp_ : S0_.1 1 0 6 = (l_.length : Int) + 1 := by rw [x8_.1]; simp only [List.length_cons]; push_cast; omega
      have bx3_ : 0 ≤ S0_.1 1 0 6 ∧ S0_.1 1 0 6 ≤ 512 := hI_.1 1 0 6 rfl
      refine sm_T_go 4 (c1 := (168, [some (.inr (.inr (some (1, 0)))), some (.inl k_), some (.inl m_), some (.inl f_), some (.inl a_), some (.inl d_), some (.inl (40 * m_ + a_)), none, none], [.inl 1, .inl (S0_.1 1 0 6), .inr (.inr (some (1, 0)))], S0_)) rfl ?_
      refine sm_T_bin (w := (S0_.1 1 0 6) - 1) rfl (bi_sub (by omega) (by omega) (by omega)) ?_
      have hIx4_ : gi (sm_pI S0_ 1 0 6 ((S0_.1 1 0 6) - 1)) := gi_pI hI_ (show 0 ≤ (S0_.1 1 0 6) - 1 ∧ (S0_.1 1 0 6) - 1 ≤ 512 from ⟨by omega, by omega⟩)
      have hFx5_ : ai_fr (sx_W vw_38) S0_ (sm_pI S0_ 1 0 6 ((S0_.1 1 0 6) - 1)) := ai_fr_tr hF_ (ai_fr_pI rfl)
      have hDx6_ : idf dd_ S0_ (sm_pI S0_ 1 0 6 ((S0_.1 1 0 6) - 1)) := idf_pI hD_ (Or.inl (by decide))
      refine sm_T_go 3 (c1 := (175, [some (.inr (.inr (some (1, 0)))), some (.inl k_), some (.inl m_), some (.inl f_), some (.inl a_), some (.inl d_), some (.inl (40 * m_ + a_)), none, none], [.inl 14, .inl k_], sm_pI S0_ 1 0 6 ((S0_.1 1 0 6) - 1))) rfl ?_
      refine sm_T_br (a := 1) (z := 63) rfl (fun cx7_ => ?_) (fun cx7_ => ?_)
      · have cx7_ : k_ ≠ 14 := of_decide_eq_true cx7_
        refine sm_T_go 2 (c1 := (241, [some (.inr (.inr (some (1, 0)))), some (.inl k_), some (.inl m_), some (.inl f_), some (.inl a_), some (.inl d_), some (.inl (40 * m_ + a_)), none, none], [.inl 12, .inl k_], sm_pI S0_ 1 0 6 ((S0_.1 1 0 6) - 1))) rfl ?_
        refine sm_T_br (a := 1) (z := 12) rfl (fun cx8_ => ?_) (fun cx8_ => ?_)
        · have cx8_ : k_ ≠ 12 := of_decide_eq_true cx8_
          obtain ⟨hk_, o_, hO_, d40_, xl_, er⟩ : k_ = 16 ∧ ∃ o_, s_.2.2.1 aa_ = some o_ ∧ (0 ≤ d_ ∧ d_ < 40) ∧ x_.length ≤ 8 ∧ r_ = (s_.1, s_.2.1, up1 s_.2.2.1 aa_ (some (up1 o_ d_.toNat x_)), l_) := by rcases hcs_ with q_ | q_ | q_; (exact absurd q_.1 (by omega)); (exact absurd q_.1 (by omega)); (exact q_)
          obtain ⟨xE_, P_, xP_⟩ := id x7_
          have yP_ := xP_ aa_ (by omega) o_ hO_
          have y2_ := yP_.2.1
          have pt_ : S0_.2.2.1 26 0 (8 * (40 * f_ + a_)).toNat = (P_ aa_ : Int) := by rw [show (8 * (40 * f_ + a_)).toNat = 8 * (40 * ff_ + aa_) by omega]; exact yP_.1
          refine sm_T_go 4 (c1 := (260, [some (.inr (.inr (some (1, 0)))), some (.inl k_), some (.inl m_), some (.inl f_), some (.inl a_), some (.inl d_), some (.inl (40 * m_ + a_)), none, none], [.inl a_, .inl f_, .inr (.inr (some (26, 0)))], sm_pI S0_ 1 0 6 ((S0_.1 1 0 6) - 1))) rfl ?_
          refine sm_T_cal (d1 := 0) (Q1 := vq_35 f_ a_ (sm_pI S0_ 1 0 6 ((S0_.1 1 0 6) - 1))) rfl rfl (by decide) (vc_35 f_ a_ (sm_pI S0_ 1 0 6 ((S0_.1 1 0 6) - 1)) hIx4_ (by omega) (by omega)) (fun u_ Sx9_ px12_ => ?_)
          obtain ⟨rfl, vx14_, rfl, px12_⟩ := px12_
          have e260_ := px12_
          have pt2_ : S0_.2.2.1 26 0 vx14_.toNat = (P_ aa_ : Int) := by rw [e260_]; exact pt_
          refine sm_T_iald (n := 64320) rfl rfl (by omega) (by omega) ?_
          have bx15_ : 0 ≤ S0_.2.2.1 26 0 vx14_.toNat ∧ S0_.2.2.1 26 0 vx14_.toNat ≤ 2025 := hI_.2 26 0 _
          refine sm_T_go 1 (c1 := (266, [some (.inr (.inr (some (1, 0)))), some (.inl k_), some (.inl m_), some (.inl f_), some (.inl a_), some (.inl d_), some (.inl (40 * m_ + a_)), none, none], [.inl d_, .inl (S0_.2.2.1 26 0 vx14_.toNat)], sm_pI S0_ 1 0 6 ((S0_.1 1 0 6) - 1))) rfl ?_
          refine sm_T_cal (d1 := 0) (Q1 := vq_35 (S0_.2.2.1 26 0 vx14_.toNat) d_ (sm_pI S0_ 1 0 6 ((S0_.1 1 0 6) - 1))) rfl rfl (by decide) (vc_35 (S0_.2.2.1 26 0 vx14_.toNat) d_ (sm_pI S0_ 1 0 6 ((S0_.1 1 0 6) - 1)) hIx4_ (by omega) (by omega)) (fun u_ Sx16_ px19_ => ?_)
          obtain ⟨rfl, vx21_, rfl, px19_⟩ := px19_
          have e266_ := px19_
          have ec : vx21_.toNat = 8 * (40 * P_ aa_ + d_.toNat) := by rw [e266_, pt2_]; omega
          refine sm_T_go 6 (c1 := (281, [some (.inr (.inr (some (1, 0)))), some (.inl k_), some (.inl m_), some (.inl f_), some (.inl a_), some (.inl d_), some (.inl (40 * m_ + a_)), some (.inl vx21_), none], [.inl 8, .inl ((S0_.1 1 0 6) - 1), .inr (.inr (some (27, 0)))], sm_pI S0_ 1 0 6 ((S0_.1 1 0 6) - 1))) rfl ?_
          refine sm_T_bin (w := 8 * (S0_.1 1 0 6) - 8) rfl (bi_mul (by omega) (by omega) (by omega)) ?_
          refine sm_T_go 4 (c1 := (290, [some (.inr (.inr (some (1, 0)))), some (.inl k_), some (.inl m_), some (.inl f_), some (.inl a_), some (.inl d_), some (.inl (40 * m_ + a_)), some (.inl vx21_), none], [.inl 8, .inl vx21_, .inr (.inr (some (26, 0))), .inl (8 * (S0_.1 1 0 6) - 8), .inr (.inr (some (27, 0)))], sm_pI S0_ 1 0 6 ((S0_.1 1 0 6) - 1))) rfl ?_
          refine sm_T_nt (u := none) (S1 := sm_acI (sm_pI S0_ 1 0 6 ((S0_.1 1 0 6) - 1)) 27 0 26 0 (8 * (S0_.1 1 0 6) - 8).toNat vx21_.toNat (8 : Int).toNat) rfl rfl (nt_acI (sc := sc_) (n := 4096) (n1 := 64320) rfl rfl (by omega) (by omega) (by omega) (by omega) (by omega)) ?_
          have hIx22_ : gi (sm_acI (sm_pI S0_ 1 0 6 ((S0_.1 1 0 6) - 1)) 27 0 26 0 (8 * (S0_.1 1 0 6) - 8).toNat vx21_.toNat (8 : Int).toNat) := gi_ac hIx4_ (by decide) (by decide)
          have hFx23_ : ai_fr (sx_W vw_38) S0_ (sm_acI (sm_pI S0_ 1 0 6 ((S0_.1 1 0 6) - 1)) 27 0 26 0 (8 * (S0_.1 1 0 6) - 8).toNat vx21_.toNat (8 : Int).toNat) := ai_fr_tr hFx5_ (fr_ac rfl)
          have hDx24_ : idf dd_ S0_ (sm_acI (sm_pI S0_ 1 0 6 ((S0_.1 1 0 6) - 1)) 27 0 26 0 (8 * (S0_.1 1 0 6) - 8).toNat vx21_.toNat (8 : Int).toNat) := idf_ac hDx6_ (Or.inl (by decide))
          refine sm_T_rv rfl ⟨_, _, rfl, rfl, hIx22_, hFx23_, ?_⟩
          refine ⟨hDx24_, ?_⟩
          rw [er]
          first | (have f26_ : ((sm_acI (sm_pI S0_ 1 0 6 ((S0_.1 1 0 6) - 1)) 27 0 26 0 (8 * (S0_.1 1 0 6) - 8).toNat vx21_.toNat (8 : Int).toNat)).2.2.1 26 0 = sm_cp (S0_.2.2.1 27 0) (S0_.2.2.1 26 0) (8 * l_.length) (8 * (40 * ff_ + aa_)) 8 := (by rw [← ec, show 8 * l_.length = (8 * S0_.1 1 0 6 - 8).toNat by omega]; exact sm_acI_at); have hl1_ : rwv (S0_.2.2.1 27 0) (8 * l_.length) x_ := x8_.2.2.2.1 hok_; refine ⟨⟨cgl_fr (w_ := ([(1, 6)], [26], [])) x1_ (ai_fr_tr (ai_fr_pI rfl) (fr_ac rfl)) rfl rfl rfl rfl rfl rfl rfl rfl, x2_, x3_, x4_, x5_, x6_, cfr_st x7_ x5_ (by omega) hO_ xl_ (by rw [f26_]; exact rwv_cp hl1_ xl_) (fun j_ q1_ => by rw [f26_, sm_cp_o q1_]), ⟨by show S0_.1 1 0 6 - 1 = (l_.length : Int); omega, svl_pop x8_.2 (fun j_ => congrFun (sm_acI_ne (by omega)) j_) (fun j_ => congrFun (sm_acI_ne (by omega)) j_)⟩, cxe_fr (w_ := ([(1, 6)], [26], [])) x9_ (ai_fr_tr (ai_fr_pI rfl) (fr_ac rfl)) rfl rfl rfl rfl⟩, fun j_ q1_ q2_ => by rw [f26_, sm_cp_o (by omega)]⟩) | (have f26_ : ((sm_acI (sm_pI S0_ 1 0 6 ((S0_.1 1 0 6) - 1)) 27 0 26 0 (8 * (S0_.1 1 0 6) - 8).toNat vx21_.toNat (8 : Int).toNat)).2.2.1 26 0 = sm_cp (S0_.2.2.1 27 0) (S0_.2.2.1 26 0) (8 * l_.length) (8 * (40 * P_ aa_ + d_.toNat)) 8 := (by rw [← ec, show 8 * l_.length = (8 * S0_.1 1 0 6 - 8).toNat by omega]; exact sm_acI_at); have hl1_ : rwv (S0_.2.2.1 27 0) (8 * l_.length) x_ := x8_.2.2.2.1 hok_; refine ⟨⟨cgl_fr (w_ := ([(1, 6)], [26], [])) x1_ (ai_fr_tr (ai_fr_pI rfl) (fr_ac rfl)) rfl rfl rfl rfl rfl rfl rfl rfl, x2_, x3_, x4_, x5_, x6_, cfr_ag (p_ := P_ aa_) x7_ x5_ (by omega) hO_ (by omega) xl_ yP_.1 (by rw [f26_]; exact rwv_cp hl1_ xl_) (fun j_ q1_ => by rw [f26_, sm_cp_o q1_]), ⟨by show S0_.1 1 0 6 - 1 = (l_.length : Int); omega, svl_pop x8_.2 (fun j_ => congrFun (sm_acI_ne (by omega)) j_) (fun j_ => congrFun (sm_acI_ne (by omega)) j_)⟩, cxe_fr (w_ := ([(1, 6)], [26], [])) x9_ (ai_fr_tr (ai_fr_pI rfl) (fr_ac rfl)) rfl rfl rfl rfl⟩, fun j_ q1_ q2_ => by rw [f26_, sm_cp_o (by omega)]⟩) | (have f26_ : ∀ j_, ((sm_acI (sm_pI S0_ 1 0 6 ((S0_.1 1 0 6) - 1)) 27 0 26 0 (8 * (S0_.1 1 0 6) - 8).toNat vx21_.toNat (8 : Int).toNat)).2.2.1 26 0 j_ = S0_.2.2.1 26 0 j_ := (fun j_ => congrFun (sm_acI_ne (by omega)) j_); exact ⟨⟨cgl_fr (w_ := ([(1, 6)], [46], [])) x1_ (ai_fr_tr (ai_fr_pI rfl) (fr_ac rfl)) rfl rfl rfl rfl rfl rfl rfl rfl, x2_, x3_, x4_, x5_, x6_, cfr_cg x7_ f26_, ⟨by show S0_.1 1 0 6 - 1 = (l_.length : Int); omega, svl_pop x8_.2 (fun j_ => congrFun (sm_acI_ne (by omega)) j_) (fun j_ => congrFun (sm_acI_ne (by omega)) j_)⟩, ⟨x9_.1, x9_.2.1, nxb_cp x9_.2.2 rfl sm_acI_at (x_ := x_) (by rw [show (8 * S0_.1 1 0 6 - 8).toNat = 8 * l_.length by omega]; exact x8_.2.2.2.1 hok_) (by omega) (fun z9_ hz9_ => by have q9_ := hxl_ z9_ hz9_; unfold lz at q9_; rw [cgl_n x1_ hok_]; exact q9_)⟩⟩, fun j_ q1_ q2_ => f26_ j_⟩)
        · have cx8_ : ¬ (k_ ≠ 12) := of_decide_eq_false cx8_
          have hk_ : k_ = 12 := by omega
          obtain ⟨hO_, xl_, er⟩ : s_.2.2.1 aa_ = none ∧ x_.length ≤ 8 ∧ r_ = (s_.1, up1 s_.2.1 aa_ x_, s_.2.2.1, l_) := by rcases hcs_ with q_ | q_ | q_; (exact q_.2); (exact absurd q_.1 (by omega)); (exact absurd q_.1 (by omega))
          refine sm_T_go 2 (c1 := (247, [some (.inr (.inr (some (1, 0)))), some (.inl k_), some (.inl m_), some (.inl f_), some (.inl a_), some (.inl d_), some (.inl (40 * m_ + a_)), none, none], [.inl a_, .inl f_], sm_pI S0_ 1 0 6 ((S0_.1 1 0 6) - 1))) rfl ?_
          refine sm_T_cal (d1 := 0) (Q1 := vq_35 f_ a_ (sm_pI S0_ 1 0 6 ((S0_.1 1 0 6) - 1))) rfl rfl (by decide) (vc_35 f_ a_ (sm_pI S0_ 1 0 6 ((S0_.1 1 0 6) - 1)) hIx4_ (by omega) (by omega)) (fun u_ Sx25_ px28_ => ?_)
          obtain ⟨rfl, vx30_, rfl, px28_⟩ := px28_
          have e247_ := px28_
          have ec : vx30_.toNat = 8 * (40 * ff_ + aa_) := by omega
          refine sm_T_go 7 (c1 := (281, [some (.inr (.inr (some (1, 0)))), some (.inl k_), some (.inl m_), some (.inl f_), some (.inl a_), some (.inl d_), some (.inl (40 * m_ + a_)), some (.inl vx30_), none], [.inl 8, .inl ((S0_.1 1 0 6) - 1), .inr (.inr (some (27, 0)))], sm_pI S0_ 1 0 6 ((S0_.1 1 0 6) - 1))) rfl ?_
          refine sm_T_bin (w := 8 * (S0_.1 1 0 6) - 8) rfl (bi_mul (by omega) (by omega) (by omega)) ?_
          refine sm_T_go 4 (c1 := (290, [some (.inr (.inr (some (1, 0)))), some (.inl k_), some (.inl m_), some (.inl f_), some (.inl a_), some (.inl d_), some (.inl (40 * m_ + a_)), some (.inl vx30_), none], [.inl 8, .inl vx30_, .inr (.inr (some (26, 0))), .inl (8 * (S0_.1 1 0 6) - 8), .inr (.inr (some (27, 0)))], sm_pI S0_ 1 0 6 ((S0_.1 1 0 6) - 1))) rfl ?_
          refine sm_T_nt (u := none) (S1 := sm_acI (sm_pI S0_ 1 0 6 ((S0_.1 1 0 6) - 1)) 27 0 26 0 (8 * (S0_.1 1 0 6) - 8).toNat vx30_.toNat (8 : Int).toNat) rfl rfl (nt_acI (sc := sc_) (n := 4096) (n1 := 64320) rfl rfl (by omega) (by omega) (by omega) (by omega) (by omega)) ?_
          have hIx31_ : gi (sm_acI (sm_pI S0_ 1 0 6 ((S0_.1 1 0 6) - 1)) 27 0 26 0 (8 * (S0_.1 1 0 6) - 8).toNat vx30_.toNat (8 : Int).toNat) := gi_ac hIx4_ (by decide) (by decide)
          have hFx32_ : ai_fr (sx_W vw_38) S0_ (sm_acI (sm_pI S0_ 1 0 6 ((S0_.1 1 0 6) - 1)) 27 0 26 0 (8 * (S0_.1 1 0 6) - 8).toNat vx30_.toNat (8 : Int).toNat) := ai_fr_tr hFx5_ (fr_ac rfl)
          have hDx33_ : idf dd_ S0_ (sm_acI (sm_pI S0_ 1 0 6 ((S0_.1 1 0 6) - 1)) 27 0 26 0 (8 * (S0_.1 1 0 6) - 8).toNat vx30_.toNat (8 : Int).toNat) := idf_ac hDx6_ (Or.inl (by decide))
          refine sm_T_rv rfl ⟨_, _, rfl, rfl, hIx31_, hFx32_, ?_⟩
          refine ⟨hDx33_, ?_⟩
          rw [er]
          first | (have f26_ : ((sm_acI (sm_pI S0_ 1 0 6 ((S0_.1 1 0 6) - 1)) 27 0 26 0 (8 * (S0_.1 1 0 6) - 8).toNat vx30_.toNat (8 : Int).toNat)).2.2.1 26 0 = sm_cp (S0_.2.2.1 27 0) (S0_.2.2.1 26 0) (8 * l_.length) (8 * (40 * ff_ + aa_)) 8 := (by rw [← ec, show 8 * l_.length = (8 * S0_.1 1 0 6 - 8).toNat by omega]; exact sm_acI_at); have hl1_ : rwv (S0_.2.2.1 27 0) (8 * l_.length) x_ := x8_.2.2.2.1 hok_; refine ⟨⟨cgl_fr (w_ := ([(1, 6)], [26], [])) x1_ (ai_fr_tr (ai_fr_pI rfl) (fr_ac rfl)) rfl rfl rfl rfl rfl rfl rfl rfl, x2_, x3_, x4_, x5_, x6_, cfr_st x7_ x5_ (by omega) hO_ xl_ (by rw [f26_]; exact rwv_cp hl1_ xl_) (fun j_ q1_ => by rw [f26_, sm_cp_o q1_]), ⟨by show S0_.1 1 0 6 - 1 = (l_.length : Int); omega, svl_pop x8_.2 (fun j_ => congrFun (sm_acI_ne (by omega)) j_) (fun j_ => congrFun (sm_acI_ne (by omega)) j_)⟩, cxe_fr (w_ := ([(1, 6)], [26], [])) x9_ (ai_fr_tr (ai_fr_pI rfl) (fr_ac rfl)) rfl rfl rfl rfl⟩, fun j_ q1_ q2_ => by rw [f26_, sm_cp_o (by omega)]⟩) | (have f26_ : ((sm_acI (sm_pI S0_ 1 0 6 ((S0_.1 1 0 6) - 1)) 27 0 26 0 (8 * (S0_.1 1 0 6) - 8).toNat vx30_.toNat (8 : Int).toNat)).2.2.1 26 0 = sm_cp (S0_.2.2.1 27 0) (S0_.2.2.1 26 0) (8 * l_.length) (8 * (40 * P_ aa_ + d_.toNat)) 8 := (by rw [← ec, show 8 * l_.length = (8 * S0_.1 1 0 6 - 8).toNat by omega]; exact sm_acI_at); have hl1_ : rwv (S0_.2.2.1 27 0) (8 * l_.length) x_ := x8_.2.2.2.1 hok_; refine ⟨⟨cgl_fr (w_ := ([(1, 6)], [26], [])) x1_ (ai_fr_tr (ai_fr_pI rfl) (fr_ac rfl)) rfl rfl rfl rfl rfl rfl rfl rfl, x2_, x3_, x4_, x5_, x6_, cfr_ag (p_ := P_ aa_) x7_ x5_ (by omega) hO_ (by omega) xl_ yP_.1 (by rw [f26_]; exact rwv_cp hl1_ xl_) (fun j_ q1_ => by rw [f26_, sm_cp_o q1_]), ⟨by show S0_.1 1 0 6 - 1 = (l_.length : Int); omega, svl_pop x8_.2 (fun j_ => congrFun (sm_acI_ne (by omega)) j_) (fun j_ => congrFun (sm_acI_ne (by omega)) j_)⟩, cxe_fr (w_ := ([(1, 6)], [26], [])) x9_ (ai_fr_tr (ai_fr_pI rfl) (fr_ac rfl)) rfl rfl rfl rfl⟩, fun j_ q1_ q2_ => by rw [f26_, sm_cp_o (by omega)]⟩) | (have f26_ : ∀ j_, ((sm_acI (sm_pI S0_ 1 0 6 ((S0_.1 1 0 6) - 1)) 27 0 26 0 (8 * (S0_.1 1 0 6) - 8).toNat vx30_.toNat (8 : Int).toNat)).2.2.1 26 0 j_ = S0_.2.2.1 26 0 j_ := (fun j_ => congrFun (sm_acI_ne (by omega)) j_); exact ⟨⟨cgl_fr (w_ := ([(1, 6)], [46], [])) x1_ (ai_fr_tr (ai_fr_pI rfl) (fr_ac rfl)) rfl rfl rfl rfl rfl rfl rfl rfl, x2_, x3_, x4_, x5_, x6_, cfr_cg x7_ f26_, ⟨by show S0_.1 1 0 6 - 1 = (l_.length : Int); omega, svl_pop x8_.2 (fun j_ => congrFun (sm_acI_ne (by omega)) j_) (fun j_ => congrFun (sm_acI_ne (by omega)) j_)⟩, ⟨x9_.1, x9_.2.1, nxb_cp x9_.2.2 rfl sm_acI_at (x_ := x_) (by rw [show (8 * S0_.1 1 0 6 - 8).toNat = 8 * l_.length by omega]; exact x8_.2.2.2.1 hok_) (by omega) (fun z9_ hz9_ => by have q9_ := hxl_ z9_ hz9_; unfold lz at q9_; rw [cgl_n x1_ hok_]; exact q9_)⟩⟩, fun j_ q1_ q2_ => f26_ j_⟩)
      · have cx7_ : ¬ (k_ ≠ 14) := of_decide_eq_false cx7_
        have hk_ : k_ = 14 := by omega
        obtain ⟨z_, y_, hz_, z1_, z2_, er⟩ : ∃ z_ y_, s_.2.1 aa_ = z_ :: y_ ∧ 2 * (1 + (I_ : Int)) ≤ z_ ∧ z_ / 2 - 1 - I_ + x_.length ≤ 6 ∧ r_ = (s_.1, s_.2.1, s_.2.2.1, l_) := by rcases hcs_ with q_ | q_ | q_; (exact absurd q_.1 (by omega)); (exact q_.2); (exact absurd q_.1 (by omega))
        have pz_ : S0_.2.2.1 26 0 (8 * (40 * f_ + a_)).toNat = z_ := by rw [show (8 * (40 * f_ + a_)).toNat = 8 * (40 * ff_ + aa_) + 0 by omega]; exact (x7_.1 aa_ (by omega)).1 0 z_ (by rw [hz_]; rfl)
        have wt : S0_.2.2.1 28 0 (S0_.1 1 0 6 - 1).toNat = (x_.length : Int) := by rw [show (S0_.1 1 0 6 - 1).toNat = l_.length by omega]; exact x8_.2.1
        refine sm_T_go 4 (c1 := (185, [some (.inr (.inr (some (1, 0)))), some (.inl k_), some (.inl m_), some (.inl f_), some (.inl a_), some (.inl d_), some (.inl (40 * m_ + a_)), none, none], [.inl a_, .inl f_, .inr (.inr (some (26, 0)))], sm_pI S0_ 1 0 6 ((S0_.1 1 0 6) - 1))) rfl ?_
        refine sm_T_cal (d1 := 0) (Q1 := vq_35 f_ a_ (sm_pI S0_ 1 0 6 ((S0_.1 1 0 6) - 1))) rfl rfl (by decide) (vc_35 f_ a_ (sm_pI S0_ 1 0 6 ((S0_.1 1 0 6) - 1)) hIx4_ (by omega) (by omega)) (fun u_ Sx34_ px37_ => ?_)
        obtain ⟨rfl, vx39_, rfl, px37_⟩ := px37_
        have e185_ := px37_
        have pz2_ : S0_.2.2.1 26 0 vx39_.toNat = z_ := by rw [e185_]; exact pz_
        refine sm_T_iald (n := 64320) rfl rfl (by omega) (by omega) ?_
        have bx40_ : 0 ≤ S0_.2.2.1 26 0 vx39_.toNat ∧ S0_.2.2.1 26 0 vx39_.toNat ≤ 2025 := hI_.2 26 0 _
        refine sm_T_go 1 (c1 := (190, [some (.inr (.inr (some (1, 0)))), some (.inl k_), some (.inl m_), some (.inl f_), some (.inl a_), some (.inl d_), some (.inl (40 * m_ + a_)), none, none], [.inl 1, .inl (S0_.2.2.1 26 0 vx39_.toNat)], sm_pI S0_ 1 0 6 ((S0_.1 1 0 6) - 1))) rfl ?_
        refine sm_T_bin (w := ((S0_.2.2.1 26 0 vx39_.toNat) / 2)) rfl (bi_shr (k := 1) (by decide) (by omega) (by omega)) ?_
        refine sm_T_go 1 (c1 := (192, [some (.inr (.inr (some (1, 0)))), some (.inl k_), some (.inl m_), some (.inl f_), some (.inl a_), some (.inl d_), some (.inl (40 * m_ + a_)), none, none], [.inl 1, .inl ((S0_.2.2.1 26 0 vx39_.toNat) / 2)], sm_pI S0_ 1 0 6 ((S0_.1 1 0 6) - 1))) rfl ?_
        refine sm_T_bin (w := ((S0_.2.2.1 26 0 vx39_.toNat) / 2) - 1) rfl (bi_sub (by omega) (by omega) (by omega)) ?_
        refine sm_T_go 1 (c1 := (194, [some (.inr (.inr (some (1, 0)))), some (.inl k_), some (.inl m_), some (.inl f_), some (.inl a_), some (.inl d_), some (.inl (40 * m_ + a_)), none, none], [.inr (.inr (some (1, 0))), .inl (((S0_.2.2.1 26 0 vx39_.toNat) / 2) - 1)], sm_pI S0_ 1 0 6 ((S0_.1 1 0 6) - 1))) rfl ?_
        refine sm_T_gr rfl rfl ((hFx5_.2.1 1 0 1 rfl).trans hd_) ?_
        have bx41_ : 0 ≤ S0_.1 3 dd_ 1 ∧ S0_.1 3 dd_ 1 ≤ 320 := hI_.1 3 dd_ 1 rfl
        refine sm_T_go 1 (c1 := (200, [some (.inr (.inr (some (1, 0)))), some (.inl k_), some (.inl m_), some (.inl f_), some (.inl a_), some (.inl d_), some (.inl (40 * m_ + a_)), none, none], [.inl (S0_.1 3 dd_ 1), .inl (((S0_.2.2.1 26 0 vx39_.toNat) / 2) - 1)], sm_pI S0_ 1 0 6 ((S0_.1 1 0 6) - 1))) rfl ?_
        refine sm_T_bin (w := ((S0_.2.2.1 26 0 vx39_.toNat) / 2) - (S0_.1 3 dd_ 1) - 1) rfl (bi_sub (by omega) (by omega) (by omega)) ?_
        refine sm_T_go 6 (c1 := (213, [some (.inr (.inr (some (1, 0)))), some (.inl k_), some (.inl m_), some (.inl f_), some (.inl a_), some (.inl d_), some (.inl (40 * m_ + a_)), some (.inl (((S0_.2.2.1 26 0 vx39_.toNat) / 2) - (S0_.1 3 dd_ 1) - 1)), none], [.inl 8, .inl ((S0_.1 1 0 6) - 1), .inr (.inr (some (27, 0)))], sm_pI S0_ 1 0 6 ((S0_.1 1 0 6) - 1))) rfl ?_
        refine sm_T_bin (w := 8 * (S0_.1 1 0 6) - 8) rfl (bi_mul (by omega) (by omega) (by omega)) ?_
        refine sm_T_go 1 (c1 := (215, [some (.inr (.inr (some (1, 0)))), some (.inl k_), some (.inl m_), some (.inl f_), some (.inl a_), some (.inl d_), some (.inl (40 * m_ + a_)), some (.inl (((S0_.2.2.1 26 0 vx39_.toNat) / 2) - (S0_.1 3 dd_ 1) - 1)), none], [.inr (.inr (some (1, 0))), .inl (8 * (S0_.1 1 0 6) - 8), .inr (.inr (some (27, 0)))], sm_pI S0_ 1 0 6 ((S0_.1 1 0 6) - 1))) rfl ?_
        refine sm_T_gr rfl rfl ((hFx5_.2.1 1 0 1 rfl).trans hd_) ?_
        refine sm_T_go 6 (c1 := (231, [some (.inr (.inr (some (1, 0)))), some (.inl k_), some (.inl m_), some (.inl f_), some (.inl a_), some (.inl d_), some (.inl (40 * m_ + a_)), some (.inl (((S0_.2.2.1 26 0 vx39_.toNat) / 2) - (S0_.1 3 dd_ 1) - 1)), none], [.inl ((S0_.1 1 0 6) - 1), .inr (.inr (some (28, 0))), .inl (((S0_.2.2.1 26 0 vx39_.toNat) / 2) - (S0_.1 3 dd_ 1) - 1), .inr (.inr (some (46, (0 + dd_)))), .inl (8 * (S0_.1 1 0 6) - 8), .inr (.inr (some (27, 0)))], sm_pI S0_ 1 0 6 ((S0_.1 1 0 6) - 1))) rfl ?_
        refine sm_T_iald (n := 512) rfl rfl (by omega) (by omega) ?_
        have bx42_ : 0 ≤ S0_.2.2.1 28 0 ((S0_.1 1 0 6) - 1).toNat ∧ S0_.2.2.1 28 0 ((S0_.1 1 0 6) - 1).toNat ≤ 8 := hI_.2 28 0 _
        refine sm_T_go 0 (c1 := (232, [some (.inr (.inr (some (1, 0)))), some (.inl k_), some (.inl m_), some (.inl f_), some (.inl a_), some (.inl d_), some (.inl (40 * m_ + a_)), some (.inl (((S0_.2.2.1 26 0 vx39_.toNat) / 2) - (S0_.1 3 dd_ 1) - 1)), none], [.inl (S0_.2.2.1 28 0 ((S0_.1 1 0 6) - 1).toNat), .inl (((S0_.2.2.1 26 0 vx39_.toNat) / 2) - (S0_.1 3 dd_ 1) - 1), .inr (.inr (some (46, (0 + dd_)))), .inl (8 * (S0_.1 1 0 6) - 8), .inr (.inr (some (27, 0)))], sm_pI S0_ 1 0 6 ((S0_.1 1 0 6) - 1))) rfl ?_
        refine sm_T_nt (u := none) (S1 := sm_acI (sm_pI S0_ 1 0 6 ((S0_.1 1 0 6) - 1)) 27 0 46 (0 + dd_) (8 * (S0_.1 1 0 6) - 8).toNat (((S0_.2.2.1 26 0 vx39_.toNat) / 2) - (S0_.1 3 dd_ 1) - 1).toNat (S0_.2.2.1 28 0 ((S0_.1 1 0 6) - 1).toNat).toNat) rfl rfl (nt_acI (sc := sc_) (n := 4096) (n1 := 6) rfl rfl (by omega) (by omega) (by omega) (by omega) (by omega)) ?_
        have hIx43_ : gi (sm_acI (sm_pI S0_ 1 0 6 ((S0_.1 1 0 6) - 1)) 27 0 46 (0 + dd_) (8 * (S0_.1 1 0 6) - 8).toNat (((S0_.2.2.1 26 0 vx39_.toNat) / 2) - (S0_.1 3 dd_ 1) - 1).toNat (S0_.2.2.1 28 0 ((S0_.1 1 0 6) - 1).toNat).toNat) := gi_ac hIx4_ (by decide) (by decide)
        have hFx44_ : ai_fr (sx_W vw_38) S0_ (sm_acI (sm_pI S0_ 1 0 6 ((S0_.1 1 0 6) - 1)) 27 0 46 (0 + dd_) (8 * (S0_.1 1 0 6) - 8).toNat (((S0_.2.2.1 26 0 vx39_.toNat) / 2) - (S0_.1 3 dd_ 1) - 1).toNat (S0_.2.2.1 28 0 ((S0_.1 1 0 6) - 1).toNat).toNat) := ai_fr_tr hFx5_ (fr_ac rfl)
        have hDx45_ : idf dd_ S0_ (sm_acI (sm_pI S0_ 1 0 6 ((S0_.1 1 0 6) - 1)) 27 0 46 (0 + dd_) (8 * (S0_.1 1 0 6) - 8).toNat (((S0_.2.2.1 26 0 vx39_.toNat) / 2) - (S0_.1 3 dd_ 1) - 1).toNat (S0_.2.2.1 28 0 ((S0_.1 1 0 6) - 1).toNat).toNat) := idf_ac hDx6_ (Or.inr rfl)
        refine sm_T_go 1 (c1 := (293, [some (.inr (.inr (some (1, 0)))), some (.inl k_), some (.inl m_), some (.inl f_), some (.inl a_), some (.inl d_), some (.inl (40 * m_ + a_)), some (.inl (((S0_.2.2.1 26 0 vx39_.toNat) / 2) - (S0_.1 3 dd_ 1) - 1)), none], [], sm_acI (sm_pI S0_ 1 0 6 ((S0_.1 1 0 6) - 1)) 27 0 46 (0 + dd_) (8 * (S0_.1 1 0 6) - 8).toNat (((S0_.2.2.1 26 0 vx39_.toNat) / 2) - (S0_.1 3 dd_ 1) - 1).toNat (S0_.2.2.1 28 0 ((S0_.1 1 0 6) - 1).toNat).toNat)) rfl ?_
        refine sm_T_rv rfl ⟨_, _, rfl, rfl, hIx43_, hFx44_, ?_⟩
        refine ⟨hDx45_, ?_⟩
        rw [er]
        first | (have f26_ : ((sm_acI (sm_pI S0_ 1 0 6 ((S0_.1 1 0 6) - 1)) 27 0 46 (0 + dd_) (8 * (S0_.1 1 0 6) - 8).toNat (((S0_.2.2.1 26 0 vx39_.toNat) / 2) - (S0_.1 3 dd_ 1) - 1).toNat (S0_.2.2.1 28 0 ((S0_.1 1 0 6) - 1).toNat).toNat)).2.2.1 26 0 = sm_cp (S0_.2.2.1 27 0) (S0_.2.2.1 26 0) (8 * l_.length) (8 * (40 * ff_ + aa_)) 8 := (by rw [← ec, show 8 * l_.length = (8 * S0_.1 1 0 6 - 8).toNat by omega]; exact sm_acI_at); have hl1_ : rwv (S0_.2.2.1 27 0) (8 * l_.length) x_ := x8_.2.2.2.1 hok_; refine ⟨⟨cgl_fr (w_ := ([(1, 6)], [26], [])) x1_ (ai_fr_tr (ai_fr_pI rfl) (fr_ac rfl)) rfl rfl rfl rfl rfl rfl rfl rfl, x2_, x3_, x4_, x5_, x6_, cfr_st x7_ x5_ (by omega) hO_ xl_ (by rw [f26_]; exact rwv_cp hl1_ xl_) (fun j_ q1_ => by rw [f26_, sm_cp_o q1_]), ⟨by show S0_.1 1 0 6 - 1 = (l_.length : Int); omega, svl_pop x8_.2 (fun j_ => congrFun (sm_acI_ne (by omega)) j_) (fun j_ => congrFun (sm_acI_ne (by omega)) j_)⟩, cxe_fr (w_ := ([(1, 6)], [26], [])) x9_ (ai_fr_tr (ai_fr_pI rfl) (fr_ac rfl)) rfl rfl rfl rfl⟩, fun j_ q1_ q2_ => by rw [f26_, sm_cp_o (by omega)]⟩) | (have f26_ : ((sm_acI (sm_pI S0_ 1 0 6 ((S0_.1 1 0 6) - 1)) 27 0 46 (0 + dd_) (8 * (S0_.1 1 0 6) - 8).toNat (((S0_.2.2.1 26 0 vx39_.toNat) / 2) - (S0_.1 3 dd_ 1) - 1).toNat (S0_.2.2.1 28 0 ((S0_.1 1 0 6) - 1).toNat).toNat)).2.2.1 26 0 = sm_cp (S0_.2.2.1 27 0) (S0_.2.2.1 26 0) (8 * l_.length) (8 * (40 * P_ aa_ + d_.toNat)) 8 := (by rw [← ec, show 8 * l_.length = (8 * S0_.1 1 0 6 - 8).toNat by omega]; exact sm_acI_at); have hl1_ : rwv (S0_.2.2.1 27 0) (8 * l_.length) x_ := x8_.2.2.2.1 hok_; refine ⟨⟨cgl_fr (w_ := ([(1, 6)], [26], [])) x1_ (ai_fr_tr (ai_fr_pI rfl) (fr_ac rfl)) rfl rfl rfl rfl rfl rfl rfl rfl, x2_, x3_, x4_, x5_, x6_, cfr_ag (p_ := P_ aa_) x7_ x5_ (by omega) hO_ (by omega) xl_ yP_.1 (by rw [f26_]; exact rwv_cp hl1_ xl_) (fun j_ q1_ => by rw [f26_, sm_cp_o q1_]), ⟨by show S0_.1 1 0 6 - 1 = (l_.length : Int); omega, svl_pop x8_.2 (fun j_ => congrFun (sm_acI_ne (by omega)) j_) (fun j_ => congrFun (sm_acI_ne (by omega)) j_)⟩, cxe_fr (w_ := ([(1, 6)], [26], [])) x9_ (ai_fr_tr (ai_fr_pI rfl) (fr_ac rfl)) rfl rfl rfl rfl⟩, fun j_ q1_ q2_ => by rw [f26_, sm_cp_o (by omega)]⟩) | (have f26_ : ∀ j_, ((sm_acI (sm_pI S0_ 1 0 6 ((S0_.1 1 0 6) - 1)) 27 0 46 (0 + dd_) (8 * (S0_.1 1 0 6) - 8).toNat (((S0_.2.2.1 26 0 vx39_.toNat) / 2) - (S0_.1 3 dd_ 1) - 1).toNat (S0_.2.2.1 28 0 ((S0_.1 1 0 6) - 1).toNat).toNat)).2.2.1 26 0 j_ = S0_.2.2.1 26 0 j_ := (fun j_ => congrFun (sm_acI_ne (by omega)) j_); exact ⟨⟨cgl_fr (w_ := ([(1, 6)], [46], [])) x1_ (ai_fr_tr (ai_fr_pI rfl) (fr_ac rfl)) rfl rfl rfl rfl rfl rfl rfl rfl, x2_, x3_, x4_, x5_, x6_, cfr_cg x7_ f26_, ⟨by show S0_.1 1 0 6 - 1 = (l_.length : Int); omega, svl_pop x8_.2 (fun j_ => congrFun (sm_acI_ne (by omega)) j_) (fun j_ => congrFun (sm_acI_ne (by omega)) j_)⟩, ⟨x9_.1, x9_.2.1, nxb_cp x9_.2.2 rfl sm_acI_at (x_ := x_) (by rw [show (8 * S0_.1 1 0 6 - 8).toNat = 8 * l_.length by omega]; exact x8_.2.2.2.1 hok_) (by omega) (fun z9_ hz9_ => by have q9_ := hxl_ z9_ hz9_; unfold lz at q9_; rw [cgl_n x1_ hok_]; exact q9_)⟩⟩, fun j_ q1_ q2_ => f26_ j_⟩)
    · have cx2_ : ¬ (k_ ≠ 13) := of_decide_eq_false cx2_
      have hk_ : k_ = 13 := by omega
      obtain ⟨aM_, hO_, w1_, w8_, r6_, er⟩ := e_st13 (show e_st I_ A_ mm_ 13 aa_ d_ s_ = some r_ by rw [← hk_]; exact he_)
      refine sm_T_go 2 (c1 := (50, [some (.inr (.inr (some (1, 0)))), some (.inl k_), some (.inl m_), some (.inl f_), some (.inl a_), some (.inl d_), some (.inl (40 * m_ + a_)), some (.inl 0), none], [], S0_)) rfl ?_
      refine (vl_38 k_ m_ f_ a_ d_ tb_ tn_ A_ mm_ ff_ aa_ dd_ F_ I_ s_ r_ fc0_ S0_ hI0_ hd_ hk0_ hd0_ hm1_ hf1_ ha1_ her_ hA_ hx_ hok_ he_ hlw_ hRF_ _) (40 * m_ + a_) 0 S0_ hI_ hF_ ⟨?_, ?_, ?_, ?_, ?_, ?_, ?_, ?_, ?_, ?_, trivial⟩ (Nat.lt_succ_self _)
      · exact hk_
      · omega
      · (intro k9_ z9_ e9_; simp [r_bt] at e9_)
      · (intro j9_ q_; rfl)
      · omega
      · exact x3_
      · exact ⟨rfl, fun j9_ => rfl, fun j9_ => rfl, x9_.1⟩
      · exact x1_
      · exact x9_.2
      · exact hD_
  · have cx1_ : ¬ (k_ ≠ 15) := of_decide_eq_false cx1_
    have hk_ : k_ = 15 := by omega
    obtain ⟨aM_, c200_, hE_, hO_, er⟩ := e_st15 (show e_st I_ A_ mm_ 15 aa_ d_ s_ = some r_ by rw [← hk_]; exact he_)
    refine sm_T_go 4 (c1 := (22, [some (.inr (.inr (some (1, 0)))), some (.inl k_), some (.inl m_), some (.inl f_), some (.inl a_), some (.inl d_), some (.inl (40 * m_ + a_)), none, none], [.inl a_, .inl f_, .inr (.inr (some (26, 0)))], S0_)) rfl ?_
    refine sm_T_cal (d1 := 0) (Q1 := vq_35 f_ a_ S0_) rfl rfl (by decide) (vc_35 f_ a_ S0_ hI_ (by omega) (by omega)) (fun u_ Sx46_ px49_ => ?_)
    obtain ⟨rfl, vx51_, rfl, px49_⟩ := px49_
    have e22_ := px49_
    have ec : vx51_.toNat = 8 * (40 * ff_ + aa_) := by omega
    have bx52_ : 0 ≤ S0_.1 1 0 3 ∧ S0_.1 1 0 3 ≤ 201 := hI_.1 1 0 3 rfl
    refine sm_T_go 2 (c1 := (29, [some (.inr (.inr (some (1, 0)))), some (.inl k_), some (.inl m_), some (.inl f_), some (.inl a_), some (.inl d_), some (.inl (40 * m_ + a_)), none, none], [.inl (S0_.1 1 0 3), .inl vx51_, .inr (.inr (some (26, 0)))], S0_)) rfl ?_
    refine sm_T_iast (n := 64320) rfl rfl (by omega) (by omega) ?_
    have hIx53_ : gi (sm_aI S0_ 26 0 vx51_.toNat (S0_.1 1 0 3)) := gi_aI hI_ (show 0 ≤ (S0_.1 1 0 3) ∧ (S0_.1 1 0 3) ≤ 2025 from ⟨by omega, by omega⟩)
    have hFx54_ : ai_fr (sx_W vw_38) S0_ (sm_aI S0_ 26 0 vx51_.toNat (S0_.1 1 0 3)) := ai_fr_tr hF_ (ai_fr_aI rfl)
    have hDx55_ : idf dd_ S0_ (sm_aI S0_ 26 0 vx51_.toNat (S0_.1 1 0 3)) := idf_aI hD_ (Or.inl (by decide))
    refine sm_T_go 4 (c1 := (36, [some (.inr (.inr (some (1, 0)))), some (.inl k_), some (.inl m_), some (.inl f_), some (.inl a_), some (.inl d_), some (.inl (40 * m_ + a_)), none, none], [.inl 1, .inl (S0_.1 1 0 3), .inr (.inr (some (1, 0)))], sm_aI S0_ 26 0 vx51_.toNat (S0_.1 1 0 3))) rfl ?_
    refine sm_T_bin (w := (S0_.1 1 0 3) + 1) rfl (bi_add (by omega) (by omega) (by omega)) ?_
    have hIx56_ : gi (sm_pI (sm_aI S0_ 26 0 vx51_.toNat (S0_.1 1 0 3)) 1 0 3 ((S0_.1 1 0 3) + 1)) := gi_pI hIx53_ (show 0 ≤ (S0_.1 1 0 3) + 1 ∧ (S0_.1 1 0 3) + 1 ≤ 201 from ⟨by omega, by omega⟩)
    have hFx57_ : ai_fr (sx_W vw_38) S0_ (sm_pI (sm_aI S0_ 26 0 vx51_.toNat (S0_.1 1 0 3)) 1 0 3 ((S0_.1 1 0 3) + 1)) := ai_fr_tr hFx54_ (ai_fr_pI rfl)
    have hDx58_ : idf dd_ S0_ (sm_pI (sm_aI S0_ 26 0 vx51_.toNat (S0_.1 1 0 3)) 1 0 3 ((S0_.1 1 0 3) + 1)) := idf_pI hDx55_ (Or.inl (by decide))
    refine sm_T_go 1 (c1 := (40, [some (.inr (.inr (some (1, 0)))), some (.inl k_), some (.inl m_), some (.inl f_), some (.inl a_), some (.inl d_), some (.inl (40 * m_ + a_)), none, none], [], sm_pI (sm_aI S0_ 26 0 vx51_.toNat (S0_.1 1 0 3)) 1 0 3 ((S0_.1 1 0 3) + 1))) rfl ?_
    refine sm_T_rv rfl ⟨_, _, rfl, rfl, hIx56_, hFx57_, ?_⟩
    refine ⟨hDx58_, ?_⟩
    rw [er]
    have g26_ : ∀ j_, ((sm_pI (sm_aI S0_ 26 0 vx51_.toNat (S0_.1 1 0 3)) 1 0 3 ((S0_.1 1 0 3) + 1))).2.2.1 26 0 j_ = if j_ = 8 * (40 * ff_ + aa_) then (s_.1.2.2 : Int) else S0_.2.2.1 26 0 j_ := fun j_ => by (try simp only [rd_eq, rd_ne, rf_eq, rf_nk, rf_nt, rd_fa, rd_af, rd_fl, rd_al, rd_lf, rd_la, rd_leq, rd_lne, rd_fr, rd_ar, ne_eq, Nat.reduceEqDiff, not_false_eq_true]); rw [ec, x3_]
    refine ⟨⟨cgl_fr (w_ := ([(1, 3)], [26], [])) x1_ (ai_fr_tr (ai_fr_aI rfl) (ai_fr_pI rfl)) rfl rfl rfl rfl rfl rfl rfl rfl, x2_, ?_, by show s_.1.2.2 + 1 ≤ 201; omega, x5_, by show fc0_ ≤ s_.1.2.2 + 1; omega, cfr_bg x7_ x5_ x6_ (by omega) hE_ hO_ g26_, x8_, cxe_fr (w_ := ([(1, 3)], [26], [])) x9_ (ai_fr_tr (ai_fr_aI rfl) (ai_fr_pI rfl)) rfl rfl rfl rfl⟩, fun j_ h1_ h2_ => ?_⟩
    · rw [rf_eq, x3_]; push_cast; rfl
    · rw [g26_, if_neg (by omega)]
end
/-! 99.zb7a -/
section
/-! the class: executing; written by wip/p55/gen/vg -/

/-! executing -/
theorem rwv_tl {st_ : Nat → Int} {p_ : Nat} {w_ : Int} {c_ : List Int} (h_ : rwv st_ p_ (w_ :: c_)) : rwv st_ (p_ + 1) c_ := by
  intro k_ z_ e_
  rw [show p_ + 1 + k_ = p_ + (k_ + 1) by omega]
  exact h_ (k_ + 1) z_ (by rw [List.getElem?_cons_succ]; exact e_)
def ccd (C_ : Nat → List Int) (mm_ : Nat) (S_ : sm_S) : Prop := ∀ k_, k_ ≤ mm_ → ∃ p_ : Nat, S_.2.2.1 76 0 k_ = (p_ : Int) ∧ S_.2.2.1 76 0 (k_ + 1) = ((p_ + (C_ k_).length : Nat) : Int) ∧ p_ + (C_ k_).length ≤ 65536 ∧ rwv (S_.2.2.1 74 0) p_ (C_ k_)
theorem ccd_fr {w_ : sx_Wl} {C_ : Nat → List Int} {m_ k_ : Nat} {S_ S'_ : sm_S} (h_ : ccd C_ m_ S_) (hk_ : k_ ≤ m_) (g_ : ai_fr (sx_W w_) S_ S'_) (h1_ : (sx_W w_).2.1 74 = false) (h2_ : (sx_W w_).2.1 76 = false) : ccd C_ k_ S'_ := by
  intro j_ hj_
  rw [fr_arr (t := 76) g_ h2_, fr_arr (t := 74) g_ h1_]
  exact h_ j_ (by omega)
theorem cgl_big {dd_ F_ : Nat} {G_ H_ : pGr} {S_ : sm_S} (h_ : cgl dd_ F_ G_ S_) (h1_ : 1000 < G_.length) (h2_ : 1000 < H_.length) : cgl dd_ F_ H_ S_ := by
  obtain ⟨G1_, x_, y_⟩ := h_
  rcases y_ with y_ | y_
  · omega
  · exact ⟨G1_, x_, Or.inr ⟨h2_, y_.2⟩⟩
def cxo (dd_ f_ : Nat) (q_ : gQ) (r_ : gQ × gE) (S_ : sm_S) : Prop := cxb dd_ r_.1.2.1 S_ ∧ S_.1 1 0 9 = (r_.1.2.1 : Int) ∧ S_.1 1 0 3 = (r_.1.2.2 : Int) ∧ r_.1.2.2 ≤ 201 ∧ q_.2.2 ≤ r_.1.2.2 ∧ S_.1 1 0 6 = 0 ∧ ∀ s_, s_ < 40 → rwv (S_.2.2.1 26 0) (8 * (40 * f_ + s_)) (r_.2 s_) ∧ (r_.2 s_).length ≤ 8
theorem cxs_cl {dd_ F_ I_ p_ : Nat} {s_ : gS} {o_ : Nat → List Int} {S_ : sm_S} {f_ fc0_ a_ : Nat} (h_ : cxs dd_ F_ I_ f_ fc0_ s_ S_) (hV_ : s_.2.2.2 = []) (ha_ : a_ < 40) (hO_ : s_.2.2.1 a_ = some o_) (hp_ : S_.2.2.1 26 0 (8 * (40 * f_ + a_)) = (p_ : Int)) : cxs dd_ F_ I_ p_ s_.1.2.2 (s_.1, o_, fun _ => none, []) S_ ∧ fc0_ ≤ p_ ∧ p_ < s_.1.2.2 := by
  obtain ⟨x1_, x2_, x3_, x4_, x5_, x6_, ⟨xE_, P_, xP_⟩, x8_, x9_⟩ := h_
  have y_ := xP_ a_ ha_ o_ hO_
  have py_ : p_ = P_ a_ := by have := y_.1; omega
  subst py_
  rw [hV_] at x8_
  exact ⟨⟨x1_, x2_, x3_, x4_, y_.2.1.2, Nat.le_refl _, ⟨fun t_ ht_ => y_.2.2.2 t_ ht_, fun _ => 0, fun a1_ _ o1_ ho1_ => by cases ho1_⟩, x8_, x9_⟩, y_.2.1⟩
theorem cxs_ba {dd_ F_ I_ p_ : Nat} {s_ : gS} {z_ : gQ × gE} {o_ : Nat → List Int} {S_ S1_ : sm_S} {f_ fc0_ a_ : Nat} (h_ : cxs dd_ F_ I_ f_ fc0_ s_ S_) (ha_ : a_ < 40) (hO_ : s_.2.2.1 a_ = some o_) (hp_ : S_.2.2.1 26 0 (8 * (40 * f_ + a_)) = (p_ : Int)) (h1_ : cgl dd_ F_ z_.1.1 S1_) (h2_ : cxo dd_ p_ s_.1 z_ S1_) (h3_ : fun_ p_ s_.1.2.2 (S_.2.2.1 26 0) (S1_.2.2.1 26 0)) (h4_ : S1_.1 3 dd_ 1 = S_.1 3 dd_ 1) : cxs dd_ F_ I_ f_ fc0_ (z_.1, s_.2.1, up1 s_.2.2.1 a_ (some z_.2), []) S1_ := by
  obtain ⟨x1_, x2_, x3_, x4_, x5_, x6_, x7_, x8_, x9_⟩ := h_
  obtain ⟨y0_, y1_, y2_, y3_, y4_, y5_, y6_⟩ := h2_
  exact ⟨h1_, y1_, y2_, y3_, x5_, Nat.le_trans x6_ y4_, cfr_cl x7_ x5_ ha_ hO_ hp_ y4_ y6_ h3_ x6_, ⟨y5_, trivial⟩, ⟨h4_.trans x9_.1, y0_⟩⟩
theorem fun_tr {f_ fc0_ : Nat} {g_ h_ k_ : Nat → Int} (h1_ : fun_ f_ fc0_ g_ h_) (h2_ : fun_ f_ fc0_ h_ k_) : fun_ f_ fc0_ g_ k_ := fun j_ q1_ q2_ => (h2_ j_ q1_ q2_).trans (h1_ j_ q1_ q2_)
end
/-! 99.zb7b -/
section
/-! Builder.execute -/
def vw_36 : sx_Wl := ([(1, 3), (1, 6), (1, 8), (1, 9), (3, 4), (3, 5)], [26, 27, 28, 29, 42, 43, 46], [])
def vq_36 (m_ : Int) (f_ : Int) (dp_ : Int) (tb_ : Nat → Int) (tn_ : Nat) (A_ : pA) (C_ : Nat → List Int) (mm_ : Nat) (ff_ : Nat) (dd_ : Nat) (F_ : Nat) (I_ : Nat) (q_ : gQ) (e_ : gE) (r_ : gQ × gE) (nf_ : Nat) (S0_ : sm_S) (u_ : Option sm_V) (S1_ : sm_S) : Prop := u_ = none ∧ gi S1_ ∧ ai_fr (sx_W vw_36) S0_ S1_ ∧ (idf dd_ S0_ S1_ ∧ (cgl dd_ F_ r_.1.1 S1_ ∧ (imq (r_.1.1.length ≤ 1000) (cxo dd_ ff_ q_ r_ S1_ ∧ fun_ ff_ q_.2.2 (S0_.2.2.1 26 0) (S1_.2.2.1 26 0)))))
set_option maxHeartbeats 2000000 in
theorem vl_36 {sc_ : Nat × (Nat → Int)} (m_ : Int) (f_ : Int) (dp_ : Int) (tb_ : Nat → Int) (tn_ : Nat) (A_ : pA) (C_ : Nat → List Int) (mm_ : Nat) (ff_ : Nat) (dd_ : Nat) (F_ : Nat) (I_ : Nat) (q_ : gQ) (e_ : gE) (r_ : gQ × gE) (nf_ : Nat) (S0_ : sm_S) (hI0_ : gi S0_) (hd_ : S0_.2.1 1 0 1 = some dd_) (hm1_ : m_ = (mm_ : Int) ∧ mm_ ≤ 15) (hf1_ : f_ = (ff_ : Int)) (hdp_ : 0 ≤ dp_ ∧ dp_ + mm_ ≤ 15) (her_ : ∀ k9_, k9_ ≤ mm_ → er1 tb_ tn_ A_ k9_ S0_) (hA_ : a_ok tb_ tn_ A_ mm_) (hC_ : ccd C_ mm_ S0_) (hx_ : cxs dd_ F_ I_ ff_ q_.2.2 (q_, e_, fun _ => none, []) S0_) (hok_ : q_.1.length ≤ 1000) (hRF_ : 1 + I_ + r_.1.2.1 ≤ F_) (hG_ : gwf F_ q_.1) (hlw_ : ∀ a9_, lwl (F_ + q_.1.length) (e_ a9_)) (he_ : exm F_ I_ A_ C_ (nf_ + 1) mm_ q_ e_ = some r_) (ihx_ : ∀ (m_ f_ dp_ : Int) (tb_ : Nat → Int) (tn_ : Nat) (A_ : pA) (C_ : Nat → List Int) (mm_ : Nat) (ff_ : Nat) (dd_ : Nat) (F_ : Nat) (I_ : Nat) (q_ : gQ) (e_ : gE) (r_ : gQ × gE) (nz : Nat) (S0_ : sm_S) (hI_ : gi S0_) (hI0_ : gi S0_) (hd_ : S0_.2.1 1 0 1 = some dd_) (hm1_ : m_ = (mm_ : Int) ∧ mm_ ≤ 15) (hf1_ : f_ = (ff_ : Int)) (hdp_ : 0 ≤ dp_ ∧ dp_ + mm_ ≤ 15) (her_ : ∀ k9_, k9_ ≤ mm_ → er1 tb_ tn_ A_ k9_ S0_) (hA_ : a_ok tb_ tn_ A_ mm_) (hC_ : ccd C_ mm_ S0_) (hx_ : cxs dd_ F_ I_ ff_ q_.2.2 (q_, e_, fun _ => none, []) S0_) (hok_ : q_.1.length ≤ 1000) (hRF_ : 1 + I_ + r_.1.2.1 ≤ F_) (hG_ : gwf F_ q_.1) (hlw_ : ∀ a9_, lwl (F_ + q_.1.length) (e_ a9_)) (he_ : exm F_ I_ A_ C_ nf_ mm_ q_ e_ = some r_), sm_T (mt_P sc_) (nf_ + 10) 36 (0, [some (.inr (.inr (some (1, 0)))), some (.inl m_), some (.inl f_), some (.inl dp_), none, none, none, none, none, none], [], S0_) (fun r9_ => ∃ u_ S1_, r9_ = (.inl u_, S1_, 0) ∧ vq_36 m_ f_ dp_ tb_ tn_ A_ C_ mm_ ff_ dd_ F_ I_ q_ e_ r_ nz S0_ u_ S1_)) : ∀ nn_ : Nat, (∀ (to_ : Int) (pc_ : Int) (S_ : sm_S), gi S_ → ai_fr (sx_W vw_36) S0_ S_ → ((0 ≤ pc_ ∧ pc_ ≤ to_ ∧ to_ ≤ 65536) ∧ (∃ (s_ s9_ : gS) (c_ : List Int), ec F_ I_ A_ (exm F_ I_ A_ C_ nf_) mm_ c_ s_ = some s9_ ∧ s9_.2.2.2 = [] ∧ r_ = (s9_.1, s9_.2.1) ∧ pc_ + c_.length = to_ ∧ rwv (S0_.2.2.1 74 0) pc_.toNat c_ ∧ cgl dd_ F_ s_.1.1 S_ ∧ (imq (s_.1.1.length ≤ 1000) (cxs dd_ F_ I_ ff_ q_.2.2 s_ S_ ∧ fun_ ff_ q_.2.2 (S0_.2.2.1 26 0) (S_.2.2.1 26 0) ∧ lwS F_ s_))) ∧ (idf dd_ S0_ S_) ∧ True) → ((to_ - pc_).toNat) < nn_ → sm_T (mt_P sc_) (nf_ + 1 + 10) 36 (24, [some (.inr (.inr (some (1, 0)))), some (.inl m_), some (.inl f_), some (.inl dp_), some (.inl to_), some (.inl pc_), none, none, none, none], [], S_) (fun ro9_ => ∃ u_ S1_, ro9_ = (.inl u_, S1_, 0) ∧ vq_36 m_ f_ dp_ tb_ tn_ A_ C_ mm_ ff_ dd_ F_ I_ q_ e_ r_ nf_ S0_ u_ S1_)) := by
  intro nn_
  induction nn_ with
  | zero => exact fun _ _ _ _ _ _ h_ => absurd h_ (Nat.not_lt_zero _)
  | succ nn_ ih_ =>
    rintro to_ pc_ S_ hI_ hF_ ⟨h0_, h1_, hD_, -⟩ hm_
    obtain ⟨s_, s9_, c_, z1_, z2_, z3_, z4_, z5_, z6_, z7_⟩ := h1_
    refine sm_T_go 2 (c1 := (28, [some (.inr (.inr (some (1, 0)))), some (.inl m_), some (.inl f_), some (.inl dp_), some (.inl to_), some (.inl pc_), none, none, none, none], [.inl to_, .inl pc_], S_)) rfl ?_
    refine sm_T_br (a := 3) (z := 137) rfl (fun cx1_ => ?_) (fun cx1_ => ?_)
    · have cx1_ : to_ ≤ pc_ := of_decide_eq_true cx1_
      refine sm_T_rv rfl ⟨_, _, rfl, rfl, hI_, hF_, ?_⟩
      refine ⟨hD_, ?_⟩
      first | (have c0_ : c_ = [] := List.eq_nil_of_length_eq_zero (by omega); subst c0_; have es9_ : s_ = s9_ := Option.some.inj z1_; subst es9_; rw [z3_]; refine ⟨z6_, fun z9_ => ?_⟩; obtain ⟨cx_, cf_, -⟩ := z7_ z9_; refine ⟨⟨cx_.2.2.2.2.2.2.2.2.2, cx_.2.1, cx_.2.2.1, cx_.2.2.2.1, cx_.2.2.2.2.2.1, ?_, cx_.2.2.2.2.2.2.1.1⟩, cf_⟩; have q9_ := cx_.2.2.2.2.2.2.2.1.1; rw [z2_] at q9_; exact q9_) | (have nok_ : 1000 < s_.1.1.length := (by by_cases z9_ : s_.1.1.length ≤ 1000; (exact absurd ((cgl_f z6_).1.mpr z9_) (by omega)); omega); have le9_ := ec_le (fun d9_ q9_ e9_ x9_ => exm_le nf_ d9_ q9_ e9_ x9_) c_ s_ s9_ z1_; rw [z3_]; refine ⟨cgl_big z6_ nok_ (by show 1000 < s9_.1.1.length; omega), fun z9_ => absurd z9_ (by show ¬ s9_.1.1.length ≤ 1000; omega)⟩)
    · have cx1_ : ¬ (to_ ≤ pc_) := of_decide_eq_false cx1_
      have bx2_ : 0 ≤ S_.1 1 0 8 ∧ S_.1 1 0 8 ≤ 1 := hI_.1 1 0 8 rfl
      refine sm_T_go 2 (c1 := (35, [some (.inr (.inr (some (1, 0)))), some (.inl m_), some (.inl f_), some (.inl dp_), some (.inl to_), some (.inl pc_), none, none, none, none], [.inl (S_.1 1 0 8)], S_)) rfl ?_
      refine sm_T_b0 (a := 1) (z := 130) rfl (fun cx3_ => ?_) (fun cx3_ => ?_)
      · have cx3_ : (S_.1 1 0 8) ≠ 0 := of_decide_eq_true cx3_
        refine sm_T_rv rfl ⟨_, _, rfl, rfl, hI_, hF_, ?_⟩
        refine ⟨hD_, ?_⟩
        first | (have c0_ : c_ = [] := List.eq_nil_of_length_eq_zero (by omega); subst c0_; have es9_ : s_ = s9_ := Option.some.inj z1_; subst es9_; rw [z3_]; refine ⟨z6_, fun z9_ => ?_⟩; obtain ⟨cx_, cf_, -⟩ := z7_ z9_; refine ⟨⟨cx_.2.2.2.2.2.2.2.2.2, cx_.2.1, cx_.2.2.1, cx_.2.2.2.1, cx_.2.2.2.2.2.1, ?_, cx_.2.2.2.2.2.2.1.1⟩, cf_⟩; have q9_ := cx_.2.2.2.2.2.2.2.1.1; rw [z2_] at q9_; exact q9_) | (have nok_ : 1000 < s_.1.1.length := (by by_cases z9_ : s_.1.1.length ≤ 1000; (exact absurd ((cgl_f z6_).1.mpr z9_) (by omega)); omega); have le9_ := ec_le (fun d9_ q9_ e9_ x9_ => exm_le nf_ d9_ q9_ e9_ x9_) c_ s_ s9_ z1_; rw [z3_]; refine ⟨cgl_big z6_ nok_ (by show 1000 < s9_.1.1.length; omega), fun z9_ => absurd z9_ (by show ¬ s9_.1.1.length ≤ 1000; omega)⟩)
      · have cx3_ : ¬ ((S_.1 1 0 8) ≠ 0) := of_decide_eq_false cx3_
        obtain ⟨w_, c_, rfl⟩ : ∃ w_ c1_, c_ = w_ :: c1_ := by cases c_ with | nil => (simp only [List.length_nil] at z4_; omega) | cons p9_ q9_ => exact ⟨p9_, q9_, rfl⟩
        have hw_ : S_.2.2.1 74 0 pc_.toNat = w_ := by rw [fr_arr (t := 74) (i := 0) hF_ rfl]; exact z5_ 0 w_ rfl
        have sok_ : s_.1.1.length ≤ 1000 := (cgl_f z6_).1.mp (by omega)
        obtain ⟨cx_, cf_, cl_⟩ := z7_ sok_
        obtain ⟨s1_, hew_, hec_⟩ : ∃ s1_, ew F_ I_ A_ (exm F_ I_ A_ C_ nf_) mm_ w_ s_ = some s1_ ∧ ec F_ I_ A_ (exm F_ I_ A_ C_ nf_) mm_ c_ s1_ = some s9_ := by rw [ec] at z1_; (split at z1_); (rename_i s1_ q1_; exact ⟨s1_, q1_, z1_⟩); (cases z1_)
        rw [← hw_] at hew_
        have F13_ := (cgl_b z6_).2
        have R9_ := ec_R (exm_w nf_) c_ s1_ s9_ hec_
        have R8_ : 1 + I_ + s9_.1.2.1 ≤ F_ := by rw [z3_] at hRF_; exact hRF_
        have lw1_ : s1_.1.1.length ≤ 1000 → lwS F_ s1_ := fun q9_ => ew_w (exm_w nf_) hew_ (by omega) (by omega) cl_
        have z4b : pc_ + 1 + c_.length = to_ := by simp only [List.length_cons] at z4_; push_cast at z4_; omega
        have cx8_ := cx_.2.2.2.2.2.2.2.1
        have A40_ := (hA_.2 mm_ (Nat.le_refl _)).1
        have her1_ : ∀ k9_, k9_ ≤ mm_ → er1 tb_ tn_ A_ k9_ S_ := fun k9_ h9_ => er1_fr (her_ k9_ h9_) hF_ rfl rfl rfl rfl rfl
        refine sm_T_go 4 (c1 := (47, [some (.inr (.inr (some (1, 0)))), some (.inl m_), some (.inl f_), some (.inl dp_), some (.inl to_), some (.inl pc_), none, none, none, none], [.inl pc_, .inr (.inr (some (74, 0)))], S_)) rfl ?_
        refine sm_T_iald (n := 65536) rfl rfl (by omega) (by omega) ?_
        have bx4_ : 0 ≤ S_.2.2.1 74 0 pc_.toNat ∧ S_.2.2.1 74 0 pc_.toNat ≤ 2147483647 := hI_.2 74 0 _
        refine sm_T_go 3 (c1 := (54, [some (.inr (.inr (some (1, 0)))), some (.inl m_), some (.inl f_), some (.inl dp_), some (.inl to_), some (.inl pc_), some (.inl (S_.2.2.1 74 0 pc_.toNat)), none, none, none], [.inl 31, .inl (S_.2.2.1 74 0 pc_.toNat)], S_)) rfl ?_
        refine sm_T_bin (w := ((S_.2.2.1 74 0 pc_.toNat) % 32)) rfl (bi_msk (k := 5) (by decide)) ?_
        refine sm_T_go 3 (c1 := (60, [some (.inr (.inr (some (1, 0)))), some (.inl m_), some (.inl f_), some (.inl dp_), some (.inl to_), some (.inl pc_), some (.inl (S_.2.2.1 74 0 pc_.toNat)), some (.inl ((S_.2.2.1 74 0 pc_.toNat) % 32)), none, none], [.inl 5, .inl (S_.2.2.1 74 0 pc_.toNat)], S_)) rfl ?_
        refine sm_T_bin (w := ((S_.2.2.1 74 0 pc_.toNat) / 32)) rfl (bi_shr (k := 5) (by decide) (by omega) (by omega)) ?_
        refine sm_T_go 1 (c1 := (63, [some (.inr (.inr (some (1, 0)))), some (.inl m_), some (.inl f_), some (.inl dp_), some (.inl to_), some (.inl pc_), some (.inl (S_.2.2.1 74 0 pc_.toNat)), some (.inl ((S_.2.2.1 74 0 pc_.toNat) % 32)), none, none], [.inl 63, .inl ((S_.2.2.1 74 0 pc_.toNat) / 32)], S_)) rfl ?_
        refine sm_T_bin (w := (((S_.2.2.1 74 0 pc_.toNat) / 32) % 64)) rfl (bi_msk (k := 6) (by decide)) ?_
        refine sm_T_go 3 (c1 := (70, [some (.inr (.inr (some (1, 0)))), some (.inl m_), some (.inl f_), some (.inl dp_), some (.inl to_), some (.inl pc_), some (.inl (S_.2.2.1 74 0 pc_.toNat)), some (.inl ((S_.2.2.1 74 0 pc_.toNat) % 32)), some (.inl (((S_.2.2.1 74 0 pc_.toNat) / 32) % 64)), none], [.inl 11, .inl (S_.2.2.1 74 0 pc_.toNat)], S_)) rfl ?_
        refine sm_T_bin (w := ((S_.2.2.1 74 0 pc_.toNat) / 2048)) rfl (bi_shr (k := 11) (by decide) (by omega) (by omega)) ?_
        refine sm_T_go 3 (c1 := (77, [some (.inr (.inr (some (1, 0)))), some (.inl m_), some (.inl f_), some (.inl dp_), some (.inl to_), some (.inl pc_), some (.inl (S_.2.2.1 74 0 pc_.toNat)), some (.inl ((S_.2.2.1 74 0 pc_.toNat) % 32)), some (.inl (((S_.2.2.1 74 0 pc_.toNat) / 32) % 64)), some (.inl ((S_.2.2.1 74 0 pc_.toNat) / 2048))], [.inl 17, .inl ((S_.2.2.1 74 0 pc_.toNat) % 32)], S_)) rfl ?_
        refine sm_T_br (a := 1) (z := 32) rfl (fun cx5_ => ?_) (fun cx5_ => ?_)
        · have cx5_ : ((S_.2.2.1 74 0 pc_.toNat) % 32) ≠ 17 := of_decide_eq_true cx5_
          refine sm_T_go 2 (c1 := (113, [some (.inr (.inr (some (1, 0)))), some (.inl m_), some (.inl f_), some (.inl dp_), some (.inl to_), some (.inl pc_), some (.inl (S_.2.2.1 74 0 pc_.toNat)), some (.inl ((S_.2.2.1 74 0 pc_.toNat) % 32)), some (.inl (((S_.2.2.1 74 0 pc_.toNat) / 32) % 64)), some (.inl ((S_.2.2.1 74 0 pc_.toNat) / 2048))], [.inl 7, .inl ((S_.2.2.1 74 0 pc_.toNat) % 32)], S_)) rfl ?_
          refine sm_T_br (a := 4) (z := 12) rfl (fun cx6_ => ?_) (fun cx6_ => ?_)
          · have cx6_ : 7 < ((S_.2.2.1 74 0 pc_.toNat) % 32) := of_decide_eq_true cx6_
            refine sm_T_go 2 (c1 := (129, [some (.inr (.inr (some (1, 0)))), some (.inl m_), some (.inl f_), some (.inl dp_), some (.inl to_), some (.inl pc_), some (.inl (S_.2.2.1 74 0 pc_.toNat)), some (.inl ((S_.2.2.1 74 0 pc_.toNat) % 32)), some (.inl (((S_.2.2.1 74 0 pc_.toNat) / 32) % 64)), some (.inl ((S_.2.2.1 74 0 pc_.toNat) / 2048))], [.inl 11, .inl ((S_.2.2.1 74 0 pc_.toNat) % 32)], S_)) rfl ?_
            refine sm_T_br (a := 4) (z := 18) rfl (fun cx7_ => ?_) (fun cx7_ => ?_)
            · have cx7_ : 11 < ((S_.2.2.1 74 0 pc_.toNat) % 32) := of_decide_eq_true cx7_
              have ho_ := ew_s hew_ (by omega) (by omega)
              have hk16_ := e_st_k ho_
              refine sm_T_go 6 (c1 := (156, [some (.inr (.inr (some (1, 0)))), some (.inl m_), some (.inl f_), some (.inl dp_), some (.inl to_), some (.inl pc_), some (.inl (S_.2.2.1 74 0 pc_.toNat)), some (.inl ((S_.2.2.1 74 0 pc_.toNat) % 32)), some (.inl (((S_.2.2.1 74 0 pc_.toNat) / 32) % 64)), some (.inl ((S_.2.2.1 74 0 pc_.toNat) / 2048))], [.inl ((S_.2.2.1 74 0 pc_.toNat) / 2048), .inl (((S_.2.2.1 74 0 pc_.toNat) / 32) % 64), .inl f_, .inl m_, .inl ((S_.2.2.1 74 0 pc_.toNat) % 32), .inr (.inr (some (1, 0)))], S_)) rfl ?_
              refine sm_T_cal (d1 := 1) (Q1 := vq_38 ((S_.2.2.1 74 0 pc_.toNat) % 32) m_ f_ (((S_.2.2.1 74 0 pc_.toNat) / 32) % 64) ((S_.2.2.1 74 0 pc_.toNat) / 2048) tb_ tn_ A_ mm_ ff_ (S_.2.2.1 74 0 pc_.toNat / 32 % 64).toNat dd_ F_ I_ s_ s1_ q_.2.2 S_) rfl rfl (by omega) (vc_38 ((S_.2.2.1 74 0 pc_.toNat) % 32) m_ f_ (((S_.2.2.1 74 0 pc_.toNat) / 32) % 64) ((S_.2.2.1 74 0 pc_.toNat) / 2048) tb_ tn_ A_ mm_ ff_ (S_.2.2.1 74 0 pc_.toNat / 32 % 64).toNat dd_ F_ I_ s_ s1_ q_.2.2 S_ hI_ (by exact hI_) (by exact cgl_d z6_) (by omega) (by omega) (by exact hm1_) (by exact hf1_) (by omega) (by exact her1_) (by exact hA_) (by exact cx_) (by exact sok_) (by exact ho_) (by exact cl_) (by omega)) (fun u_ Sx8_ px11_ => ?_)
              obtain ⟨rfl, hIx9_, hFx10_, px11_⟩ := px11_
              have hFx12_ : ai_fr (sx_W vw_36) S0_ Sx8_ := ai_fr_tr hF_ (fr_le hFx10_ rfl)
              obtain ⟨dx14_, px11_⟩ := px11_
              have hDx13_ : idf dd_ S0_ Sx8_ := idf_tr hD_ dx14_
              have ex15_ : Sx8_.1 1 0 8 = S_.1 1 0 8 := hFx10_.1 1 0 8 rfl
              have e156_ := px11_
              have new_ : cgl dd_ F_ s1_.1.1 Sx8_ ∧ (imq (s1_.1.1.length ≤ 1000) (cxs dd_ F_ I_ ff_ q_.2.2 s1_ Sx8_ ∧ fun_ ff_ q_.2.2 (S0_.2.2.1 26 0) (Sx8_.2.2.1 26 0) ∧ lwS F_ s1_)) := ⟨e156_.1.1, fun z9_ => ⟨e156_.1, fun_tr cf_ e156_.2, lw1_ z9_⟩⟩
              refine sm_T_inc (a := 5) (z := 1) (v := pc_) (w := pc_ + 1) rfl rfl (by omega) (by omega) (by omega) ?_
              refine sm_T_go 1 (c1 := (24, [some (.inr (.inr (some (1, 0)))), some (.inl m_), some (.inl f_), some (.inl dp_), some (.inl to_), some (.inl (pc_ + 1)), some (.inl (S_.2.2.1 74 0 pc_.toNat)), some (.inl ((S_.2.2.1 74 0 pc_.toNat) % 32)), some (.inl (((S_.2.2.1 74 0 pc_.toNat) / 32) % 64)), some (.inl ((S_.2.2.1 74 0 pc_.toNat) / 2048))], [], Sx8_)) rfl ?_
              refine sm_T_wk [some (.inr (.inr (some (1, 0)))), some (.inl m_), some (.inl f_), some (.inl dp_), some (.inl to_), some (.inl (pc_ + 1)), none, none, none, none] (by exact ⟨rfl, rfl, rfl, rfl, rfl, rfl, trivial⟩) ?_
              refine ih_ to_ (pc_ + 1) Sx8_ hIx9_ hFx12_ ⟨?_, ?_, ?_, trivial⟩ ?_
              · omega
              · exact ⟨s1_, s9_, c_, hec_, z2_, z3_, z4b, by rw [show (pc_ + 1).toNat = pc_.toNat + 1 by omega]; exact rwv_tl z5_, new_.1, new_.2⟩
              · exact hDx13_
              · omega
            · have cx7_ : ¬ (11 < ((S_.2.2.1 74 0 pc_.toNat) % 32)) := of_decide_eq_false cx7_
              obtain ⟨z_, ho_, es_⟩ := ew_l hew_ (by omega) (by omega) (by omega)
              refine sm_T_go 6 (c1 := (141, [some (.inr (.inr (some (1, 0)))), some (.inl m_), some (.inl f_), some (.inl dp_), some (.inl to_), some (.inl pc_), some (.inl (S_.2.2.1 74 0 pc_.toNat)), some (.inl ((S_.2.2.1 74 0 pc_.toNat) % 32)), some (.inl (((S_.2.2.1 74 0 pc_.toNat) / 32) % 64)), some (.inl ((S_.2.2.1 74 0 pc_.toNat) / 2048))], [.inl ((S_.2.2.1 74 0 pc_.toNat) / 2048), .inl (((S_.2.2.1 74 0 pc_.toNat) / 32) % 64), .inl f_, .inl m_, .inl ((S_.2.2.1 74 0 pc_.toNat) % 32), .inr (.inr (some (1, 0)))], S_)) rfl ?_
              refine sm_T_cal (d1 := 1) (Q1 := vq_37 ((S_.2.2.1 74 0 pc_.toNat) % 32) m_ f_ (((S_.2.2.1 74 0 pc_.toNat) / 32) % 64) ((S_.2.2.1 74 0 pc_.toNat) / 2048) tb_ tn_ A_ mm_ ff_ (S_.2.2.1 74 0 pc_.toNat / 32 % 64).toNat s_.1.1 s_.2.1 s_.2.2.1 s_.2.2.2 z_ q_.2.2 s_.1.2.2 S_) rfl rfl (by omega) (vc_37 ((S_.2.2.1 74 0 pc_.toNat) % 32) m_ f_ (((S_.2.2.1 74 0 pc_.toNat) / 32) % 64) ((S_.2.2.1 74 0 pc_.toNat) / 2048) tb_ tn_ A_ mm_ ff_ (S_.2.2.1 74 0 pc_.toNat / 32 % 64).toNat s_.1.1 s_.2.1 s_.2.2.1 s_.2.2.2 z_ q_.2.2 s_.1.2.2 S_ hI_ (by exact hI_) (by omega) (by omega) (by exact hm1_) (by (have c4_ := cx_.2.2.2.1); (have c5_ := cx_.2.2.2.2.1); (have c6_ := cx_.2.2.2.2.2.1); omega) (by omega) (by exact her1_) (by exact hA_) (by exact cx_.2.2.2.2.2.2.1) (by exact cx8_) (by exact sok_) (by exact ho_)) (fun u_ Sx16_ px19_ => ?_)
              obtain ⟨rfl, hIx17_, hFx18_, px19_⟩ := px19_
              have hFx20_ : ai_fr (sx_W vw_36) S0_ Sx16_ := ai_fr_tr hF_ (fr_le hFx18_ rfl)
              have hDx21_ : idf dd_ S0_ Sx16_ := idf_tr hD_ (idf_fr hFx18_ (by decide) (by decide))
              have ex22_ : Sx16_.1 1 0 8 = S_.1 1 0 8 := hFx18_.1 1 0 8 rfl
              have e141_ := px19_
              have g141_ := cgl_fr z6_ hFx18_ rfl rfl rfl rfl rfl rfl rfl rfl
              have new_ : cgl dd_ F_ s1_.1.1 Sx16_ ∧ (imq (s1_.1.1.length ≤ 1000) (cxs dd_ F_ I_ ff_ q_.2.2 s1_ Sx16_ ∧ fun_ ff_ q_.2.2 (S0_.2.2.1 26 0) (Sx16_.2.2.1 26 0) ∧ lwS F_ s1_)) := by rw [es_]; refine ⟨g141_, fun z9_ => ⟨⟨g141_, (hFx18_.1 1 0 9 rfl).trans cx_.2.1, (hFx18_.1 1 0 3 rfl).trans cx_.2.2.1, cx_.2.2.2.1, cx_.2.2.2.2.1, cx_.2.2.2.2.2.1, by rw [fr_arr (t := 26) (i := 0) hFx18_ rfl]; exact cx_.2.2.2.2.2.2.1, e141_, cxe_fr cx_.2.2.2.2.2.2.2.2 hFx18_ rfl rfl rfl rfl⟩, by rw [fr_arr (t := 26) (i := 0) hFx18_ rfl]; exact cf_, by rw [← es_]; exact lw1_ (by rw [es_]; exact z9_)⟩⟩
              refine sm_T_go 1 (c1 := (159, [some (.inr (.inr (some (1, 0)))), some (.inl m_), some (.inl f_), some (.inl dp_), some (.inl to_), some (.inl pc_), some (.inl (S_.2.2.1 74 0 pc_.toNat)), some (.inl ((S_.2.2.1 74 0 pc_.toNat) % 32)), some (.inl (((S_.2.2.1 74 0 pc_.toNat) / 32) % 64)), some (.inl ((S_.2.2.1 74 0 pc_.toNat) / 2048))], [], Sx16_)) rfl ?_
              refine sm_T_inc (a := 5) (z := 1) (v := pc_) (w := pc_ + 1) rfl rfl (by omega) (by omega) (by omega) ?_
              refine sm_T_go 1 (c1 := (24, [some (.inr (.inr (some (1, 0)))), some (.inl m_), some (.inl f_), some (.inl dp_), some (.inl to_), some (.inl (pc_ + 1)), some (.inl (S_.2.2.1 74 0 pc_.toNat)), some (.inl ((S_.2.2.1 74 0 pc_.toNat) % 32)), some (.inl (((S_.2.2.1 74 0 pc_.toNat) / 32) % 64)), some (.inl ((S_.2.2.1 74 0 pc_.toNat) / 2048))], [], Sx16_)) rfl ?_
              refine sm_T_wk [some (.inr (.inr (some (1, 0)))), some (.inl m_), some (.inl f_), some (.inl dp_), some (.inl to_), some (.inl (pc_ + 1)), none, none, none, none] (by exact ⟨rfl, rfl, rfl, rfl, rfl, rfl, trivial⟩) ?_
              refine ih_ to_ (pc_ + 1) Sx16_ hIx17_ hFx20_ ⟨?_, ?_, ?_, trivial⟩ ?_
              · omega
              · exact ⟨s1_, s9_, c_, hec_, z2_, z3_, z4b, by rw [show (pc_ + 1).toNat = pc_.toNat + 1 by omega]; exact rwv_tl z5_, new_.1, new_.2⟩
              · exact hDx21_
              · omega
          · have cx6_ : ¬ (7 < ((S_.2.2.1 74 0 pc_.toNat) % 32)) := of_decide_eq_false cx6_
            obtain ⟨z_, ho_, es_⟩ := ew_o hew_ (by omega) (by omega)
            refine sm_T_go 2 (c1 := (119, [some (.inr (.inr (some (1, 0)))), some (.inl m_), some (.inl f_), some (.inl dp_), some (.inl to_), some (.inl pc_), some (.inl (S_.2.2.1 74 0 pc_.toNat)), some (.inl ((S_.2.2.1 74 0 pc_.toNat) % 32)), some (.inl (((S_.2.2.1 74 0 pc_.toNat) / 32) % 64)), some (.inl ((S_.2.2.1 74 0 pc_.toNat) / 2048))], [.inl ((S_.2.2.1 74 0 pc_.toNat) % 32), .inr (.inr (some (1, 0)))], S_)) rfl ?_
            refine sm_T_cal (d1 := 4) (Q1 := vq_39 ((S_.2.2.1 74 0 pc_.toNat) % 32) dd_ F_ s_.1.1 s_.2.2.2 z_ S_) rfl rfl (by omega) (vc_39 ((S_.2.2.1 74 0 pc_.toNat) % 32) dd_ F_ s_.1.1 s_.2.2.2 z_ S_ hI_ (by exact hI_) (by exact cgl_d z6_) (by exact z6_) (by exact cx8_) (by exact ho_)) (fun u_ Sx23_ px26_ => ?_)
            obtain ⟨rfl, hIx24_, hFx25_, px26_⟩ := px26_
            have hFx27_ : ai_fr (sx_W vw_36) S0_ Sx23_ := ai_fr_tr hF_ (fr_le hFx25_ rfl)
            obtain ⟨dx29_, px26_⟩ := px26_
            have hDx28_ : idf dd_ S0_ Sx23_ := idf_tr hD_ dx29_
            have e119_ := px26_
            have new_ : cgl dd_ F_ s1_.1.1 Sx23_ ∧ (imq (s1_.1.1.length ≤ 1000) (cxs dd_ F_ I_ ff_ q_.2.2 s1_ Sx23_ ∧ fun_ ff_ q_.2.2 (S0_.2.2.1 26 0) (Sx23_.2.2.1 26 0) ∧ lwS F_ s1_)) := by rw [es_]; refine ⟨e119_.1, fun z9_ => ⟨⟨e119_.1, (hFx25_.1 1 0 9 rfl).trans cx_.2.1, (hFx25_.1 1 0 3 rfl).trans cx_.2.2.1, cx_.2.2.2.1, cx_.2.2.2.2.1, cx_.2.2.2.2.2.1, by rw [fr_arr (t := 26) (i := 0) hFx25_ rfl]; exact cx_.2.2.2.2.2.2.1, e119_.2, ⟨(hFx25_.1 3 dd_ 1 rfl).trans cx_.2.2.2.2.2.2.2.2.1, by rw [hFx25_.1 3 dd_ 5 rfl]; exact cx_.2.2.2.2.2.2.2.2.2.1, nxb_up cx_.2.2.2.2.2.2.2.2.2.2 (fr_arr hFx25_ rfl) (by have n9_ := cgl_n z6_ sok_; have n8_ := cgl_n e119_.1 z9_; have n7_ := e_op_le ho_; omega)⟩⟩, by rw [fr_arr (t := 26) (i := 0) hFx25_ rfl]; exact cf_, by rw [← es_]; exact lw1_ (by rw [es_]; exact z9_)⟩⟩
            refine sm_T_go 1 (c1 := (159, [some (.inr (.inr (some (1, 0)))), some (.inl m_), some (.inl f_), some (.inl dp_), some (.inl to_), some (.inl pc_), some (.inl (S_.2.2.1 74 0 pc_.toNat)), some (.inl ((S_.2.2.1 74 0 pc_.toNat) % 32)), some (.inl (((S_.2.2.1 74 0 pc_.toNat) / 32) % 64)), some (.inl ((S_.2.2.1 74 0 pc_.toNat) / 2048))], [], Sx23_)) rfl ?_
            refine sm_T_inc (a := 5) (z := 1) (v := pc_) (w := pc_ + 1) rfl rfl (by omega) (by omega) (by omega) ?_
            refine sm_T_go 1 (c1 := (24, [some (.inr (.inr (some (1, 0)))), some (.inl m_), some (.inl f_), some (.inl dp_), some (.inl to_), some (.inl (pc_ + 1)), some (.inl (S_.2.2.1 74 0 pc_.toNat)), some (.inl ((S_.2.2.1 74 0 pc_.toNat) % 32)), some (.inl (((S_.2.2.1 74 0 pc_.toNat) / 32) % 64)), some (.inl ((S_.2.2.1 74 0 pc_.toNat) / 2048))], [], Sx23_)) rfl ?_
            refine sm_T_wk [some (.inr (.inr (some (1, 0)))), some (.inl m_), some (.inl f_), some (.inl dp_), some (.inl to_), some (.inl (pc_ + 1)), none, none, none, none] (by exact ⟨rfl, rfl, rfl, rfl, rfl, rfl, trivial⟩) ?_
            refine ih_ to_ (pc_ + 1) Sx23_ hIx24_ hFx27_ ⟨?_, ?_, ?_, trivial⟩ ?_
            · omega
            · exact ⟨s1_, s9_, c_, hec_, z2_, z3_, z4b, by rw [show (pc_ + 1).toNat = pc_.toNat + 1 by omega]; exact rwv_tl z5_, new_.1, new_.2⟩
            · exact hDx28_
            · omega
        · have cx5_ : ¬ (((S_.2.2.1 74 0 pc_.toNat) % 32) ≠ 17) := of_decide_eq_false cx5_
          obtain ⟨o_, z_, hO_, hV_, aM_, d0_, dM_, hX_, es_⟩ := ew17 hew_ (by omega)
          obtain ⟨xE_, P_, xP_⟩ := id cx_.2.2.2.2.2.2.1
          have yP_ := xP_ (S_.2.2.1 74 0 pc_.toNat / 32 % 64).toNat (by omega) o_ hO_
          have y2_ := yP_.2.1
          have c201_ := cx_.2.2.2.1
          have ccl_ := cxs_cl cx_ hV_ (by omega) hO_ yP_.1
          have c6_ := cx_.2.2.2.2.2.1
          have c5_ := cx_.2.2.2.2.1
          refine sm_T_go 2 (c1 := (83, [some (.inr (.inr (some (1, 0)))), some (.inl m_), some (.inl f_), some (.inl dp_), some (.inl to_), some (.inl pc_), some (.inl (S_.2.2.1 74 0 pc_.toNat)), some (.inl ((S_.2.2.1 74 0 pc_.toNat) % 32)), some (.inl (((S_.2.2.1 74 0 pc_.toNat) / 32) % 64)), some (.inl ((S_.2.2.1 74 0 pc_.toNat) / 2048))], [.inl 16, .inl dp_], S_)) rfl ?_
          refine sm_T_br (a := 3) (z := 76) rfl (fun cx30_ => ?_) (fun cx30_ => ?_)
          · have cx30_ : 16 ≤ dp_ := of_decide_eq_true cx30_
            exfalso; omega
          · have cx30_ : ¬ (16 ≤ dp_) := of_decide_eq_false cx30_
            refine sm_T_go 6 (c1 := (96, [some (.inr (.inr (some (1, 0)))), some (.inl m_), some (.inl f_), some (.inl dp_), some (.inl to_), some (.inl pc_), some (.inl (S_.2.2.1 74 0 pc_.toNat)), some (.inl ((S_.2.2.1 74 0 pc_.toNat) % 32)), some (.inl (((S_.2.2.1 74 0 pc_.toNat) / 32) % 64)), some (.inl ((S_.2.2.1 74 0 pc_.toNat) / 2048))], [.inl (((S_.2.2.1 74 0 pc_.toNat) / 32) % 64), .inl f_, .inr (.inr (some (26, 0))), .inl ((S_.2.2.1 74 0 pc_.toNat) / 2048), .inr (.inr (some (1, 0)))], S_)) rfl ?_
            refine sm_T_cal (d1 := 0) (Q1 := vq_35 f_ (((S_.2.2.1 74 0 pc_.toNat) / 32) % 64) S_) rfl rfl (by omega) (vc_35 f_ (((S_.2.2.1 74 0 pc_.toNat) / 32) % 64) S_ hI_ (by omega) (by omega)) (fun u_ Sx31_ px34_ => ?_)
            obtain ⟨rfl, vx36_, rfl, px34_⟩ := px34_
            have e96_ := px34_
            have pt_ : S_.2.2.1 26 0 vx36_.toNat = (P_ (S_.2.2.1 74 0 pc_.toNat / 32 % 64).toNat : Int) := by rw [e96_, show (8 * (40 * f_ + S_.2.2.1 74 0 pc_.toNat / 32 % 64)).toNat = 8 * (40 * ff_ + (S_.2.2.1 74 0 pc_.toNat / 32 % 64).toNat) by omega]; exact yP_.1
            refine sm_T_iald (n := 64320) rfl rfl (by omega) (by omega) ?_
            have bx37_ : 0 ≤ S_.2.2.1 26 0 vx36_.toNat ∧ S_.2.2.1 26 0 vx36_.toNat ≤ 2025 := hI_.2 26 0 _
            refine sm_T_go 2 (c1 := (102, [some (.inr (.inr (some (1, 0)))), some (.inl m_), some (.inl f_), some (.inl dp_), some (.inl to_), some (.inl pc_), some (.inl (S_.2.2.1 74 0 pc_.toNat)), some (.inl ((S_.2.2.1 74 0 pc_.toNat) % 32)), some (.inl (((S_.2.2.1 74 0 pc_.toNat) / 32) % 64)), some (.inl ((S_.2.2.1 74 0 pc_.toNat) / 2048))], [.inl 1, .inl dp_, .inl (S_.2.2.1 26 0 vx36_.toNat), .inl ((S_.2.2.1 74 0 pc_.toNat) / 2048), .inr (.inr (some (1, 0)))], S_)) rfl ?_
            refine sm_T_bin (w := dp_ + 1) rfl (bi_add (by omega) (by omega) (by omega)) ?_
            refine sm_T_cal (d1 := (nf_ + 10)) (Q1 := vq_36 ((S_.2.2.1 74 0 pc_.toNat) / 2048) (S_.2.2.1 26 0 vx36_.toNat) (dp_ + 1) tb_ tn_ A_ C_ (S_.2.2.1 74 0 pc_.toNat / 2048).toNat (P_ (S_.2.2.1 74 0 pc_.toNat / 32 % 64).toNat) dd_ F_ I_ s_.1 o_ z_ nf_ S_) rfl rfl (by omega) (ihx_ ((S_.2.2.1 74 0 pc_.toNat) / 2048) (S_.2.2.1 26 0 vx36_.toNat) (dp_ + 1) tb_ tn_ A_ C_ (S_.2.2.1 74 0 pc_.toNat / 2048).toNat (P_ (S_.2.2.1 74 0 pc_.toNat / 32 % 64).toNat) dd_ F_ I_ s_.1 o_ z_ nf_ S_ hI_ (by exact hI_) (by exact cgl_d z6_) (by omega) (by exact pt_) (by omega) (by (intro k9_ h9_; exact her1_ k9_ (by omega))) (by exact a_ok_le hA_ (by omega)) (by exact ccd_fr hC_ (by omega) hF_ rfl rfl) (by exact ccl_.1) (by exact sok_) (by (have q9_ : s1_.1.2.1 = z_.1.2.1 := by rw [es_]); omega) (by exact cl_.1) (by exact cl_.2.2.1 _ o_ hO_) (by exact hX_)) (fun u_ Sx38_ px41_ => ?_)
            obtain ⟨rfl, hIx39_, hFx40_, px41_⟩ := px41_
            have hFx42_ : ai_fr (sx_W vw_36) S0_ Sx38_ := ai_fr_tr hF_ (fr_le hFx40_ rfl)
            obtain ⟨dx44_, px41_⟩ := px41_
            have hDx43_ : idf dd_ S0_ Sx38_ := idf_tr hD_ dx44_
            have e103_ := px41_
            have new_ : cgl dd_ F_ s1_.1.1 Sx38_ ∧ (imq (s1_.1.1.length ≤ 1000) (cxs dd_ F_ I_ ff_ q_.2.2 s1_ Sx38_ ∧ fun_ ff_ q_.2.2 (S0_.2.2.1 26 0) (Sx38_.2.2.1 26 0) ∧ lwS F_ s1_)) := by rw [es_]; refine ⟨e103_.1, fun z9_ => ?_⟩; obtain ⟨o1_, o2_⟩ := e103_.2 z9_; exact ⟨cxs_ba cx_ (by omega) hO_ yP_.1 e103_.1 o1_ o2_ (hFx40_.1 3 dd_ 1 rfl), fun_tr cf_ (fun j_ q1_ q2_ => o2_ j_ (by omega) (by omega)), by rw [← es_]; exact lw1_ (by rw [es_]; exact z9_)⟩
            refine sm_T_go 1 (c1 := (159, [some (.inr (.inr (some (1, 0)))), some (.inl m_), some (.inl f_), some (.inl dp_), some (.inl to_), some (.inl pc_), some (.inl (S_.2.2.1 74 0 pc_.toNat)), some (.inl ((S_.2.2.1 74 0 pc_.toNat) % 32)), some (.inl (((S_.2.2.1 74 0 pc_.toNat) / 32) % 64)), some (.inl ((S_.2.2.1 74 0 pc_.toNat) / 2048))], [], Sx38_)) rfl ?_
            refine sm_T_inc (a := 5) (z := 1) (v := pc_) (w := pc_ + 1) rfl rfl (by omega) (by omega) (by omega) ?_
            refine sm_T_go 1 (c1 := (24, [some (.inr (.inr (some (1, 0)))), some (.inl m_), some (.inl f_), some (.inl dp_), some (.inl to_), some (.inl (pc_ + 1)), some (.inl (S_.2.2.1 74 0 pc_.toNat)), some (.inl ((S_.2.2.1 74 0 pc_.toNat) % 32)), some (.inl (((S_.2.2.1 74 0 pc_.toNat) / 32) % 64)), some (.inl ((S_.2.2.1 74 0 pc_.toNat) / 2048))], [], Sx38_)) rfl ?_
            refine sm_T_wk [some (.inr (.inr (some (1, 0)))), some (.inl m_), some (.inl f_), some (.inl dp_), some (.inl to_), some (.inl (pc_ + 1)), none, none, none, none] (by exact ⟨rfl, rfl, rfl, rfl, rfl, rfl, trivial⟩) ?_
            refine ih_ to_ (pc_ + 1) Sx38_ hIx39_ hFx42_ ⟨?_, ?_, ?_, trivial⟩ ?_
            · omega
            · exact ⟨s1_, s9_, c_, hec_, z2_, z3_, z4b, by rw [show (pc_ + 1).toNat = pc_.toNat + 1 by omega]; exact rwv_tl z5_, new_.1, new_.2⟩
            · exact hDx43_
            · omega
set_option maxHeartbeats 2000000 in
theorem vc_36 {sc_ : Nat × (Nat → Int)} (m_ : Int) (f_ : Int) (dp_ : Int) (tb_ : Nat → Int) (tn_ : Nat) (A_ : pA) (C_ : Nat → List Int) (mm_ : Nat) (ff_ : Nat) (dd_ : Nat) (F_ : Nat) (I_ : Nat) (q_ : gQ) (e_ : gE) (r_ : gQ × gE) (nf_ : Nat) (S0_ : sm_S) (hI_ : gi S0_) (hI0_ : gi S0_) (hd_ : S0_.2.1 1 0 1 = some dd_) (hm1_ : m_ = (mm_ : Int) ∧ mm_ ≤ 15) (hf1_ : f_ = (ff_ : Int)) (hdp_ : 0 ≤ dp_ ∧ dp_ + mm_ ≤ 15) (her_ : ∀ k9_, k9_ ≤ mm_ → er1 tb_ tn_ A_ k9_ S0_) (hA_ : a_ok tb_ tn_ A_ mm_) (hC_ : ccd C_ mm_ S0_) (hx_ : cxs dd_ F_ I_ ff_ q_.2.2 (q_, e_, fun _ => none, []) S0_) (hok_ : q_.1.length ≤ 1000) (hRF_ : 1 + I_ + r_.1.2.1 ≤ F_) (hG_ : gwf F_ q_.1) (hlw_ : ∀ a9_, lwl (F_ + q_.1.length) (e_ a9_)) (he_ : exm F_ I_ A_ C_ (nf_ + 1) mm_ q_ e_ = some r_) (ihx_ : ∀ (m_ f_ dp_ : Int) (tb_ : Nat → Int) (tn_ : Nat) (A_ : pA) (C_ : Nat → List Int) (mm_ : Nat) (ff_ : Nat) (dd_ : Nat) (F_ : Nat) (I_ : Nat) (q_ : gQ) (e_ : gE) (r_ : gQ × gE) (nz : Nat) (S0_ : sm_S) (hI_ : gi S0_) (hI0_ : gi S0_) (hd_ : S0_.2.1 1 0 1 = some dd_) (hm1_ : m_ = (mm_ : Int) ∧ mm_ ≤ 15) (hf1_ : f_ = (ff_ : Int)) (hdp_ : 0 ≤ dp_ ∧ dp_ + mm_ ≤ 15) (her_ : ∀ k9_, k9_ ≤ mm_ → er1 tb_ tn_ A_ k9_ S0_) (hA_ : a_ok tb_ tn_ A_ mm_) (hC_ : ccd C_ mm_ S0_) (hx_ : cxs dd_ F_ I_ ff_ q_.2.2 (q_, e_, fun _ => none, []) S0_) (hok_ : q_.1.length ≤ 1000) (hRF_ : 1 + I_ + r_.1.2.1 ≤ F_) (hG_ : gwf F_ q_.1) (hlw_ : ∀ a9_, lwl (F_ + q_.1.length) (e_ a9_)) (he_ : exm F_ I_ A_ C_ nf_ mm_ q_ e_ = some r_), sm_T (mt_P sc_) (nf_ + 10) 36 (0, [some (.inr (.inr (some (1, 0)))), some (.inl m_), some (.inl f_), some (.inl dp_), none, none, none, none, none, none], [], S0_) (fun r9_ => ∃ u_ S1_, r9_ = (.inl u_, S1_, 0) ∧ vq_36 m_ f_ dp_ tb_ tn_ A_ C_ mm_ ff_ dd_ F_ I_ q_ e_ r_ nz S0_ u_ S1_)) : sm_T (mt_P sc_) (nf_ + 1 + 10) 36 (0, [some (.inr (.inr (some (1, 0)))), some (.inl m_), some (.inl f_), some (.inl dp_), none, none, none, none, none, none], [], S0_) (fun ro9_ => ∃ u_ S1_, ro9_ = (.inl u_, S1_, 0) ∧ vq_36 m_ f_ dp_ tb_ tn_ A_ C_ mm_ ff_ dd_ F_ I_ q_ e_ r_ nf_ S0_ u_ S1_) := by
  have hF_ : ai_fr (sx_W vw_36) S0_ S0_ := ai_fr_rf
  have hD_ : idf dd_ S0_ S0_ := idf_rf
  obtain ⟨p0_, hp1_, hp2_, hp3_, hp4_⟩ := hC_ mm_ (Nat.le_refl _)
  have c0_ : S0_.2.2.1 76 0 m_.toNat = (p0_ : Int) := by rw [show m_.toNat = mm_ by omega]; exact hp1_
  have c1_ : S0_.2.2.1 76 0 (m_ + 1).toNat = ((p0_ + (C_ mm_).length : Nat) : Int) := by rw [show (m_ + 1).toNat = mm_ + 1 by omega]; exact hp2_
  obtain ⟨s9_, hec_, hs9_, hr9_⟩ : ∃ s9_, ec F_ I_ A_ (exm F_ I_ A_ C_ nf_) mm_ (C_ mm_) (q_, e_, fun _ => none, []) = some s9_ ∧ s9_.2.2.2 = [] ∧ r_ = (s9_.1, s9_.2.1) := by rw [exm] at he_; (split at he_); (rename_i s9_ q9_; (split at he_); (rename_i v9_; cases he_; exact ⟨s9_, q9_, v9_, rfl⟩); (cases he_)); (cases he_)
  refine sm_T_go 5 (c1 := (9, [some (.inr (.inr (some (1, 0)))), some (.inl m_), some (.inl f_), some (.inl dp_), none, none, none, none, none, none], [.inl 1, .inl m_, .inr (.inr (some (76, 0)))], S0_)) rfl ?_
  refine sm_T_bin (w := m_ + 1) rfl (bi_add (by omega) (by omega) (by omega)) ?_
  refine sm_T_iald (n := 17) rfl rfl (by omega) (by omega) ?_
  have bx1_ : 0 ≤ S0_.2.2.1 76 0 (m_ + 1).toNat ∧ S0_.2.2.1 76 0 (m_ + 1).toNat ≤ 65536 := hI_.2 76 0 _
  refine sm_T_go 5 (c1 := (21, [some (.inr (.inr (some (1, 0)))), some (.inl m_), some (.inl f_), some (.inl dp_), some (.inl (S0_.2.2.1 76 0 (m_ + 1).toNat)), none, none, none, none, none], [.inl m_, .inr (.inr (some (76, 0)))], S0_)) rfl ?_
  refine sm_T_iald (n := 17) rfl rfl (by omega) (by omega) ?_
  have bx2_ : 0 ≤ S0_.2.2.1 76 0 m_.toNat ∧ S0_.2.2.1 76 0 m_.toNat ≤ 65536 := hI_.2 76 0 _
  refine sm_T_go 1 (c1 := (24, [some (.inr (.inr (some (1, 0)))), some (.inl m_), some (.inl f_), some (.inl dp_), some (.inl (S0_.2.2.1 76 0 (m_ + 1).toNat)), some (.inl (S0_.2.2.1 76 0 m_.toNat)), none, none, none, none], [], S0_)) rfl ?_
  refine (vl_36 m_ f_ dp_ tb_ tn_ A_ C_ mm_ ff_ dd_ F_ I_ q_ e_ r_ nf_ S0_ hI0_ hd_ hm1_ hf1_ hdp_ her_ hA_ hC_ hx_ hok_ hRF_ hG_ hlw_ he_ ihx_ _) (S0_.2.2.1 76 0 (m_ + 1).toNat) (S0_.2.2.1 76 0 m_.toNat) S0_ hI_ hF_ ⟨?_, ?_, ?_, trivial⟩ (Nat.lt_succ_self _)
  · omega
  · refine ⟨(q_, e_, fun _ => none, []), s9_, C_ mm_, hec_, hs9_, hr9_, by omega, ?_, hx_.1, fun _ => ⟨hx_, fun j_ _ _ => rfl, ⟨hG_, hlw_, (fun a9_ o9_ h9_ => by cases h9_), (fun v9_ h9_ => by cases h9_)⟩⟩⟩
    rw [c0_]
    exact hp4_
  · exact hD_
theorem vc_36x {sc_ : Nat × (Nat → Int)} : ∀ nf_ : Nat, ∀ (m_ f_ dp_ : Int) (tb_ : Nat → Int) (tn_ : Nat) (A_ : pA) (C_ : Nat → List Int) (mm_ : Nat) (ff_ : Nat) (dd_ : Nat) (F_ : Nat) (I_ : Nat) (q_ : gQ) (e_ : gE) (r_ : gQ × gE) (nz : Nat) (S0_ : sm_S) (hI_ : gi S0_) (hI0_ : gi S0_) (hd_ : S0_.2.1 1 0 1 = some dd_) (hm1_ : m_ = (mm_ : Int) ∧ mm_ ≤ 15) (hf1_ : f_ = (ff_ : Int)) (hdp_ : 0 ≤ dp_ ∧ dp_ + mm_ ≤ 15) (her_ : ∀ k9_, k9_ ≤ mm_ → er1 tb_ tn_ A_ k9_ S0_) (hA_ : a_ok tb_ tn_ A_ mm_) (hC_ : ccd C_ mm_ S0_) (hx_ : cxs dd_ F_ I_ ff_ q_.2.2 (q_, e_, fun _ => none, []) S0_) (hok_ : q_.1.length ≤ 1000) (hRF_ : 1 + I_ + r_.1.2.1 ≤ F_) (hG_ : gwf F_ q_.1) (hlw_ : ∀ a9_, lwl (F_ + q_.1.length) (e_ a9_)) (he_ : exm F_ I_ A_ C_ nf_ mm_ q_ e_ = some r_), sm_T (mt_P sc_) (nf_ + 10) 36 (0, [some (.inr (.inr (some (1, 0)))), some (.inl m_), some (.inl f_), some (.inl dp_), none, none, none, none, none, none], [], S0_) (fun r9_ => ∃ u_ S1_, r9_ = (.inl u_, S1_, 0) ∧ vq_36 m_ f_ dp_ tb_ tn_ A_ C_ mm_ ff_ dd_ F_ I_ q_ e_ r_ nz S0_ u_ S1_)
  | 0, m_, f_, dp_, tb_, tn_, A_, C_, mm_, ff_, dd_, F_, I_, q_, e_, r_, nz, S0_, hI_, hI0_, hd_, hm1_, hf1_, hdp_, her_, hA_, hC_, hx_, hok_, hRF_, hG_, hlw_, he_ => by cases he_
  | nf_ + 1, m_, f_, dp_, tb_, tn_, A_, C_, mm_, ff_, dd_, F_, I_, q_, e_, r_, nz, S0_, hI_, hI0_, hd_, hm1_, hf1_, hdp_, her_, hA_, hC_, hx_, hok_, hRF_, hG_, hlw_, he_ => vc_36 m_ f_ dp_ tb_ tn_ A_ C_ mm_ ff_ dd_ F_ I_ q_ e_ r_ nf_ S0_ hI_ hI0_ hd_ hm1_ hf1_ hdp_ her_ hA_ hC_ hx_ hok_ hRF_ hG_ hlw_ he_ (vc_36x nf_)
end
/-! 99.zc1a -/
section
/-! the reference: AND, OR, XOR; written by wip/p55/gen/vg -/
/-! M_.and -/
def vw_328 : sx_Wl := ([(13, 37)], [140, 141, 142, 143], [])
def vq_328 (x_ : Int) (y_ : Int) (F_ : Nat) (G_ : pGr) (A_ : Int) (B_ : Int) (S0_ : sm_S) (u_ : Option sm_V) (S1_ : sm_S) : Prop := ∃ v_ : Int, u_ = some (.inl v_) ∧ gi S1_ ∧ ai_fr (sx_W vw_328) S0_ S1_ ∧ (rgl F_ (g_an F_ G_ A_ B_).2 S1_ ∧ (imq ((g_an F_ G_ A_ B_).2.length ≤ 1001) (v_ = (g_an F_ G_ A_ B_).1)) ∧ (0 ≤ v_ ∧ v_ ≤ 2047))
set_option maxHeartbeats 400000 in
set_option maxRecDepth 20000 in
theorem vl_328 {sc_ : Nat × (Nat → Int)} (x_ : Int) (y_ : Int) (F_ : Nat) (G_ : pGr) (A_ : Int) (B_ : Int) (S0_ : sm_S) (hg_ : rgl F_ G_ S0_) (hx_ : 0 ≤ x_ ∧ x_ ≤ 2047) (hy_ : 0 ≤ y_ ∧ y_ ≤ 2047) (hab_ : imq (G_.length ≤ 1001) (x_ = A_ ∧ y_ = B_)) : ∀ nn_ : Nat, (∀ (a_ : Int) (b_ : Int) (c_ : Int) (n_ : Int) (S_ : sm_S), gi S_ → ai_fr (sx_W vw_328) S0_ S_ → ((S_ = S0_) ∧ (rcb F_ (F_ + ((S_.1 13 0 37) - (S_.1 13 0 38)).toNat) n_) ∧ (c_ = (1021 * a_ + b_) % 4096) ∧ ((0 ≤ a_ ∧ a_ ≤ 2047) ∧ 0 ≤ b_ ∧ b_ ≤ 2047) ∧ ((x_ < y_ ∧ a_ = x_ ∧ b_ = y_) ∨ (y_ ≤ x_ ∧ a_ = y_ ∧ b_ = x_)) ∧ (¬ (a_ = 0 ∨ a_ = i_xor b_ 1)) ∧ (¬ (a_ = 1 ∨ a_ = b_)) ∧ (∀ t_ : Int, (S_.2.2.1 140 0 t_.toNat = a_ ∧ S_.2.2.1 141 0 t_.toNat = b_ ∧ (F_ : Int) ≤ t_ ∧ t_ < (S_.1 13 0 37)) → ∃ f_, rch (S_.2.2.1 143 0) f_ n_ t_) ∧ True) → (n_.toNat) < nn_ → sm_T (mt_P sc_) 0 328 (74, [some (.inr (.inr (some (13, 0)))), some (.inl x_), some (.inl y_), some (.inl a_), some (.inl b_), some (.inl c_), some (.inl n_)], [], S_) (fun ro9_ => ∃ u_ S1_, ro9_ = (.inl u_, S1_, 0) ∧ vq_328 x_ y_ F_ G_ A_ B_ S0_ u_ S1_)) := by
  intro nn_
  induction nn_ with
  | zero => exact fun _ _ _ _ _ _ _ _ h_ => absurd h_ (Nat.not_lt_zero _)
  | succ nn_ ih_ =>
    rintro a_ b_ c_ n_ S_ hI_ hF_ ⟨hS_, hn2_, hc_, hbd_, hmn_, hn0_, hn1_, h2_, -⟩ hm_
    have hgS_ : rgl F_ G_ S_ := by rw [hS_]; exact hg_
    obtain ⟨G1_, hG1_, hG2_⟩ := id hgS_
    obtain ⟨x1_, x2_, x4_, x5_, x6_, x7_, x8_⟩ := id hG1_
    refine sm_T_go 1 (c1 := (76, [some (.inr (.inr (some (13, 0)))), some (.inl x_), some (.inl y_), some (.inl a_), some (.inl b_), some (.inl c_), some (.inl n_)], [.inl n_], S_)) rfl ?_
    refine sm_T_b0 (a := 5) (z := 43) rfl (fun cx1_ => ?_) (fun cx1_ => ?_)
    · have cx1_ : n_ ≤ 0 := of_decide_eq_true cx1_
      have n0_ : n_ = 0 := by rcases hn2_ with z_ | z_; exact z_; omega
      have fd_ : g_fd a_ b_ G1_ 0 = none := by cases e9_ : g_fd a_ b_ G1_ 0 with | none => rfl | some k9_ => (exfalso; have q9_ := g_fd_b e9_; have q8_ := q9_.2.2; rw [Nat.sub_zero] at q8_; have q7_ := x6_ k9_ a_ b_ q8_; obtain ⟨f9_, q6_⟩ := h2_ ((F_ + k9_ : Nat) : Int) (by rw [Int.toNat_natCast]; exact ⟨q7_.1, q7_.2, by omega, by have := q9_.2.1; omega⟩); rw [n0_] at q6_; have := rch_0 q6_; omega)
      have bx2_ : 0 ≤ S_.1 13 0 37 ∧ S_.1 13 0 37 ≤ 1014 := hI_.1 13 0 37 rfl
      have bx3_ : 0 ≤ S_.1 13 0 38 ∧ S_.1 13 0 38 ≤ 19 := hI_.1 13 0 38 rfl
      refine sm_T_go 4 (c1 := (127, [some (.inr (.inr (some (13, 0)))), some (.inl x_), some (.inl y_), some (.inl a_), some (.inl b_), some (.inl c_), some (.inl n_)], [.inl (S_.1 13 0 38), .inl (S_.1 13 0 37)], S_)) rfl ?_
      refine sm_T_bin (w := (S_.1 13 0 37) - (S_.1 13 0 38)) rfl (bi_sub (by omega) (by omega) (by omega)) ?_
      refine sm_T_go 1 (c1 := (131, [some (.inr (.inr (some (13, 0)))), some (.inl x_), some (.inl y_), some (.inl a_), some (.inl b_), some (.inl c_), some (.inl n_)], [.inl 1000, .inl ((S_.1 13 0 37) - (S_.1 13 0 38))], S_)) rfl ?_
      refine sm_T_br (a := 5) (z := 5) rfl (fun cx4_ => ?_) (fun cx4_ => ?_)
      · have cx4_ : (S_.1 13 0 37) - (S_.1 13 0 38) ≤ 1000 := of_decide_eq_true cx4_
        refine sm_T_go 5 (c1 := (145, [some (.inr (.inr (some (13, 0)))), some (.inl x_), some (.inl y_), some (.inl a_), some (.inl b_), some (.inl c_), some (.inl n_)], [.inl a_, .inl (S_.1 13 0 37), .inr (.inr (some (140, 0)))], S_)) rfl ?_
        refine sm_T_iast (n := 2048) rfl rfl (by omega) (by omega) ?_
        have hIx5_ : gi (sm_aI S_ 140 0 (S_.1 13 0 37).toNat a_) := gi_aI hI_ (show 0 ≤ a_ ∧ a_ ≤ 2047 from ⟨by omega, by omega⟩)
        have hFx6_ : ai_fr (sx_W vw_328) S0_ (sm_aI S_ 140 0 (S_.1 13 0 37).toNat a_) := ai_fr_tr hF_ (ai_fr_aI rfl)
        refine sm_T_go 5 (c1 := (156, [some (.inr (.inr (some (13, 0)))), some (.inl x_), some (.inl y_), some (.inl a_), some (.inl b_), some (.inl c_), some (.inl n_)], [.inl b_, .inl (S_.1 13 0 37), .inr (.inr (some (141, 0)))], sm_aI S_ 140 0 (S_.1 13 0 37).toNat a_)) rfl ?_
        refine sm_T_iast (n := 2048) rfl rfl (by omega) (by omega) ?_
        have hIx7_ : gi (sm_aI (sm_aI S_ 140 0 (S_.1 13 0 37).toNat a_) 141 0 (S_.1 13 0 37).toNat b_) := gi_aI hIx5_ (show 0 ≤ b_ ∧ b_ ≤ 2047 from ⟨by omega, by omega⟩)
        have hFx8_ : ai_fr (sx_W vw_328) S0_ (sm_aI (sm_aI S_ 140 0 (S_.1 13 0 37).toNat a_) 141 0 (S_.1 13 0 37).toNat b_) := ai_fr_tr hFx6_ (ai_fr_aI rfl)
        refine sm_T_go 7 (c1 := (171, [some (.inr (.inr (some (13, 0)))), some (.inl x_), some (.inl y_), some (.inl a_), some (.inl b_), some (.inl c_), some (.inl n_)], [.inl c_, .inr (.inr (some (142, 0))), .inl (S_.1 13 0 37), .inr (.inr (some (143, 0)))], sm_aI (sm_aI S_ 140 0 (S_.1 13 0 37).toNat a_) 141 0 (S_.1 13 0 37).toNat b_)) rfl ?_
        refine sm_T_iald (n := 4096) rfl rfl (by omega) (by omega) ?_
        have bx9_ : 0 ≤ S_.2.2.1 142 0 c_.toNat ∧ S_.2.2.1 142 0 c_.toNat ≤ 1023 := hI_.2 142 0 _
        refine sm_T_go 0 (c1 := (172, [some (.inr (.inr (some (13, 0)))), some (.inl x_), some (.inl y_), some (.inl a_), some (.inl b_), some (.inl c_), some (.inl n_)], [.inl (S_.2.2.1 142 0 c_.toNat), .inl (S_.1 13 0 37), .inr (.inr (some (143, 0)))], sm_aI (sm_aI S_ 140 0 (S_.1 13 0 37).toNat a_) 141 0 (S_.1 13 0 37).toNat b_)) rfl ?_
        refine sm_T_iast (n := 2048) rfl rfl (by omega) (by omega) ?_
        have hIx10_ : gi (sm_aI (sm_aI (sm_aI S_ 140 0 (S_.1 13 0 37).toNat a_) 141 0 (S_.1 13 0 37).toNat b_) 143 0 (S_.1 13 0 37).toNat (S_.2.2.1 142 0 c_.toNat)) := gi_aI hIx7_ (show 0 ≤ (S_.2.2.1 142 0 c_.toNat) ∧ (S_.2.2.1 142 0 c_.toNat) ≤ 1023 from ⟨by omega, by omega⟩)
        have hFx11_ : ai_fr (sx_W vw_328) S0_ (sm_aI (sm_aI (sm_aI S_ 140 0 (S_.1 13 0 37).toNat a_) 141 0 (S_.1 13 0 37).toNat b_) 143 0 (S_.1 13 0 37).toNat (S_.2.2.1 142 0 c_.toNat)) := ai_fr_tr hFx8_ (ai_fr_aI rfl)
        refine sm_T_go 5 (c1 := (183, [some (.inr (.inr (some (13, 0)))), some (.inl x_), some (.inl y_), some (.inl a_), some (.inl b_), some (.inl c_), some (.inl n_)], [.inl (S_.1 13 0 37), .inl c_, .inr (.inr (some (142, 0)))], sm_aI (sm_aI (sm_aI S_ 140 0 (S_.1 13 0 37).toNat a_) 141 0 (S_.1 13 0 37).toNat b_) 143 0 (S_.1 13 0 37).toNat (S_.2.2.1 142 0 c_.toNat))) rfl ?_
        refine sm_T_iast (n := 4096) rfl rfl (by omega) (by omega) ?_
        have hIx12_ : gi (sm_aI (sm_aI (sm_aI (sm_aI S_ 140 0 (S_.1 13 0 37).toNat a_) 141 0 (S_.1 13 0 37).toNat b_) 143 0 (S_.1 13 0 37).toNat (S_.2.2.1 142 0 c_.toNat)) 142 0 c_.toNat (S_.1 13 0 37)) := gi_aI hIx10_ (show 0 ≤ (S_.1 13 0 37) ∧ (S_.1 13 0 37) ≤ 1023 from ⟨by omega, by omega⟩)
        have hFx13_ : ai_fr (sx_W vw_328) S0_ (sm_aI (sm_aI (sm_aI (sm_aI S_ 140 0 (S_.1 13 0 37).toNat a_) 141 0 (S_.1 13 0 37).toNat b_) 143 0 (S_.1 13 0 37).toNat (S_.2.2.1 142 0 c_.toNat)) 142 0 c_.toNat (S_.1 13 0 37)) := ai_fr_tr hFx11_ (ai_fr_aI rfl)
        refine sm_T_go 4 (c1 := (190, [some (.inr (.inr (some (13, 0)))), some (.inl x_), some (.inl y_), some (.inl a_), some (.inl b_), some (.inl c_), some (.inl n_)], [.inl 1, .inl (S_.1 13 0 37), .inr (.inr (some (13, 0)))], sm_aI (sm_aI (sm_aI (sm_aI S_ 140 0 (S_.1 13 0 37).toNat a_) 141 0 (S_.1 13 0 37).toNat b_) 143 0 (S_.1 13 0 37).toNat (S_.2.2.1 142 0 c_.toNat)) 142 0 c_.toNat (S_.1 13 0 37))) rfl ?_
        refine sm_T_bin (w := (S_.1 13 0 37) + 1) rfl (bi_add (by omega) (by omega) (by omega)) ?_
        have hIx14_ : gi (sm_pI (sm_aI (sm_aI (sm_aI (sm_aI S_ 140 0 (S_.1 13 0 37).toNat a_) 141 0 (S_.1 13 0 37).toNat b_) 143 0 (S_.1 13 0 37).toNat (S_.2.2.1 142 0 c_.toNat)) 142 0 c_.toNat (S_.1 13 0 37)) 13 0 37 ((S_.1 13 0 37) + 1)) := gi_pI hIx12_ (show 0 ≤ (S_.1 13 0 37) + 1 ∧ (S_.1 13 0 37) + 1 ≤ 1014 from ⟨by omega, by omega⟩)
        have hFx15_ : ai_fr (sx_W vw_328) S0_ (sm_pI (sm_aI (sm_aI (sm_aI (sm_aI S_ 140 0 (S_.1 13 0 37).toNat a_) 141 0 (S_.1 13 0 37).toNat b_) 143 0 (S_.1 13 0 37).toNat (S_.2.2.1 142 0 c_.toNat)) 142 0 c_.toNat (S_.1 13 0 37)) 13 0 37 ((S_.1 13 0 37) + 1)) := ai_fr_tr hFx13_ (ai_fr_pI rfl)
        refine sm_T_go 4 (c1 := (199, [some (.inr (.inr (some (13, 0)))), some (.inl x_), some (.inl y_), some (.inl a_), some (.inl b_), some (.inl c_), some (.inl n_)], [.inl ((S_.1 13 0 37) + 1), .inl 2], sm_pI (sm_aI (sm_aI (sm_aI (sm_aI S_ 140 0 (S_.1 13 0 37).toNat a_) 141 0 (S_.1 13 0 37).toNat b_) 143 0 (S_.1 13 0 37).toNat (S_.2.2.1 142 0 c_.toNat)) 142 0 c_.toNat (S_.1 13 0 37)) 13 0 37 ((S_.1 13 0 37) + 1))) rfl ?_
        refine sm_T_bin (w := 2 * (S_.1 13 0 37) + 2) rfl (bi_mul (by omega) (by omega) (by omega)) ?_
        refine sm_T_go 1 (c1 := (201, [some (.inr (.inr (some (13, 0)))), some (.inl x_), some (.inl y_), some (.inl a_), some (.inl b_), some (.inl c_), some (.inl n_)], [.inl 2, .inl (2 * (S_.1 13 0 37) + 2)], sm_pI (sm_aI (sm_aI (sm_aI (sm_aI S_ 140 0 (S_.1 13 0 37).toNat a_) 141 0 (S_.1 13 0 37).toNat b_) 143 0 (S_.1 13 0 37).toNat (S_.2.2.1 142 0 c_.toNat)) 142 0 c_.toNat (S_.1 13 0 37)) 13 0 37 ((S_.1 13 0 37) + 1))) rfl ?_
        refine sm_T_bin (w := 2 * (S_.1 13 0 37)) rfl (bi_sub (by omega) (by omega) (by omega)) ?_
        refine sm_T_ri rfl ⟨_, _, rfl, _, rfl, hIx14_, hFx15_, ?_⟩
        have ea_ : g_an F_ G1_ x_ y_ = (2 * ((F_ + G1_.length : Nat) : Int), G1_ ++ [(a_, b_)]) := by rw [g_an_mn hmn_, g_a2_n hn0_ hn1_ fd_]
        have nn9_ : (S_.1 13 0 37).toNat = F_ + G1_.length := by omega
        have hc9_ : hsr a_ b_ = c_.toNat := by unfold hsr; omega
        have hr_ := ar_go (v_ := 2 * S_.1 13 0 37) (S1_ := (sm_pI (sm_aI (sm_aI (sm_aI (sm_aI S_ 140 0 (S_.1 13 0 37).toNat a_) 141 0 (S_.1 13 0 37).toNat b_) 143 0 (S_.1 13 0 37).toNat (S_.2.2.1 142 0 c_.toNat)) 142 0 c_.toNat (S_.1 13 0 37)) 13 0 37 ((S_.1 13 0 37) + 1))) hG1_ hG2_ hab_ (Or.inl ⟨by rw [ea_]; exact rgx_up hG1_ (by omega) fd_ (by (try simp only [rd_eq, rd_ne, rf_eq, rf_nk, rf_nt, rd_fa, rd_af, rd_fl, rd_al, rd_lf, rd_la, rd_leq, rd_lne, rd_fr, rd_ar, ne_eq, Nat.reduceEqDiff, not_false_eq_true])) (by (try simp only [rd_eq, rd_ne, rf_eq, rf_nk, rf_nt, rd_fa, rd_af, rd_fl, rd_al, rd_lf, rd_la, rd_leq, rd_lne, rd_fr, rd_ar, ne_eq, Nat.reduceEqDiff, not_false_eq_true])) (fun k_ => by (try simp only [rd_eq, rd_ne, rf_eq, rf_nk, rf_nt, rd_fa, rd_af, rd_fl, rd_al, rd_lf, rd_la, rd_leq, rd_lne, rd_fr, rd_ar, ne_eq, Nat.reduceEqDiff, not_false_eq_true]); rw [hc9_, x4_]) (fun k_ => by (try simp only [rd_eq, rd_ne, rf_eq, rf_nk, rf_nt, rd_fa, rd_af, rd_fl, rd_al, rd_lf, rd_la, rd_leq, rd_lne, rd_fr, rd_ar, ne_eq, Nat.reduceEqDiff, not_false_eq_true]); rw [hc9_, nn9_]) (fun k_ => by (try simp only [rd_eq, rd_ne, rf_eq, rf_nk, rf_nt, rd_fa, rd_af, rd_fl, rd_al, rd_lf, rd_la, rd_leq, rd_lne, rd_fr, rd_ar, ne_eq, Nat.reduceEqDiff, not_false_eq_true]); rw [nn9_]) (fun k_ => by (try simp only [rd_eq, rd_ne, rf_eq, rf_nk, rf_nt, rd_fa, rd_af, rd_fl, rd_al, rd_lf, rd_la, rd_leq, rd_lne, rd_fr, rd_ar, ne_eq, Nat.reduceEqDiff, not_false_eq_true]); rw [nn9_]), by rw [ea_]; omega⟩)
        first | exact ⟨hr_.1, hr_.2, by omega⟩ | (refine ⟨hr_.1, fun z_ => ?_, by omega⟩; rw [← hr_.2 z_]; omega)
      · have cx4_ : ¬ ((S_.1 13 0 37) - (S_.1 13 0 38) ≤ 1000) := of_decide_eq_false cx4_
        refine sm_T_go 1 (c1 := (135, [some (.inr (.inr (some (13, 0)))), some (.inl x_), some (.inl y_), some (.inl a_), some (.inl b_), some (.inl c_), some (.inl n_)], [.inl 0], S_)) rfl ?_
        refine sm_T_ri rfl ⟨_, _, rfl, _, rfl, hI_, hF_, ?_⟩
        have ea_ : g_an F_ G1_ x_ y_ = (2 * ((F_ + G1_.length : Nat) : Int), G1_ ++ [(a_, b_)]) := by rw [g_an_mn hmn_, g_a2_n hn0_ hn1_ fd_]
        have hr_ := ar_go (v_ := 0) (S1_ := S_) hG1_ hG2_ hab_ (Or.inr ⟨by omega, by rw [ea_]; simp only [List.length_append, List.length_cons, List.length_nil]; omega, hG1_⟩)
        exact ⟨hr_.1, hr_.2, by omega⟩
    · have cx1_ : ¬ (n_ ≤ 0) := of_decide_eq_false cx1_
      have hn3_ : (F_ : Int) ≤ n_ ∧ n_ < S_.1 13 0 37 := by rcases hn2_ with z_ | z_; omega; omega
      obtain ⟨⟨px_, py_⟩, ep_⟩ : ∃ p_, G1_[(n_ - F_).toNat]? = some p_ := ⟨_, List.getElem?_eq_getElem (by omega)⟩
      have ep2_ := x6_ _ px_ py_ ep_
      rw [show F_ + (n_ - F_).toNat = n_.toNat by omega] at ep2_
      refine sm_T_go 3 (c1 := (85, [some (.inr (.inr (some (13, 0)))), some (.inl x_), some (.inl y_), some (.inl a_), some (.inl b_), some (.inl c_), some (.inl n_)], [.inl n_, .inr (.inr (some (140, 0)))], S_)) rfl ?_
      refine sm_T_iald (n := 2048) rfl rfl (by omega) (by omega) ?_
      have bx16_ : 0 ≤ S_.2.2.1 140 0 n_.toNat ∧ S_.2.2.1 140 0 n_.toNat ≤ 2047 := hI_.2 140 0 _
      refine sm_T_go 1 (c1 := (87, [some (.inr (.inr (some (13, 0)))), some (.inl x_), some (.inl y_), some (.inl a_), some (.inl b_), some (.inl c_), some (.inl n_)], [.inl a_, .inl (S_.2.2.1 140 0 n_.toNat)], S_)) rfl ?_
      refine sm_T_br (a := 1) (z := 20) rfl (fun cx17_ => ?_) (fun cx17_ => ?_)
      · have cx17_ : (S_.2.2.1 140 0 n_.toNat) ≠ a_ := of_decide_eq_true cx17_
        refine sm_T_go 3 (c1 := (113, [some (.inr (.inr (some (13, 0)))), some (.inl x_), some (.inl y_), some (.inl a_), some (.inl b_), some (.inl c_), some (.inl n_)], [.inl n_, .inr (.inr (some (143, 0)))], S_)) rfl ?_
        refine sm_T_iald (n := 2048) rfl rfl (by omega) (by omega) ?_
        have bx18_ : 0 ≤ S_.2.2.1 143 0 n_.toNat ∧ S_.2.2.1 143 0 n_.toNat ≤ 1023 := hI_.2 143 0 _
        refine sm_T_go 2 (c1 := (74, [some (.inr (.inr (some (13, 0)))), some (.inl x_), some (.inl y_), some (.inl a_), some (.inl b_), some (.inl c_), some (.inl (S_.2.2.1 143 0 n_.toNat))], [], S_)) rfl ?_
        refine ih_ a_ b_ c_ (S_.2.2.1 143 0 n_.toNat) S_ hI_ hF_ ⟨?_, ?_, ?_, ?_, ?_, ?_, ?_, ?_, trivial⟩ ?_
        · exact hS_
        · have q_ := x8_.2.1 (n_ - F_).toNat (by omega)
          rw [show F_ + (n_ - F_).toNat = n_.toNat by omega] at q_
          rcases q_ with q_ | q_
          · exact Or.inl q_
          · exact Or.inr (by omega)
        · exact hc_
        · exact hbd_
        · exact hmn_
        · exact hn0_
        · exact hn1_
        · intro t_ q_
          obtain ⟨f_, q5_⟩ := h2_ t_ q_
          by_cases e9_ : n_ = t_
          · exfalso; subst e9_; omega
          · exact (rch_s q5_ e9_).2
        · (have q_ := x8_.2.1 (n_ - F_).toNat (by omega)); rw [show F_ + (n_ - F_).toNat = n_.toNat by omega] at q_; rcases q_ with q_ | q_; omega; omega
      · have cx17_ : ¬ ((S_.2.2.1 140 0 n_.toNat) ≠ a_) := of_decide_eq_false cx17_
        refine sm_T_go 3 (c1 := (96, [some (.inr (.inr (some (13, 0)))), some (.inl x_), some (.inl y_), some (.inl a_), some (.inl b_), some (.inl c_), some (.inl n_)], [.inl n_, .inr (.inr (some (141, 0)))], S_)) rfl ?_
        refine sm_T_iald (n := 2048) rfl rfl (by omega) (by omega) ?_
        have bx19_ : 0 ≤ S_.2.2.1 141 0 n_.toNat ∧ S_.2.2.1 141 0 n_.toNat ≤ 2047 := hI_.2 141 0 _
        refine sm_T_go 1 (c1 := (99, [some (.inr (.inr (some (13, 0)))), some (.inl x_), some (.inl y_), some (.inl a_), some (.inl b_), some (.inl c_), some (.inl n_)], [.inl b_, .inl (S_.2.2.1 141 0 n_.toNat)], S_)) rfl ?_
        refine sm_T_br (a := 1) (z := 8) rfl (fun cx20_ => ?_) (fun cx20_ => ?_)
        · have cx20_ : (S_.2.2.1 141 0 n_.toNat) ≠ b_ := of_decide_eq_true cx20_
          refine sm_T_go 3 (c1 := (113, [some (.inr (.inr (some (13, 0)))), some (.inl x_), some (.inl y_), some (.inl a_), some (.inl b_), some (.inl c_), some (.inl n_)], [.inl n_, .inr (.inr (some (143, 0)))], S_)) rfl ?_
          refine sm_T_iald (n := 2048) rfl rfl (by omega) (by omega) ?_
          have bx21_ : 0 ≤ S_.2.2.1 143 0 n_.toNat ∧ S_.2.2.1 143 0 n_.toNat ≤ 1023 := hI_.2 143 0 _
          refine sm_T_go 2 (c1 := (74, [some (.inr (.inr (some (13, 0)))), some (.inl x_), some (.inl y_), some (.inl a_), some (.inl b_), some (.inl c_), some (.inl (S_.2.2.1 143 0 n_.toNat))], [], S_)) rfl ?_
          refine ih_ a_ b_ c_ (S_.2.2.1 143 0 n_.toNat) S_ hI_ hF_ ⟨?_, ?_, ?_, ?_, ?_, ?_, ?_, ?_, trivial⟩ ?_
          · exact hS_
          · have q_ := x8_.2.1 (n_ - F_).toNat (by omega)
            rw [show F_ + (n_ - F_).toNat = n_.toNat by omega] at q_
            rcases q_ with q_ | q_
            · exact Or.inl q_
            · exact Or.inr (by omega)
          · exact hc_
          · exact hbd_
          · exact hmn_
          · exact hn0_
          · exact hn1_
          · intro t_ q_
            obtain ⟨f_, q5_⟩ := h2_ t_ q_
            by_cases e9_ : n_ = t_
            · exfalso; subst e9_; omega
            · exact (rch_s q5_ e9_).2
          · (have q_ := x8_.2.1 (n_ - F_).toNat (by omega)); rw [show F_ + (n_ - F_).toNat = n_.toNat by omega] at q_; rcases q_ with q_ | q_; omega; omega
        · have cx20_ : ¬ ((S_.2.2.1 141 0 n_.toNat) ≠ b_) := of_decide_eq_false cx20_
          refine sm_T_go 2 (c1 := (105, [some (.inr (.inr (some (13, 0)))), some (.inl x_), some (.inl y_), some (.inl a_), some (.inl b_), some (.inl c_), some (.inl n_)], [.inl n_, .inl 2], S_)) rfl ?_
          refine sm_T_bin (w := 2 * n_) rfl (bi_mul (by omega) (by omega) (by omega)) ?_
          refine sm_T_ri rfl ⟨_, _, rfl, _, rfl, hI_, hF_, ?_⟩
          have epp_ : G1_[(n_ - F_).toNat]? = some (a_, b_) := by rw [ep_]; have q1_ : px_ = a_ := (by rw [← ep2_.1]; omega); have q2_ : py_ = b_ := (by rw [← ep2_.2]; omega); rw [q1_, q2_]
          have ea_ : g_an F_ G1_ x_ y_ = (2 * ((F_ + (n_ - F_).toNat : Nat) : Int), G1_) := by rw [g_an_mn hmn_, g_a2_f hn0_ hn1_ (g_fd_s x7_ epp_)]
          have hr_ := ar_go (v_ := 2 * n_) (S1_ := S_) hG1_ hG2_ hab_ (Or.inl ⟨by rw [ea_]; exact hG1_, by rw [ea_]; omega⟩)
          exact ⟨hr_.1, hr_.2, by omega⟩
set_option maxHeartbeats 400000 in
set_option maxRecDepth 20000 in
theorem vc_328 {sc_ : Nat × (Nat → Int)} (x_ : Int) (y_ : Int) (F_ : Nat) (G_ : pGr) (A_ : Int) (B_ : Int) (S0_ : sm_S) (hI_ : gi S0_) (hg_ : rgl F_ G_ S0_) (hx_ : 0 ≤ x_ ∧ x_ ≤ 2047) (hy_ : 0 ≤ y_ ∧ y_ ≤ 2047) (hab_ : imq (G_.length ≤ 1001) (x_ = A_ ∧ y_ = B_)) : sm_T (mt_P sc_) 0 328 (0, [some (.inr (.inr (some (13, 0)))), some (.inl x_), some (.inl y_), none, none, none, none], [], S0_) (fun ro9_ => ∃ u_ S1_, ro9_ = (.inl u_, S1_, 0) ∧ vq_328 x_ y_ F_ G_ A_ B_ S0_ u_ S1_) := by
  have hF_ : ai_fr (sx_W vw_328) S0_ S0_ := ai_fr_rf
  obtain ⟨G1_, hG1_, hG2_⟩ := id hg_
  obtain ⟨x1_, x2_, x4_, x5_, x6_, x7_, x8_⟩ := id hG1_
  refine sm_T_go 2 (c1 := (2, [some (.inr (.inr (some (13, 0)))), some (.inl x_), some (.inl y_), none, none, none, none], [.inl y_, .inl x_], S0_)) rfl ?_
  refine sm_T_br (a := 3) (z := 7) rfl (fun cx1_ => ?_) (fun cx1_ => ?_)
  · have cx1_ : y_ ≤ x_ := of_decide_eq_true cx1_
    refine sm_T_go 4 (c1 := (13, [some (.inr (.inr (some (13, 0)))), some (.inl x_), some (.inl y_), some (.inl y_), none, none, none], [.inl y_, .inl x_], S0_)) rfl ?_
    refine sm_T_br (a := 3) (z := 7) rfl (fun cx2_ => ?_) (fun cx2_ => ?_)
    · have cx2_ : y_ ≤ x_ := of_decide_eq_true cx2_
      refine sm_T_go 3 (c1 := (24, [some (.inr (.inr (some (13, 0)))), some (.inl x_), some (.inl y_), some (.inl y_), some (.inl x_), none, none], [.inl y_], S0_)) rfl ?_
      refine sm_T_b0 (a := 0) (z := 11) rfl (fun cx3_ => ?_) (fun cx3_ => ?_)
      · have cx3_ : y_ = 0 := of_decide_eq_true cx3_
        refine sm_T_go 1 (c1 := (36, [some (.inr (.inr (some (13, 0)))), some (.inl x_), some (.inl y_), some (.inl y_), some (.inl x_), none, none], [.inl 0], S0_)) rfl ?_
        refine sm_T_ri rfl ⟨_, _, rfl, _, rfl, hI_, hF_, ?_⟩
        have ea_ : g_an F_ G1_ x_ y_ = (0, G1_) := by first | (rw [g_an_mn (a_ := x_) (b_ := y_) (by omega)]; unfold g_a2; rw [if_pos (by omega)]) | (rw [g_an_mn (a_ := y_) (b_ := x_) (by omega)]; unfold g_a2; rw [if_pos (by omega)])
        have hr_ := ar_go (v_ := 0) hG1_ hG2_ hab_ (Or.inl ⟨by rw [ea_]; exact hG1_, by rw [ea_]⟩)
        exact ⟨hr_.1, hr_.2, by omega⟩
      · have cx3_ : ¬ (y_ = 0) := of_decide_eq_false cx3_
        refine sm_T_go 3 (c1 := (31, [some (.inr (.inr (some (13, 0)))), some (.inl x_), some (.inl y_), some (.inl y_), some (.inl x_), none, none], [.inl 1, .inl x_, .inl y_], S0_)) rfl ?_
        refine sm_T_bin (w := (i_xor x_ 1)) rfl rfl ?_
        have bx4_ := i_x1 (x_ := x_) (by omega)
        refine sm_T_br (a := 1) (z := 5) rfl (fun cx5_ => ?_) (fun cx5_ => ?_)
        · have cx5_ : y_ ≠ (i_xor x_ 1) := of_decide_eq_true cx5_
          refine sm_T_go 2 (c1 := (39, [some (.inr (.inr (some (13, 0)))), some (.inl x_), some (.inl y_), some (.inl y_), some (.inl x_), none, none], [.inl 1, .inl y_], S0_)) rfl ?_
          refine sm_T_br (a := 0) (z := 9) rfl (fun cx6_ => ?_) (fun cx6_ => ?_)
          · have cx6_ : y_ = 1 := of_decide_eq_true cx6_
            refine sm_T_go 1 (c1 := (50, [some (.inr (.inr (some (13, 0)))), some (.inl x_), some (.inl y_), some (.inl y_), some (.inl x_), none, none], [.inl x_], S0_)) rfl ?_
            refine sm_T_ri rfl ⟨_, _, rfl, _, rfl, hI_, hF_, ?_⟩
            first | (have ea_ : g_an F_ G1_ x_ y_ = (y_, G1_) := (by rw [g_an_mn (a_ := x_) (b_ := y_) (by omega)]; unfold g_a2; rw [if_neg (by omega), if_pos (by omega)]); have hr_ := ar_go (v_ := y_) hG1_ hG2_ hab_ (Or.inl ⟨by rw [ea_]; exact hG1_, by rw [ea_]⟩); exact ⟨hr_.1, hr_.2, by omega⟩) | (have ea_ : g_an F_ G1_ x_ y_ = (x_, G1_) := (by rw [g_an_mn (a_ := y_) (b_ := x_) (by omega)]; unfold g_a2; rw [if_neg (by omega), if_pos (by omega)]); have hr_ := ar_go (v_ := x_) hG1_ hG2_ hab_ (Or.inl ⟨by rw [ea_]; exact hG1_, by rw [ea_]⟩); exact ⟨hr_.1, hr_.2, by omega⟩)
          · have cx6_ : ¬ (y_ = 1) := of_decide_eq_false cx6_
            refine sm_T_go 2 (c1 := (45, [some (.inr (.inr (some (13, 0)))), some (.inl x_), some (.inl y_), some (.inl y_), some (.inl x_), none, none], [.inl x_, .inl y_], S0_)) rfl ?_
            refine sm_T_br (a := 1) (z := 6) rfl (fun cx7_ => ?_) (fun cx7_ => ?_)
            · have cx7_ : y_ ≠ x_ := of_decide_eq_true cx7_
              refine sm_T_go 2 (c1 := (55, [some (.inr (.inr (some (13, 0)))), some (.inl x_), some (.inl y_), some (.inl y_), some (.inl x_), none, none], [.inl y_, .inl 1021], S0_)) rfl ?_
              refine sm_T_bin (w := 1021 * y_) rfl (bi_mul (by omega) (by omega) (by omega)) ?_
              refine sm_T_go 1 (c1 := (58, [some (.inr (.inr (some (13, 0)))), some (.inl x_), some (.inl y_), some (.inl y_), some (.inl x_), none, none], [.inl x_, .inl (1021 * y_)], S0_)) rfl ?_
              refine sm_T_bin (w := 1021 * y_ + x_) rfl (bi_add (by omega) (by omega) (by omega)) ?_
              refine sm_T_go 1 (c1 := (62, [some (.inr (.inr (some (13, 0)))), some (.inl x_), some (.inl y_), some (.inl y_), some (.inl x_), none, none], [.inl 4095, .inl (1021 * y_ + x_)], S0_)) rfl ?_
              refine sm_T_bin (w := ((1021 * y_ + x_) % 4096)) rfl (bi_msk (k := 12) (by decide)) ?_
              refine sm_T_go 4 (c1 := (71, [some (.inr (.inr (some (13, 0)))), some (.inl x_), some (.inl y_), some (.inl y_), some (.inl x_), some (.inl ((1021 * y_ + x_) % 4096)), none], [.inl ((1021 * y_ + x_) % 4096), .inr (.inr (some (142, 0)))], S0_)) rfl ?_
              refine sm_T_iald (n := 4096) rfl rfl (by omega) (by omega) ?_
              have bx8_ : 0 ≤ S0_.2.2.1 142 0 ((1021 * y_ + x_) % 4096).toNat ∧ S0_.2.2.1 142 0 ((1021 * y_ + x_) % 4096).toNat ≤ 1023 := hI_.2 142 0 _
              refine sm_T_go 1 (c1 := (74, [some (.inr (.inr (some (13, 0)))), some (.inl x_), some (.inl y_), some (.inl y_), some (.inl x_), some (.inl ((1021 * y_ + x_) % 4096)), some (.inl (S0_.2.2.1 142 0 ((1021 * y_ + x_) % 4096).toNat))], [], S0_)) rfl ?_
              refine (vl_328 x_ y_ F_ G_ A_ B_ S0_ hg_ hx_ hy_ hab_ _) y_ x_ ((1021 * y_ + x_) % 4096) (S0_.2.2.1 142 0 ((1021 * y_ + x_) % 4096).toNat) S0_ hI_ hF_ ⟨?_, ?_, ?_, ?_, ?_, ?_, ?_, ?_, trivial⟩ (Nat.lt_succ_self _)
              · rfl
              · rw [show F_ + (S0_.1 13 0 37 - S0_.1 13 0 38).toNat = F_ + G1_.length by omega]
                first | exact x8_.1 ((1021 * x_ + y_) % 4096).toNat (by omega) | exact x8_.1 ((1021 * y_ + x_) % 4096).toNat (by omega)
              · rfl
              · omega
              · omega
              · omega
              · omega
              · intro t_ ⟨q1_, q2_, q3_, q4_⟩
                obtain ⟨⟨px_, py_⟩, ep_⟩ : ∃ p_, G1_[(t_ - F_).toNat]? = some p_ := ⟨_, List.getElem?_eq_getElem (by omega)⟩
                have ep2_ := x6_ _ px_ py_ ep_
                rw [show F_ + (t_ - F_).toNat = t_.toNat by omega] at ep2_
                obtain ⟨f_, q5_⟩ := x8_.2.2 _ px_ py_ ep_
                refine ⟨f_, ?_⟩
                rw [← ep2_.1, ← ep2_.2, q1_, q2_, show ((F_ + (t_ - F_).toNat : Nat) : Int) = t_ by omega] at q5_
                exact q5_
            · have cx7_ : ¬ (y_ ≠ x_) := of_decide_eq_false cx7_
              refine sm_T_go 1 (c1 := (50, [some (.inr (.inr (some (13, 0)))), some (.inl x_), some (.inl y_), some (.inl y_), some (.inl x_), none, none], [.inl x_], S0_)) rfl ?_
              refine sm_T_ri rfl ⟨_, _, rfl, _, rfl, hI_, hF_, ?_⟩
              first | (have ea_ : g_an F_ G1_ x_ y_ = (y_, G1_) := (by rw [g_an_mn (a_ := x_) (b_ := y_) (by omega)]; unfold g_a2; rw [if_neg (by omega), if_pos (by omega)]); have hr_ := ar_go (v_ := y_) hG1_ hG2_ hab_ (Or.inl ⟨by rw [ea_]; exact hG1_, by rw [ea_]⟩); exact ⟨hr_.1, hr_.2, by omega⟩) | (have ea_ : g_an F_ G1_ x_ y_ = (x_, G1_) := (by rw [g_an_mn (a_ := y_) (b_ := x_) (by omega)]; unfold g_a2; rw [if_neg (by omega), if_pos (by omega)]); have hr_ := ar_go (v_ := x_) hG1_ hG2_ hab_ (Or.inl ⟨by rw [ea_]; exact hG1_, by rw [ea_]⟩); exact ⟨hr_.1, hr_.2, by omega⟩)
        · have cx5_ : ¬ (y_ ≠ (i_xor x_ 1)) := of_decide_eq_false cx5_
          refine sm_T_go 1 (c1 := (36, [some (.inr (.inr (some (13, 0)))), some (.inl x_), some (.inl y_), some (.inl y_), some (.inl x_), none, none], [.inl 0], S0_)) rfl ?_
          refine sm_T_ri rfl ⟨_, _, rfl, _, rfl, hI_, hF_, ?_⟩
          have ea_ : g_an F_ G1_ x_ y_ = (0, G1_) := by first | (rw [g_an_mn (a_ := x_) (b_ := y_) (by omega)]; unfold g_a2; rw [if_pos (by omega)]) | (rw [g_an_mn (a_ := y_) (b_ := x_) (by omega)]; unfold g_a2; rw [if_pos (by omega)])
          have hr_ := ar_go (v_ := 0) hG1_ hG2_ hab_ (Or.inl ⟨by rw [ea_]; exact hG1_, by rw [ea_]⟩)
          exact ⟨hr_.1, hr_.2, by omega⟩
    · have cx2_ : ¬ (y_ ≤ x_) := of_decide_eq_false cx2_
      exfalso; omega
  · have cx1_ : ¬ (y_ ≤ x_) := of_decide_eq_false cx1_
    refine sm_T_go 5 (c1 := (13, [some (.inr (.inr (some (13, 0)))), some (.inl x_), some (.inl y_), some (.inl x_), none, none, none], [.inl y_, .inl x_], S0_)) rfl ?_
    refine sm_T_br (a := 3) (z := 7) rfl (fun cx9_ => ?_) (fun cx9_ => ?_)
    · have cx9_ : y_ ≤ x_ := of_decide_eq_true cx9_
      exfalso; omega
    · have cx9_ : ¬ (y_ ≤ x_) := of_decide_eq_false cx9_
      refine sm_T_go 4 (c1 := (24, [some (.inr (.inr (some (13, 0)))), some (.inl x_), some (.inl y_), some (.inl x_), some (.inl y_), none, none], [.inl x_], S0_)) rfl ?_
      refine sm_T_b0 (a := 0) (z := 11) rfl (fun cx10_ => ?_) (fun cx10_ => ?_)
      · have cx10_ : x_ = 0 := of_decide_eq_true cx10_
        refine sm_T_go 1 (c1 := (36, [some (.inr (.inr (some (13, 0)))), some (.inl x_), some (.inl y_), some (.inl x_), some (.inl y_), none, none], [.inl 0], S0_)) rfl ?_
        refine sm_T_ri rfl ⟨_, _, rfl, _, rfl, hI_, hF_, ?_⟩
        have ea_ : g_an F_ G1_ x_ y_ = (0, G1_) := by first | (rw [g_an_mn (a_ := x_) (b_ := y_) (by omega)]; unfold g_a2; rw [if_pos (by omega)]) | (rw [g_an_mn (a_ := y_) (b_ := x_) (by omega)]; unfold g_a2; rw [if_pos (by omega)])
        have hr_ := ar_go (v_ := 0) hG1_ hG2_ hab_ (Or.inl ⟨by rw [ea_]; exact hG1_, by rw [ea_]⟩)
        exact ⟨hr_.1, hr_.2, by omega⟩
      · have cx10_ : ¬ (x_ = 0) := of_decide_eq_false cx10_
        refine sm_T_go 3 (c1 := (31, [some (.inr (.inr (some (13, 0)))), some (.inl x_), some (.inl y_), some (.inl x_), some (.inl y_), none, none], [.inl 1, .inl y_, .inl x_], S0_)) rfl ?_
        refine sm_T_bin (w := (i_xor y_ 1)) rfl rfl ?_
        have bx11_ := i_x1 (x_ := y_) (by omega)
        refine sm_T_br (a := 1) (z := 5) rfl (fun cx12_ => ?_) (fun cx12_ => ?_)
        · have cx12_ : x_ ≠ (i_xor y_ 1) := of_decide_eq_true cx12_
          refine sm_T_go 2 (c1 := (39, [some (.inr (.inr (some (13, 0)))), some (.inl x_), some (.inl y_), some (.inl x_), some (.inl y_), none, none], [.inl 1, .inl x_], S0_)) rfl ?_
          refine sm_T_br (a := 0) (z := 9) rfl (fun cx13_ => ?_) (fun cx13_ => ?_)
          · have cx13_ : x_ = 1 := of_decide_eq_true cx13_
            refine sm_T_go 1 (c1 := (50, [some (.inr (.inr (some (13, 0)))), some (.inl x_), some (.inl y_), some (.inl x_), some (.inl y_), none, none], [.inl y_], S0_)) rfl ?_
            refine sm_T_ri rfl ⟨_, _, rfl, _, rfl, hI_, hF_, ?_⟩
            first | (have ea_ : g_an F_ G1_ x_ y_ = (y_, G1_) := (by rw [g_an_mn (a_ := x_) (b_ := y_) (by omega)]; unfold g_a2; rw [if_neg (by omega), if_pos (by omega)]); have hr_ := ar_go (v_ := y_) hG1_ hG2_ hab_ (Or.inl ⟨by rw [ea_]; exact hG1_, by rw [ea_]⟩); exact ⟨hr_.1, hr_.2, by omega⟩) | (have ea_ : g_an F_ G1_ x_ y_ = (x_, G1_) := (by rw [g_an_mn (a_ := y_) (b_ := x_) (by omega)]; unfold g_a2; rw [if_neg (by omega), if_pos (by omega)]); have hr_ := ar_go (v_ := x_) hG1_ hG2_ hab_ (Or.inl ⟨by rw [ea_]; exact hG1_, by rw [ea_]⟩); exact ⟨hr_.1, hr_.2, by omega⟩)
          · have cx13_ : ¬ (x_ = 1) := of_decide_eq_false cx13_
            refine sm_T_go 2 (c1 := (45, [some (.inr (.inr (some (13, 0)))), some (.inl x_), some (.inl y_), some (.inl x_), some (.inl y_), none, none], [.inl y_, .inl x_], S0_)) rfl ?_
            refine sm_T_br (a := 1) (z := 6) rfl (fun cx14_ => ?_) (fun cx14_ => ?_)
            · have cx14_ : x_ ≠ y_ := of_decide_eq_true cx14_
              refine sm_T_go 2 (c1 := (55, [some (.inr (.inr (some (13, 0)))), some (.inl x_), some (.inl y_), some (.inl x_), some (.inl y_), none, none], [.inl x_, .inl 1021], S0_)) rfl ?_
              refine sm_T_bin (w := 1021 * x_) rfl (bi_mul (by omega) (by omega) (by omega)) ?_
              refine sm_T_go 1 (c1 := (58, [some (.inr (.inr (some (13, 0)))), some (.inl x_), some (.inl y_), some (.inl x_), some (.inl y_), none, none], [.inl y_, .inl (1021 * x_)], S0_)) rfl ?_
              refine sm_T_bin (w := 1021 * x_ + y_) rfl (bi_add (by omega) (by omega) (by omega)) ?_
              refine sm_T_go 1 (c1 := (62, [some (.inr (.inr (some (13, 0)))), some (.inl x_), some (.inl y_), some (.inl x_), some (.inl y_), none, none], [.inl 4095, .inl (1021 * x_ + y_)], S0_)) rfl ?_
              refine sm_T_bin (w := ((1021 * x_ + y_) % 4096)) rfl (bi_msk (k := 12) (by decide)) ?_
              refine sm_T_go 4 (c1 := (71, [some (.inr (.inr (some (13, 0)))), some (.inl x_), some (.inl y_), some (.inl x_), some (.inl y_), some (.inl ((1021 * x_ + y_) % 4096)), none], [.inl ((1021 * x_ + y_) % 4096), .inr (.inr (some (142, 0)))], S0_)) rfl ?_
              refine sm_T_iald (n := 4096) rfl rfl (by omega) (by omega) ?_
              have bx15_ : 0 ≤ S0_.2.2.1 142 0 ((1021 * x_ + y_) % 4096).toNat ∧ S0_.2.2.1 142 0 ((1021 * x_ + y_) % 4096).toNat ≤ 1023 := hI_.2 142 0 _
              refine sm_T_go 1 (c1 := (74, [some (.inr (.inr (some (13, 0)))), some (.inl x_), some (.inl y_), some (.inl x_), some (.inl y_), some (.inl ((1021 * x_ + y_) % 4096)), some (.inl (S0_.2.2.1 142 0 ((1021 * x_ + y_) % 4096).toNat))], [], S0_)) rfl ?_
              refine (vl_328 x_ y_ F_ G_ A_ B_ S0_ hg_ hx_ hy_ hab_ _) x_ y_ ((1021 * x_ + y_) % 4096) (S0_.2.2.1 142 0 ((1021 * x_ + y_) % 4096).toNat) S0_ hI_ hF_ ⟨?_, ?_, ?_, ?_, ?_, ?_, ?_, ?_, trivial⟩ (Nat.lt_succ_self _)
              · rfl
              · rw [show F_ + (S0_.1 13 0 37 - S0_.1 13 0 38).toNat = F_ + G1_.length by omega]
                first | exact x8_.1 ((1021 * x_ + y_) % 4096).toNat (by omega) | exact x8_.1 ((1021 * y_ + x_) % 4096).toNat (by omega)
              · rfl
              · omega
              · omega
              · omega
              · omega
              · intro t_ ⟨q1_, q2_, q3_, q4_⟩
                obtain ⟨⟨px_, py_⟩, ep_⟩ : ∃ p_, G1_[(t_ - F_).toNat]? = some p_ := ⟨_, List.getElem?_eq_getElem (by omega)⟩
                have ep2_ := x6_ _ px_ py_ ep_
                rw [show F_ + (t_ - F_).toNat = t_.toNat by omega] at ep2_
                obtain ⟨f_, q5_⟩ := x8_.2.2 _ px_ py_ ep_
                refine ⟨f_, ?_⟩
                rw [← ep2_.1, ← ep2_.2, q1_, q2_, show ((F_ + (t_ - F_).toNat : Nat) : Int) = t_ by omega] at q5_
                exact q5_
            · have cx14_ : ¬ (x_ ≠ y_) := of_decide_eq_false cx14_
              exfalso; omega
        · have cx12_ : ¬ (x_ ≠ (i_xor y_ 1)) := of_decide_eq_false cx12_
          refine sm_T_go 1 (c1 := (36, [some (.inr (.inr (some (13, 0)))), some (.inl x_), some (.inl y_), some (.inl x_), some (.inl y_), none, none], [.inl 0], S0_)) rfl ?_
          refine sm_T_ri rfl ⟨_, _, rfl, _, rfl, hI_, hF_, ?_⟩
          have ea_ : g_an F_ G1_ x_ y_ = (0, G1_) := by first | (rw [g_an_mn (a_ := x_) (b_ := y_) (by omega)]; unfold g_a2; rw [if_pos (by omega)]) | (rw [g_an_mn (a_ := y_) (b_ := x_) (by omega)]; unfold g_a2; rw [if_pos (by omega)])
          have hr_ := ar_go (v_ := 0) hG1_ hG2_ hab_ (Or.inl ⟨by rw [ea_]; exact hG1_, by rw [ea_]⟩)
          exact ⟨hr_.1, hr_.2, by omega⟩
end
/-! 99.zc1b -/
section
/-! M_.or -/
def vw_329 : sx_Wl := ([(13, 37)], [140, 141, 142, 143], [])
def vq_329 (x_ : Int) (y_ : Int) (F_ : Nat) (G_ : pGr) (A_ : Int) (B_ : Int) (S0_ : sm_S) (u_ : Option sm_V) (S1_ : sm_S) : Prop := ∃ v_ : Int, u_ = some (.inl v_) ∧ gi S1_ ∧ ai_fr (sx_W vw_329) S0_ S1_ ∧ (rgl F_ (g_or F_ G_ A_ B_).2 S1_ ∧ (imq ((g_or F_ G_ A_ B_).2.length ≤ 1001) (v_ = (g_or F_ G_ A_ B_).1)) ∧ (0 ≤ v_ ∧ v_ ≤ 2047))
set_option maxHeartbeats 400000 in
theorem vc_329 {sc_ : Nat × (Nat → Int)} (x_ : Int) (y_ : Int) (F_ : Nat) (G_ : pGr) (A_ : Int) (B_ : Int) (S0_ : sm_S) (hI_ : gi S0_) (hg_ : rgl F_ G_ S0_) (hx_ : 0 ≤ x_ ∧ x_ ≤ 2047) (hy_ : 0 ≤ y_ ∧ y_ ≤ 2047) (hab_ : imq (G_.length ≤ 1001) (x_ = A_ ∧ y_ = B_)) : sm_T (mt_P sc_) 1 329 (0, [some (.inr (.inr (some (13, 0)))), some (.inl x_), some (.inl y_)], [], S0_) (fun ro9_ => ∃ u_ S1_, ro9_ = (.inl u_, S1_, 0) ∧ vq_329 x_ y_ F_ G_ A_ B_ S0_ u_ S1_) := by
  have hF_ : ai_fr (sx_W vw_329) S0_ S0_ := ai_fr_rf
  refine sm_T_go 4 (c1 := (4, [some (.inr (.inr (some (13, 0)))), some (.inl x_), some (.inl y_)], [.inl 1, .inl x_, .inr (.inr (some (13, 0))), .inl 1], S0_)) rfl ?_
  refine sm_T_bin (w := (i_xor x_ 1)) rfl rfl ?_
  first | have bx1_ := (i_xc (x_ := x_) (y_ := 1)).trans (i_x1 (x_ := 1) (by omega)) | have bx1_ := i_x1 (x_ := x_) (by omega)
  refine sm_T_go 2 (c1 := (7, [some (.inr (.inr (some (13, 0)))), some (.inl x_), some (.inl y_)], [.inl 1, .inl y_, .inl (i_xor x_ 1), .inr (.inr (some (13, 0))), .inl 1], S0_)) rfl ?_
  refine sm_T_bin (w := (i_xor y_ 1)) rfl rfl ?_
  first | have bx2_ := (i_xc (x_ := y_) (y_ := 1)).trans (i_x1 (x_ := 1) (by omega)) | have bx2_ := i_x1 (x_ := y_) (by omega)
  refine sm_T_cal (d1 := 0) (Q1 := vq_328 (i_xor x_ 1) (i_xor y_ 1) F_ G_ (i_xor A_ 1) (i_xor B_ 1) S0_) rfl rfl (by decide) (vc_328 (i_xor x_ 1) (i_xor y_ 1) F_ G_ (i_xor A_ 1) (i_xor B_ 1) S0_ hI_ (by exact hg_) (by omega) (by omega) (by (intro z_; have q_ := hab_ z_; rw [q_.1, q_.2]; exact ⟨rfl, rfl⟩))) (fun u_ Sx3_ px6_ => ?_)
  obtain ⟨vx8_, rfl, hIx4_, hFx5_, px6_⟩ := px6_
  have hFx7_ : ai_fr (sx_W vw_329) S0_ Sx3_ := ai_fr_tr hF_ (fr_le hFx5_ rfl)
  have e7_ := px6_
  refine sm_T_bin (w := (i_xor 1 vx8_)) rfl rfl ?_
  first | have bx9_ := (i_xc (x_ := 1) (y_ := vx8_)).trans (i_x1 (x_ := vx8_) (by omega)) | have bx9_ := i_x1 (x_ := 1) (by omega)
  refine sm_T_ri rfl ⟨_, _, rfl, _, rfl, hIx4_, hFx7_, ?_⟩
  refine ⟨e7_.1, fun z_ => ?_, by omega⟩
  show _ = i_xor _ 1
  rw [i_xc, e7_.2.1 z_]
end
/-! 99.zc1c -/
section
/-! M_.xor -/
def vw_330 : sx_Wl := ([(13, 37)], [140, 141, 142, 143], [])
def vq_330 (x_ : Int) (y_ : Int) (F_ : Nat) (G_ : pGr) (A_ : Int) (B_ : Int) (S0_ : sm_S) (u_ : Option sm_V) (S1_ : sm_S) : Prop := ∃ v_ : Int, u_ = some (.inl v_) ∧ gi S1_ ∧ ai_fr (sx_W vw_330) S0_ S1_ ∧ (rgl F_ (g_xo F_ G_ A_ B_).2 S1_ ∧ (imq ((g_xo F_ G_ A_ B_).2.length ≤ 1001) (v_ = (g_xo F_ G_ A_ B_).1)) ∧ (0 ≤ v_ ∧ v_ ≤ 2047))
set_option maxHeartbeats 400000 in
theorem vc_330 {sc_ : Nat × (Nat → Int)} (x_ : Int) (y_ : Int) (F_ : Nat) (G_ : pGr) (A_ : Int) (B_ : Int) (S0_ : sm_S) (hI_ : gi S0_) (hg_ : rgl F_ G_ S0_) (hx_ : 0 ≤ x_ ∧ x_ ≤ 2047) (hy_ : 0 ≤ y_ ∧ y_ ≤ 2047) (hab_ : imq (G_.length ≤ 1001) (x_ = A_ ∧ y_ = B_)) : sm_T (mt_P sc_) 2 330 (0, [some (.inr (.inr (some (13, 0)))), some (.inl x_), some (.inl y_), none, none], [], S0_) (fun ro9_ => ∃ u_ S1_, ro9_ = (.inl u_, S1_, 0) ∧ vq_330 x_ y_ F_ G_ A_ B_ S0_ u_ S1_) := by
  have hF_ : ai_fr (sx_W vw_330) S0_ S0_ := ai_fr_rf
  refine sm_T_go 4 (c1 := (4, [some (.inr (.inr (some (13, 0)))), some (.inl x_), some (.inl y_), none, none], [.inl 1, .inl y_, .inl x_, .inr (.inr (some (13, 0)))], S0_)) rfl ?_
  refine sm_T_bin (w := (i_xor y_ 1)) rfl rfl ?_
  have bx1_ := i_x1 (x_ := y_) (by omega)
  refine sm_T_cal (d1 := 0) (Q1 := vq_328 x_ (i_xor y_ 1) F_ G_ A_ (i_xor B_ 1) S0_) rfl rfl (by decide) (vc_328 x_ (i_xor y_ 1) F_ G_ A_ (i_xor B_ 1) S0_ hI_ (by exact hg_) (by omega) (by omega) (by (intro z_; have q_ := hab_ z_; rw [q_.1, q_.2]; exact ⟨rfl, rfl⟩))) (fun u_ Sx2_ px5_ => ?_)
  obtain ⟨vx7_, rfl, hIx3_, hFx4_, px5_⟩ := px5_
  have hFx6_ : ai_fr (sx_W vw_330) S0_ Sx2_ := ai_fr_tr hF_ (fr_le hFx4_ rfl)
  have e5_ := px5_
  have l5_ := g_an_le (F_ := F_) (G_ := G_) (a_ := A_) (b_ := i_xor B_ 1)
  refine sm_T_go 4 (c1 := (12, [some (.inr (.inr (some (13, 0)))), some (.inl x_), some (.inl y_), some (.inl vx7_), none], [.inl 1, .inl x_, .inr (.inr (some (13, 0)))], Sx2_)) rfl ?_
  refine sm_T_bin (w := (i_xor x_ 1)) rfl rfl ?_
  have bx8_ := i_x1 (x_ := x_) (by omega)
  refine sm_T_go 1 (c1 := (14, [some (.inr (.inr (some (13, 0)))), some (.inl x_), some (.inl y_), some (.inl vx7_), none], [.inl y_, .inl (i_xor x_ 1), .inr (.inr (some (13, 0)))], Sx2_)) rfl ?_
  refine sm_T_cal (d1 := 0) (Q1 := vq_328 (i_xor x_ 1) y_ F_ (g_an F_ G_ A_ (i_xor B_ 1)).2 (i_xor A_ 1) B_ Sx2_) rfl rfl (by decide) (vc_328 (i_xor x_ 1) y_ F_ (g_an F_ G_ A_ (i_xor B_ 1)).2 (i_xor A_ 1) B_ Sx2_ hIx3_ (by exact e5_.1) (by omega) (by omega) (by (intro z_; have q_ := hab_ (by omega); rw [q_.1, q_.2]; exact ⟨rfl, rfl⟩))) (fun u_ Sx9_ px12_ => ?_)
  obtain ⟨vx14_, rfl, hIx10_, hFx11_, px12_⟩ := px12_
  have hFx13_ : ai_fr (sx_W vw_330) S0_ Sx9_ := ai_fr_tr hFx6_ (fr_le hFx11_ rfl)
  have e18_ := px12_
  have l18_ := g_an_le (F_ := F_) (G_ := (g_an F_ G_ A_ (i_xor B_ 1)).2) (a_ := i_xor A_ 1) (b_ := B_)
  refine sm_T_go 4 (c1 := (23, [some (.inr (.inr (some (13, 0)))), some (.inl x_), some (.inl y_), some (.inl vx7_), some (.inl vx14_)], [.inl vx14_, .inl vx7_, .inr (.inr (some (13, 0)))], Sx9_)) rfl ?_
  refine sm_T_cal (d1 := 1) (Q1 := vq_329 vx7_ vx14_ F_ (g_an F_ (g_an F_ G_ A_ (i_xor B_ 1)).2 (i_xor A_ 1) B_).2 (g_an F_ G_ A_ (i_xor B_ 1)).1 (g_an F_ (g_an F_ G_ A_ (i_xor B_ 1)).2 (i_xor A_ 1) B_).1 Sx9_) rfl rfl (by decide) (vc_329 vx7_ vx14_ F_ (g_an F_ (g_an F_ G_ A_ (i_xor B_ 1)).2 (i_xor A_ 1) B_).2 (g_an F_ G_ A_ (i_xor B_ 1)).1 (g_an F_ (g_an F_ G_ A_ (i_xor B_ 1)).2 (i_xor A_ 1) B_).1 Sx9_ hIx10_ (by exact e18_.1) (by omega) (by omega) (by (intro z_; exact ⟨e5_.2.1 (by omega), e18_.2.1 z_⟩))) (fun u_ Sx15_ px18_ => ?_)
  obtain ⟨vx20_, rfl, hIx16_, hFx17_, px18_⟩ := px18_
  have hFx19_ : ai_fr (sx_W vw_330) S0_ Sx15_ := ai_fr_tr hFx13_ (fr_le hFx17_ rfl)
  have e23_ := px18_
  refine sm_T_ri rfl ⟨_, _, rfl, _, rfl, hIx16_, hFx19_, ?_⟩
  exact e23_
end
/-! 99.zc2a -/
section
/-! the reference: joining; written by wip/p55/gen/vg -/

/-! joining -/
theorem rgl_st {F_ : Nat} {G_ : pGr} {S_ : sm_S} {k_ : Nat} {z_ : Int} (h_ : rgl F_ G_ S_) : rgl F_ G_ (sm_aI S_ 139 0 k_ z_) := rgl_fr (w_ := ([], [139], [])) h_ (ai_fr_aI rfl) rfl rfl rfl rfl rfl rfl
theorem rd_self {S_ : sm_S} {k_ j_ : Nat} : (sm_aI S_ 139 0 k_ (S_.2.2.1 139 0 k_)).2.2.1 139 0 j_ = S_.2.2.1 139 0 j_ := by
  rw [rd_eq]
  by_cases e_ : j_ = k_
  · rw [if_pos e_, e_]
  · rw [if_neg e_]
end
/-! 99.zc2b -/
section
/-! M_.join -/
def vw_331w : sx_Wl := ([(13, 37)], [139, 140, 141, 142, 143], [])
def vq_331w (s_ : Int) (a_ : Int) (b_ : Int) (F_ : Nat) (G_ : pGr) (x_ : List Int) (y_ : List Int) (kk_ : Int) (S0_ : sm_S) (u_ : Option sm_V) (S1_ : sm_S) : Prop := u_ = none ∧ gi S1_ ∧ ai_fr (sx_W vw_331w) S0_ S1_ ∧ (rgl F_ (g_op F_ kk_ G_ x_ y_).2 S1_ ∧ (imq ((g_op F_ kk_ G_ x_ y_).2.length ≤ 1001) (rwv (S1_.2.2.1 139 0) (8 * a_.toNat) (g_op F_ kk_ G_ x_ y_).1)) ∧ ∀ j_ : Nat, j_ < 8 * a_.toNat ∨ 8 * a_.toNat + 8 ≤ j_ → S1_.2.2.1 139 0 j_ = S0_.2.2.1 139 0 j_)
set_option maxHeartbeats 1500000 in
set_option maxRecDepth 20000 in
theorem vl_331w {sc_ : Nat × (Nat → Int)} (s_ : Int) (a_ : Int) (b_ : Int) (F_ : Nat) (G_ : pGr) (x_ : List Int) (y_ : List Int) (kk_ : Int) (S0_ : sm_S) (hg_ : rgl F_ G_ S0_) (ha_ : 0 ≤ a_ ∧ a_ + 1 ≤ b_ ∧ b_ ≤ 1023) (hw_ : S0_.2.2.1 138 0 a_.toNat = (x_.length : Int)) (hn_ : x_.length = y_.length ∧ 1 ≤ x_.length ∧ x_.length ≤ 8) (hr_ : imq (G_.length ≤ 1001) (rwv (S0_.2.2.1 139 0) (8 * a_.toNat) x_ ∧ rwv (S0_.2.2.1 139 0) (8 * b_.toNat) y_)) (hs_ : (s_ = 124 ∧ kk_ = 1) ∨ (s_ = 94 ∧ kk_ = 2) ∨ (s_ = 38 ∧ kk_ = 3)) : ∀ nn_ : Nat, (∀ (nb_ : Int) (cy_ : Int) (sa_ : Int) (k_ : Int) (S_ : sm_S), gi S_ → ai_fr (sx_W vw_331w) S0_ S_ → ((0 ≤ k_ ∧ k_ ≤ nb_ ∧ nb_ = (x_.length : Int)) ∧ ((0 ≤ cy_ ∧ cy_ ≤ 2047) ∧ (0 ≤ sa_ ∧ sa_ ≤ 2047)) ∧ (∃ (G1_ : pGr) (d_ r_ e_ t_ : List Int), rgl F_ G1_ S_ ∧ (d_.length : Int) = k_ ∧ (e_.length : Int) = k_ ∧ r_.length = t_.length ∧ k_ + r_.length = nb_ ∧ y_ = e_ ++ t_ ∧ (imq (G1_.length ≤ 1001) (rwv (S_.2.2.1 139 0) (8 * a_.toNat) (d_ ++ r_) ∧ rwv (S_.2.2.1 139 0) (8 * b_.toNat) y_)) ∧ G_.length ≤ G1_.length ∧ (g_z2 (g_bw F_ kk_) G_ x_ y_) = (d_ ++ (g_z2 (g_bw F_ kk_) G1_ r_ t_).1, (g_z2 (g_bw F_ kk_) G1_ r_ t_).2)) ∧ (∀ j_ : Nat, j_ < 8 * a_.toNat ∨ 8 * a_.toNat + 8 ≤ j_ → S_.2.2.1 139 0 j_ = S0_.2.2.1 139 0 j_) ∧ True) → ((nb_ - k_).toNat) < nn_ → sm_T (mt_P sc_) 3 331 (17, [some (.inr (.inr (some (13, 0)))), some (.inl s_), some (.inl a_), some (.inl b_), some (.inl nb_), some (.inl cy_), some (.inl sa_), some (.inl k_), none, none, none, none, none], [], S_) (fun ro9_ => ∃ u_ S1_, ro9_ = (.inl u_, S1_, 0) ∧ vq_331w s_ a_ b_ F_ G_ x_ y_ kk_ S0_ u_ S1_)) := by
  intro nn_
  induction nn_ with
  | zero => exact fun _ _ _ _ _ _ _ _ h_ => absurd h_ (Nat.not_lt_zero _)
  | succ nn_ ih_ =>
    rintro nb_ cy_ sa_ k_ S_ hI_ hF_ ⟨h0_, hb0_, h1_, h2_, -⟩ hm_
    obtain ⟨G1_, d_, r_, e_, t_, z1_, z2_, z2b, z3_, z4_, z5_, z6_, z7_, z8_⟩ := h1_
    refine sm_T_go 2 (c1 := (21, [some (.inr (.inr (some (13, 0)))), some (.inl s_), some (.inl a_), some (.inl b_), some (.inl nb_), some (.inl cy_), some (.inl sa_), some (.inl k_), none, none, none, none, none], [.inl nb_, .inl k_], S_)) rfl ?_
    refine sm_T_br (a := 3) (z := 198) rfl (fun cx1_ => ?_) (fun cx1_ => ?_)
    · have cx1_ : nb_ ≤ k_ := of_decide_eq_true cx1_
      refine sm_T_go 4 (c1 := (226, [some (.inr (.inr (some (13, 0)))), some (.inl s_), some (.inl a_), some (.inl b_), some (.inl nb_), some (.inl cy_), some (.inl sa_), some (.inl k_), none, none, none, none, none], [.inl a_, .inl 8, .inr (.inr (some (139, 0)))], S_)) rfl ?_
      refine sm_T_bin (w := 8 * a_) rfl (bi_mul (by omega) (by omega) (by omega)) ?_
      refine sm_T_go 2 (c1 := (231, [some (.inr (.inr (some (13, 0)))), some (.inl s_), some (.inl a_), some (.inl b_), some (.inl nb_), some (.inl cy_), some (.inl sa_), some (.inl k_), none, none, none, none, none], [.inl 257, .inl s_, .inl (8 * a_), .inr (.inr (some (139, 0)))], S_)) rfl ?_
      refine sm_T_br (a := 1) (z := 8) rfl (fun cx2_ => ?_) (fun cx2_ => ?_)
      · have cx2_ : s_ ≠ 257 := of_decide_eq_true cx2_
        refine sm_T_go 4 (c1 := (246, [some (.inr (.inr (some (13, 0)))), some (.inl s_), some (.inl a_), some (.inl b_), some (.inl nb_), some (.inl cy_), some (.inl sa_), some (.inl k_), none, none, none, none, none], [.inl a_, .inl 8, .inr (.inr (some (139, 0))), .inl (8 * a_), .inr (.inr (some (139, 0)))], S_)) rfl ?_
        refine sm_T_bin (w := 8 * a_) rfl (bi_mul (by omega) (by omega) (by omega)) ?_
        refine sm_T_iald (n := 8192) rfl rfl (by omega) (by omega) ?_
        have bx3_ : 0 ≤ S_.2.2.1 139 0 (8 * a_).toNat ∧ S_.2.2.1 139 0 (8 * a_).toNat ≤ 2047 := hI_.2 139 0 _
        refine sm_T_iast (n := 8192) rfl rfl (by omega) (by omega) ?_
        have hIx4_ : gi (sm_aI S_ 139 0 (8 * a_).toNat (S_.2.2.1 139 0 (8 * a_).toNat)) := gi_aI hI_ (show 0 ≤ (S_.2.2.1 139 0 (8 * a_).toNat) ∧ (S_.2.2.1 139 0 (8 * a_).toNat) ≤ 2047 from ⟨by omega, by omega⟩)
        have hFx5_ : ai_fr (sx_W vw_331w) S0_ (sm_aI S_ 139 0 (8 * a_).toNat (S_.2.2.1 139 0 (8 * a_).toNat)) := ai_fr_tr hF_ (ai_fr_aI rfl)
        refine sm_T_rv rfl ⟨_, _, rfl, rfl, hIx4_, hFx5_, ?_⟩
        have kr_ : r_ = [] := List.eq_nil_of_length_eq_zero (by omega)
        have ks_ : t_ = [] := List.eq_nil_of_length_eq_zero (by omega)
        rw [kr_, ks_] at z8_
        have q8_ : g_z2 (g_bw F_ kk_) G1_ [] [] = ([], G1_) := rfl
        rw [q8_, List.append_nil] at z8_
        rw [g_opw (by omega) (by omega), z8_]
        refine ⟨rgl_st z1_, fun z_ => ?_, fun j_ hj_ => ?_⟩
        · have q9_ := (z6_ z_).1; rw [kr_, List.append_nil] at q9_; exact rwv_cg q9_ (fun j9_ _ => rd_self)
        · rw [rd_self]; exact h2_ j_ hj_
      · have cx2_ : ¬ (s_ ≠ 257) := of_decide_eq_false cx2_
        exfalso; omega
    · have cx1_ : ¬ (nb_ ≤ k_) := of_decide_eq_false cx1_
      obtain ⟨r0_, r_, rfl⟩ : ∃ r0_ r1_, r_ = r0_ :: r1_ := by cases r_ with | nil => (simp only [List.length_nil] at z4_; omega) | cons p_ q_ => exact ⟨p_, q_, rfl⟩
      obtain ⟨s0_, t_, rfl⟩ : ∃ s0_ s1_, t_ = s0_ :: s1_ := by cases t_ with | nil => (simp only [List.length_nil, List.length_cons] at z3_ z4_; omega) | cons p_ q_ => exact ⟨p_, q_, rfl⟩
      have rx : imq (G1_.length ≤ 1001) (S_.2.2.1 139 0 (8 * a_ + k_).toNat = r0_ ∧ S_.2.2.1 139 0 (8 * b_ + k_).toNat = s0_) := fun z_ => by rw [show (8 * a_ + k_).toNat = 8 * a_.toNat + d_.length by omega, show (8 * b_ + k_).toNat = 8 * b_.toNat + e_.length by omega]; exact ⟨rwv_m (z6_ z_).1, rwv_m (by rw [← z5_]; exact (z6_ z_).2)⟩
      refine sm_T_go 4 (c1 := (31, [some (.inr (.inr (some (13, 0)))), some (.inl s_), some (.inl a_), some (.inl b_), some (.inl nb_), some (.inl cy_), some (.inl sa_), some (.inl k_), none, none, none, none, none], [.inl a_, .inl 8, .inr (.inr (some (139, 0)))], S_)) rfl ?_
      refine sm_T_bin (w := 8 * a_) rfl (bi_mul (by omega) (by omega) (by omega)) ?_
      refine sm_T_go 1 (c1 := (34, [some (.inr (.inr (some (13, 0)))), some (.inl s_), some (.inl a_), some (.inl b_), some (.inl nb_), some (.inl cy_), some (.inl sa_), some (.inl k_), none, none, none, none, none], [.inl k_, .inl (8 * a_), .inr (.inr (some (139, 0)))], S_)) rfl ?_
      refine sm_T_bin (w := 8 * a_ + k_) rfl (bi_add (by omega) (by omega) (by omega)) ?_
      refine sm_T_iald (n := 8192) rfl rfl (by omega) (by omega) ?_
      have bx6_ : 0 ≤ S_.2.2.1 139 0 (8 * a_ + k_).toNat ∧ S_.2.2.1 139 0 (8 * a_ + k_).toNat ≤ 2047 := hI_.2 139 0 _
      refine sm_T_go 5 (c1 := (45, [some (.inr (.inr (some (13, 0)))), some (.inl s_), some (.inl a_), some (.inl b_), some (.inl nb_), some (.inl cy_), some (.inl sa_), some (.inl k_), some (.inl (S_.2.2.1 139 0 (8 * a_ + k_).toNat)), none, none, none, none], [.inl b_, .inl 8, .inr (.inr (some (139, 0)))], S_)) rfl ?_
      refine sm_T_bin (w := 8 * b_) rfl (bi_mul (by omega) (by omega) (by omega)) ?_
      refine sm_T_go 1 (c1 := (48, [some (.inr (.inr (some (13, 0)))), some (.inl s_), some (.inl a_), some (.inl b_), some (.inl nb_), some (.inl cy_), some (.inl sa_), some (.inl k_), some (.inl (S_.2.2.1 139 0 (8 * a_ + k_).toNat)), none, none, none, none], [.inl k_, .inl (8 * b_), .inr (.inr (some (139, 0)))], S_)) rfl ?_
      refine sm_T_bin (w := 8 * b_ + k_) rfl (bi_add (by omega) (by omega) (by omega)) ?_
      refine sm_T_iald (n := 8192) rfl rfl (by omega) (by omega) ?_
      have bx7_ : 0 ≤ S_.2.2.1 139 0 (8 * b_ + k_).toNat ∧ S_.2.2.1 139 0 (8 * b_ + k_).toNat ≤ 2047 := hI_.2 139 0 _
      refine sm_T_go 5 (c1 := (58, [some (.inr (.inr (some (13, 0)))), some (.inl s_), some (.inl a_), some (.inl b_), some (.inl nb_), some (.inl cy_), some (.inl sa_), some (.inl k_), some (.inl (S_.2.2.1 139 0 (8 * a_ + k_).toNat)), some (.inl (S_.2.2.1 139 0 (8 * b_ + k_).toNat)), some (.inl 0), none, none], [.inl 38, .inl s_], S_)) rfl ?_
      refine sm_T_br (a := 1) (z := 16) rfl (fun cx8_ => ?_) (fun cx8_ => ?_)
      · have cx8_ : s_ ≠ 38 := of_decide_eq_true cx8_
        refine sm_T_go 2 (c1 := (77, [some (.inr (.inr (some (13, 0)))), some (.inl s_), some (.inl a_), some (.inl b_), some (.inl nb_), some (.inl cy_), some (.inl sa_), some (.inl k_), some (.inl (S_.2.2.1 139 0 (8 * a_ + k_).toNat)), some (.inl (S_.2.2.1 139 0 (8 * b_ + k_).toNat)), some (.inl 0), none, none], [.inl 124, .inl s_], S_)) rfl ?_
        refine sm_T_br (a := 1) (z := 16) rfl (fun cx9_ => ?_) (fun cx9_ => ?_)
        · have cx9_ : s_ ≠ 124 := of_decide_eq_true cx9_
          refine sm_T_go 2 (c1 := (96, [some (.inr (.inr (some (13, 0)))), some (.inl s_), some (.inl a_), some (.inl b_), some (.inl nb_), some (.inl cy_), some (.inl sa_), some (.inl k_), some (.inl (S_.2.2.1 139 0 (8 * a_ + k_).toNat)), some (.inl (S_.2.2.1 139 0 (8 * b_ + k_).toNat)), some (.inl 0), none, none], [.inl 94, .inl s_], S_)) rfl ?_
          refine sm_T_br (a := 1) (z := 16) rfl (fun cx10_ => ?_) (fun cx10_ => ?_)
          · have cx10_ : s_ ≠ 94 := of_decide_eq_true cx10_
            refine sm_T_go 2 (c1 := (115, [some (.inr (.inr (some (13, 0)))), some (.inl s_), some (.inl a_), some (.inl b_), some (.inl nb_), some (.inl cy_), some (.inl sa_), some (.inl k_), some (.inl (S_.2.2.1 139 0 (8 * a_ + k_).toNat)), some (.inl (S_.2.2.1 139 0 (8 * b_ + k_).toNat)), some (.inl 0), none, none], [.inl 43, .inl s_], S_)) rfl ?_
            refine sm_T_br (a := 1) (z := 52) rfl (fun cx11_ => ?_) (fun cx11_ => ?_)
            · have cx11_ : s_ ≠ 43 := of_decide_eq_true cx11_
              exfalso; omega
            · have cx11_ : ¬ (s_ ≠ 43) := of_decide_eq_false cx11_
              exfalso; omega
          · have cx10_ : ¬ (s_ ≠ 94) := of_decide_eq_false cx10_
            refine sm_T_go 3 (c1 := (104, [some (.inr (.inr (some (13, 0)))), some (.inl s_), some (.inl a_), some (.inl b_), some (.inl nb_), some (.inl cy_), some (.inl sa_), some (.inl k_), some (.inl (S_.2.2.1 139 0 (8 * a_ + k_).toNat)), some (.inl (S_.2.2.1 139 0 (8 * b_ + k_).toNat)), some (.inl 0), none, none], [.inl (S_.2.2.1 139 0 (8 * b_ + k_).toNat), .inl (S_.2.2.1 139 0 (8 * a_ + k_).toNat), .inr (.inr (some (13, 0)))], S_)) rfl ?_
            refine sm_T_cal (d1 := 2) (Q1 := vq_330 (S_.2.2.1 139 0 (8 * a_ + k_).toNat) (S_.2.2.1 139 0 (8 * b_ + k_).toNat) F_ G1_ r0_ s0_ S_) rfl rfl (by decide) (vc_330 (S_.2.2.1 139 0 (8 * a_ + k_).toNat) (S_.2.2.1 139 0 (8 * b_ + k_).toNat) F_ G1_ r0_ s0_ S_ hI_ (by exact z1_) (by omega) (by omega) (by exact rx)) (fun u_ Sx12_ px15_ => ?_)
            obtain ⟨vx17_, rfl, hIx13_, hFx14_, px15_⟩ := px15_
            have hFx16_ : ai_fr (sx_W vw_331w) S0_ Sx12_ := ai_fr_tr hF_ (fr_le hFx14_ rfl)
            have e9_ : rgl F_ (g_bw F_ kk_ G1_ r0_ s0_).2 Sx12_ ∧ (imq ((g_bw F_ kk_ G1_ r0_ s0_).2.length ≤ 1001) (vx17_ = (g_bw F_ kk_ G1_ r0_ s0_).1)) ∧ (0 ≤ vx17_ ∧ vx17_ ≤ 2047) := by rw [g_bw2 (by omega) (by omega)]; exact px15_
            have f9_ : Sx12_.2.2.1 139 0 = S_.2.2.1 139 0 := fr_arr hFx14_ rfl
            have g9_ : ∀ z9_ : Int, ∀ j9_ : Nat, (sm_aI Sx12_ 139 0 (8 * a_ + k_).toNat z9_).2.2.1 139 0 j9_ = if j9_ = (8 * a_ + k_).toNat then z9_ else S_.2.2.1 139 0 j9_ := fun z9_ j9_ => by rw [rd_eq, f9_]
            have l1_ := g_bw_le (F_ := F_) (k_ := kk_) G1_ r0_ s0_
            refine sm_T_go 6 (c1 := (206, [some (.inr (.inr (some (13, 0)))), some (.inl s_), some (.inl a_), some (.inl b_), some (.inl nb_), some (.inl cy_), some (.inl sa_), some (.inl k_), some (.inl (S_.2.2.1 139 0 (8 * a_ + k_).toNat)), some (.inl (S_.2.2.1 139 0 (8 * b_ + k_).toNat)), some (.inl vx17_), none, none], [.inl a_, .inl 8, .inr (.inr (some (139, 0)))], Sx12_)) rfl ?_
            refine sm_T_bin (w := 8 * a_) rfl (bi_mul (by omega) (by omega) (by omega)) ?_
            refine sm_T_go 1 (c1 := (209, [some (.inr (.inr (some (13, 0)))), some (.inl s_), some (.inl a_), some (.inl b_), some (.inl nb_), some (.inl cy_), some (.inl sa_), some (.inl k_), some (.inl (S_.2.2.1 139 0 (8 * a_ + k_).toNat)), some (.inl (S_.2.2.1 139 0 (8 * b_ + k_).toNat)), some (.inl vx17_), none, none], [.inl k_, .inl (8 * a_), .inr (.inr (some (139, 0)))], Sx12_)) rfl ?_
            refine sm_T_bin (w := 8 * a_ + k_) rfl (bi_add (by omega) (by omega) (by omega)) ?_
            refine sm_T_go 1 (c1 := (212, [some (.inr (.inr (some (13, 0)))), some (.inl s_), some (.inl a_), some (.inl b_), some (.inl nb_), some (.inl cy_), some (.inl sa_), some (.inl k_), some (.inl (S_.2.2.1 139 0 (8 * a_ + k_).toNat)), some (.inl (S_.2.2.1 139 0 (8 * b_ + k_).toNat)), some (.inl vx17_), none, none], [.inl vx17_, .inl (8 * a_ + k_), .inr (.inr (some (139, 0)))], Sx12_)) rfl ?_
            refine sm_T_iast (n := 8192) rfl rfl (by omega) (by omega) ?_
            have hIx18_ : gi (sm_aI Sx12_ 139 0 (8 * a_ + k_).toNat vx17_) := gi_aI hIx13_ (show 0 ≤ vx17_ ∧ vx17_ ≤ 2047 from ⟨by omega, by omega⟩)
            have hFx19_ : ai_fr (sx_W vw_331w) S0_ (sm_aI Sx12_ 139 0 (8 * a_ + k_).toNat vx17_) := ai_fr_tr hFx16_ (ai_fr_aI rfl)
            refine sm_T_inc (a := 7) (z := 1) (v := k_) (w := k_ + 1) rfl rfl (by omega) (by omega) (by omega) ?_
            refine sm_T_go 1 (c1 := (17, [some (.inr (.inr (some (13, 0)))), some (.inl s_), some (.inl a_), some (.inl b_), some (.inl nb_), some (.inl cy_), some (.inl sa_), some (.inl (k_ + 1)), some (.inl (S_.2.2.1 139 0 (8 * a_ + k_).toNat)), some (.inl (S_.2.2.1 139 0 (8 * b_ + k_).toNat)), some (.inl vx17_), none, none], [], sm_aI Sx12_ 139 0 (8 * a_ + k_).toNat vx17_)) rfl ?_
            refine sm_T_wk [some (.inr (.inr (some (13, 0)))), some (.inl s_), some (.inl a_), some (.inl b_), some (.inl nb_), some (.inl cy_), some (.inl sa_), some (.inl (k_ + 1)), none, none, none, none, none] (by exact ⟨rfl, rfl, rfl, rfl, rfl, rfl, rfl, rfl, trivial⟩) ?_
            refine ih_ nb_ cy_ sa_ (k_ + 1) (sm_aI Sx12_ 139 0 (8 * a_ + k_).toNat vx17_) hIx18_ hFx19_ ⟨?_, ?_, ?_, ?_, trivial⟩ ?_
            · omega
            · omega
            · refine ⟨(g_bw F_ kk_ G1_ r0_ s0_).2, d_ ++ [(g_bw F_ kk_ G1_ r0_ s0_).1], r_, e_ ++ [s0_], t_, rgl_st e9_.1, ?_, ?_, ?_, ?_, ?_, fun z_ => ?_, by omega, ?_⟩
              · simp only [List.length_append, List.length_cons, List.length_nil]; push_cast; omega
              · simp only [List.length_append, List.length_cons, List.length_nil]; push_cast; omega
              · simp only [List.length_cons] at z3_; omega
              · simp only [List.length_cons] at z4_; push_cast at z4_; omega
              · rw [z5_, List.append_assoc]; rfl
              · have q1_ := z6_ (by omega)
                refine ⟨?_, ?_⟩
                · exact rwv_set (q_ := (8 * a_ + k_).toNat) q1_.1 (by omega) (fun j9_ => by rw [g9_, e9_.2.1 z_])
                · exact rwv_cg q1_.2 (fun j9_ hj_ => by rw [g9_, if_neg (by omega)])
              · rw [z8_]; exact g_z2_c
            · intro j_ hj_
              rw [g9_, if_neg (by omega)]
              exact h2_ j_ hj_
            · omega
        · have cx9_ : ¬ (s_ ≠ 124) := of_decide_eq_false cx9_
          refine sm_T_go 3 (c1 := (85, [some (.inr (.inr (some (13, 0)))), some (.inl s_), some (.inl a_), some (.inl b_), some (.inl nb_), some (.inl cy_), some (.inl sa_), some (.inl k_), some (.inl (S_.2.2.1 139 0 (8 * a_ + k_).toNat)), some (.inl (S_.2.2.1 139 0 (8 * b_ + k_).toNat)), some (.inl 0), none, none], [.inl (S_.2.2.1 139 0 (8 * b_ + k_).toNat), .inl (S_.2.2.1 139 0 (8 * a_ + k_).toNat), .inr (.inr (some (13, 0)))], S_)) rfl ?_
          refine sm_T_cal (d1 := 1) (Q1 := vq_329 (S_.2.2.1 139 0 (8 * a_ + k_).toNat) (S_.2.2.1 139 0 (8 * b_ + k_).toNat) F_ G1_ r0_ s0_ S_) rfl rfl (by decide) (vc_329 (S_.2.2.1 139 0 (8 * a_ + k_).toNat) (S_.2.2.1 139 0 (8 * b_ + k_).toNat) F_ G1_ r0_ s0_ S_ hI_ (by exact z1_) (by omega) (by omega) (by exact rx)) (fun u_ Sx20_ px23_ => ?_)
          obtain ⟨vx25_, rfl, hIx21_, hFx22_, px23_⟩ := px23_
          have hFx24_ : ai_fr (sx_W vw_331w) S0_ Sx20_ := ai_fr_tr hF_ (fr_le hFx22_ rfl)
          have e9_ : rgl F_ (g_bw F_ kk_ G1_ r0_ s0_).2 Sx20_ ∧ (imq ((g_bw F_ kk_ G1_ r0_ s0_).2.length ≤ 1001) (vx25_ = (g_bw F_ kk_ G1_ r0_ s0_).1)) ∧ (0 ≤ vx25_ ∧ vx25_ ≤ 2047) := by rw [show kk_ = 1 by omega, g_bw1]; exact px23_
          have f9_ : Sx20_.2.2.1 139 0 = S_.2.2.1 139 0 := fr_arr hFx22_ rfl
          have g9_ : ∀ z9_ : Int, ∀ j9_ : Nat, (sm_aI Sx20_ 139 0 (8 * a_ + k_).toNat z9_).2.2.1 139 0 j9_ = if j9_ = (8 * a_ + k_).toNat then z9_ else S_.2.2.1 139 0 j9_ := fun z9_ j9_ => by rw [rd_eq, f9_]
          have l1_ := g_bw_le (F_ := F_) (k_ := kk_) G1_ r0_ s0_
          refine sm_T_go 6 (c1 := (206, [some (.inr (.inr (some (13, 0)))), some (.inl s_), some (.inl a_), some (.inl b_), some (.inl nb_), some (.inl cy_), some (.inl sa_), some (.inl k_), some (.inl (S_.2.2.1 139 0 (8 * a_ + k_).toNat)), some (.inl (S_.2.2.1 139 0 (8 * b_ + k_).toNat)), some (.inl vx25_), none, none], [.inl a_, .inl 8, .inr (.inr (some (139, 0)))], Sx20_)) rfl ?_
          refine sm_T_bin (w := 8 * a_) rfl (bi_mul (by omega) (by omega) (by omega)) ?_
          refine sm_T_go 1 (c1 := (209, [some (.inr (.inr (some (13, 0)))), some (.inl s_), some (.inl a_), some (.inl b_), some (.inl nb_), some (.inl cy_), some (.inl sa_), some (.inl k_), some (.inl (S_.2.2.1 139 0 (8 * a_ + k_).toNat)), some (.inl (S_.2.2.1 139 0 (8 * b_ + k_).toNat)), some (.inl vx25_), none, none], [.inl k_, .inl (8 * a_), .inr (.inr (some (139, 0)))], Sx20_)) rfl ?_
          refine sm_T_bin (w := 8 * a_ + k_) rfl (bi_add (by omega) (by omega) (by omega)) ?_
          refine sm_T_go 1 (c1 := (212, [some (.inr (.inr (some (13, 0)))), some (.inl s_), some (.inl a_), some (.inl b_), some (.inl nb_), some (.inl cy_), some (.inl sa_), some (.inl k_), some (.inl (S_.2.2.1 139 0 (8 * a_ + k_).toNat)), some (.inl (S_.2.2.1 139 0 (8 * b_ + k_).toNat)), some (.inl vx25_), none, none], [.inl vx25_, .inl (8 * a_ + k_), .inr (.inr (some (139, 0)))], Sx20_)) rfl ?_
          refine sm_T_iast (n := 8192) rfl rfl (by omega) (by omega) ?_
          have hIx26_ : gi (sm_aI Sx20_ 139 0 (8 * a_ + k_).toNat vx25_) := gi_aI hIx21_ (show 0 ≤ vx25_ ∧ vx25_ ≤ 2047 from ⟨by omega, by omega⟩)
          have hFx27_ : ai_fr (sx_W vw_331w) S0_ (sm_aI Sx20_ 139 0 (8 * a_ + k_).toNat vx25_) := ai_fr_tr hFx24_ (ai_fr_aI rfl)
          refine sm_T_inc (a := 7) (z := 1) (v := k_) (w := k_ + 1) rfl rfl (by omega) (by omega) (by omega) ?_
          refine sm_T_go 1 (c1 := (17, [some (.inr (.inr (some (13, 0)))), some (.inl s_), some (.inl a_), some (.inl b_), some (.inl nb_), some (.inl cy_), some (.inl sa_), some (.inl (k_ + 1)), some (.inl (S_.2.2.1 139 0 (8 * a_ + k_).toNat)), some (.inl (S_.2.2.1 139 0 (8 * b_ + k_).toNat)), some (.inl vx25_), none, none], [], sm_aI Sx20_ 139 0 (8 * a_ + k_).toNat vx25_)) rfl ?_
          refine sm_T_wk [some (.inr (.inr (some (13, 0)))), some (.inl s_), some (.inl a_), some (.inl b_), some (.inl nb_), some (.inl cy_), some (.inl sa_), some (.inl (k_ + 1)), none, none, none, none, none] (by exact ⟨rfl, rfl, rfl, rfl, rfl, rfl, rfl, rfl, trivial⟩) ?_
          refine ih_ nb_ cy_ sa_ (k_ + 1) (sm_aI Sx20_ 139 0 (8 * a_ + k_).toNat vx25_) hIx26_ hFx27_ ⟨?_, ?_, ?_, ?_, trivial⟩ ?_
          · omega
          · omega
          · refine ⟨(g_bw F_ kk_ G1_ r0_ s0_).2, d_ ++ [(g_bw F_ kk_ G1_ r0_ s0_).1], r_, e_ ++ [s0_], t_, rgl_st e9_.1, ?_, ?_, ?_, ?_, ?_, fun z_ => ?_, by omega, ?_⟩
            · simp only [List.length_append, List.length_cons, List.length_nil]; push_cast; omega
            · simp only [List.length_append, List.length_cons, List.length_nil]; push_cast; omega
            · simp only [List.length_cons] at z3_; omega
            · simp only [List.length_cons] at z4_; push_cast at z4_; omega
            · rw [z5_, List.append_assoc]; rfl
            · have q1_ := z6_ (by omega)
              refine ⟨?_, ?_⟩
              · exact rwv_set (q_ := (8 * a_ + k_).toNat) q1_.1 (by omega) (fun j9_ => by rw [g9_, e9_.2.1 z_])
              · exact rwv_cg q1_.2 (fun j9_ hj_ => by rw [g9_, if_neg (by omega)])
            · rw [z8_]; exact g_z2_c
          · intro j_ hj_
            rw [g9_, if_neg (by omega)]
            exact h2_ j_ hj_
          · omega
      · have cx8_ : ¬ (s_ ≠ 38) := of_decide_eq_false cx8_
        refine sm_T_go 3 (c1 := (66, [some (.inr (.inr (some (13, 0)))), some (.inl s_), some (.inl a_), some (.inl b_), some (.inl nb_), some (.inl cy_), some (.inl sa_), some (.inl k_), some (.inl (S_.2.2.1 139 0 (8 * a_ + k_).toNat)), some (.inl (S_.2.2.1 139 0 (8 * b_ + k_).toNat)), some (.inl 0), none, none], [.inl (S_.2.2.1 139 0 (8 * b_ + k_).toNat), .inl (S_.2.2.1 139 0 (8 * a_ + k_).toNat), .inr (.inr (some (13, 0)))], S_)) rfl ?_
        refine sm_T_cal (d1 := 0) (Q1 := vq_328 (S_.2.2.1 139 0 (8 * a_ + k_).toNat) (S_.2.2.1 139 0 (8 * b_ + k_).toNat) F_ G1_ r0_ s0_ S_) rfl rfl (by decide) (vc_328 (S_.2.2.1 139 0 (8 * a_ + k_).toNat) (S_.2.2.1 139 0 (8 * b_ + k_).toNat) F_ G1_ r0_ s0_ S_ hI_ (by exact z1_) (by omega) (by omega) (by exact rx)) (fun u_ Sx28_ px31_ => ?_)
        obtain ⟨vx33_, rfl, hIx29_, hFx30_, px31_⟩ := px31_
        have hFx32_ : ai_fr (sx_W vw_331w) S0_ Sx28_ := ai_fr_tr hF_ (fr_le hFx30_ rfl)
        have e9_ : rgl F_ (g_bw F_ kk_ G1_ r0_ s0_).2 Sx28_ ∧ (imq ((g_bw F_ kk_ G1_ r0_ s0_).2.length ≤ 1001) (vx33_ = (g_bw F_ kk_ G1_ r0_ s0_).1)) ∧ (0 ≤ vx33_ ∧ vx33_ ≤ 2047) := by rw [show kk_ = 3 by omega, g_bw3]; exact px31_
        have f9_ : Sx28_.2.2.1 139 0 = S_.2.2.1 139 0 := fr_arr hFx30_ rfl
        have g9_ : ∀ z9_ : Int, ∀ j9_ : Nat, (sm_aI Sx28_ 139 0 (8 * a_ + k_).toNat z9_).2.2.1 139 0 j9_ = if j9_ = (8 * a_ + k_).toNat then z9_ else S_.2.2.1 139 0 j9_ := fun z9_ j9_ => by rw [rd_eq, f9_]
        have l1_ := g_bw_le (F_ := F_) (k_ := kk_) G1_ r0_ s0_
        refine sm_T_go 6 (c1 := (206, [some (.inr (.inr (some (13, 0)))), some (.inl s_), some (.inl a_), some (.inl b_), some (.inl nb_), some (.inl cy_), some (.inl sa_), some (.inl k_), some (.inl (S_.2.2.1 139 0 (8 * a_ + k_).toNat)), some (.inl (S_.2.2.1 139 0 (8 * b_ + k_).toNat)), some (.inl vx33_), none, none], [.inl a_, .inl 8, .inr (.inr (some (139, 0)))], Sx28_)) rfl ?_
        refine sm_T_bin (w := 8 * a_) rfl (bi_mul (by omega) (by omega) (by omega)) ?_
        refine sm_T_go 1 (c1 := (209, [some (.inr (.inr (some (13, 0)))), some (.inl s_), some (.inl a_), some (.inl b_), some (.inl nb_), some (.inl cy_), some (.inl sa_), some (.inl k_), some (.inl (S_.2.2.1 139 0 (8 * a_ + k_).toNat)), some (.inl (S_.2.2.1 139 0 (8 * b_ + k_).toNat)), some (.inl vx33_), none, none], [.inl k_, .inl (8 * a_), .inr (.inr (some (139, 0)))], Sx28_)) rfl ?_
        refine sm_T_bin (w := 8 * a_ + k_) rfl (bi_add (by omega) (by omega) (by omega)) ?_
        refine sm_T_go 1 (c1 := (212, [some (.inr (.inr (some (13, 0)))), some (.inl s_), some (.inl a_), some (.inl b_), some (.inl nb_), some (.inl cy_), some (.inl sa_), some (.inl k_), some (.inl (S_.2.2.1 139 0 (8 * a_ + k_).toNat)), some (.inl (S_.2.2.1 139 0 (8 * b_ + k_).toNat)), some (.inl vx33_), none, none], [.inl vx33_, .inl (8 * a_ + k_), .inr (.inr (some (139, 0)))], Sx28_)) rfl ?_
        refine sm_T_iast (n := 8192) rfl rfl (by omega) (by omega) ?_
        have hIx34_ : gi (sm_aI Sx28_ 139 0 (8 * a_ + k_).toNat vx33_) := gi_aI hIx29_ (show 0 ≤ vx33_ ∧ vx33_ ≤ 2047 from ⟨by omega, by omega⟩)
        have hFx35_ : ai_fr (sx_W vw_331w) S0_ (sm_aI Sx28_ 139 0 (8 * a_ + k_).toNat vx33_) := ai_fr_tr hFx32_ (ai_fr_aI rfl)
        refine sm_T_inc (a := 7) (z := 1) (v := k_) (w := k_ + 1) rfl rfl (by omega) (by omega) (by omega) ?_
        refine sm_T_go 1 (c1 := (17, [some (.inr (.inr (some (13, 0)))), some (.inl s_), some (.inl a_), some (.inl b_), some (.inl nb_), some (.inl cy_), some (.inl sa_), some (.inl (k_ + 1)), some (.inl (S_.2.2.1 139 0 (8 * a_ + k_).toNat)), some (.inl (S_.2.2.1 139 0 (8 * b_ + k_).toNat)), some (.inl vx33_), none, none], [], sm_aI Sx28_ 139 0 (8 * a_ + k_).toNat vx33_)) rfl ?_
        refine sm_T_wk [some (.inr (.inr (some (13, 0)))), some (.inl s_), some (.inl a_), some (.inl b_), some (.inl nb_), some (.inl cy_), some (.inl sa_), some (.inl (k_ + 1)), none, none, none, none, none] (by exact ⟨rfl, rfl, rfl, rfl, rfl, rfl, rfl, rfl, trivial⟩) ?_
        refine ih_ nb_ cy_ sa_ (k_ + 1) (sm_aI Sx28_ 139 0 (8 * a_ + k_).toNat vx33_) hIx34_ hFx35_ ⟨?_, ?_, ?_, ?_, trivial⟩ ?_
        · omega
        · omega
        · refine ⟨(g_bw F_ kk_ G1_ r0_ s0_).2, d_ ++ [(g_bw F_ kk_ G1_ r0_ s0_).1], r_, e_ ++ [s0_], t_, rgl_st e9_.1, ?_, ?_, ?_, ?_, ?_, fun z_ => ?_, by omega, ?_⟩
          · simp only [List.length_append, List.length_cons, List.length_nil]; push_cast; omega
          · simp only [List.length_append, List.length_cons, List.length_nil]; push_cast; omega
          · simp only [List.length_cons] at z3_; omega
          · simp only [List.length_cons] at z4_; push_cast at z4_; omega
          · rw [z5_, List.append_assoc]; rfl
          · have q1_ := z6_ (by omega)
            refine ⟨?_, ?_⟩
            · exact rwv_set (q_ := (8 * a_ + k_).toNat) q1_.1 (by omega) (fun j9_ => by rw [g9_, e9_.2.1 z_])
            · exact rwv_cg q1_.2 (fun j9_ hj_ => by rw [g9_, if_neg (by omega)])
          · rw [z8_]; exact g_z2_c
        · intro j_ hj_
          rw [g9_, if_neg (by omega)]
          exact h2_ j_ hj_
        · omega
set_option maxHeartbeats 1500000 in
set_option maxRecDepth 20000 in
theorem vc_331w {sc_ : Nat × (Nat → Int)} (s_ : Int) (a_ : Int) (b_ : Int) (F_ : Nat) (G_ : pGr) (x_ : List Int) (y_ : List Int) (kk_ : Int) (S0_ : sm_S) (hI_ : gi S0_) (hg_ : rgl F_ G_ S0_) (ha_ : 0 ≤ a_ ∧ a_ + 1 ≤ b_ ∧ b_ ≤ 1023) (hw_ : S0_.2.2.1 138 0 a_.toNat = (x_.length : Int)) (hn_ : x_.length = y_.length ∧ 1 ≤ x_.length ∧ x_.length ≤ 8) (hr_ : imq (G_.length ≤ 1001) (rwv (S0_.2.2.1 139 0) (8 * a_.toNat) x_ ∧ rwv (S0_.2.2.1 139 0) (8 * b_.toNat) y_)) (hs_ : (s_ = 124 ∧ kk_ = 1) ∨ (s_ = 94 ∧ kk_ = 2) ∨ (s_ = 38 ∧ kk_ = 3)) : sm_T (mt_P sc_) 3 331 (0, [some (.inr (.inr (some (13, 0)))), some (.inl s_), some (.inl a_), some (.inl b_), none, none, none, none, none, none, none, none, none], [], S0_) (fun ro9_ => ∃ u_ S1_, ro9_ = (.inl u_, S1_, 0) ∧ vq_331w s_ a_ b_ F_ G_ x_ y_ kk_ S0_ u_ S1_) := by
  have hF_ : ai_fr (sx_W vw_331w) S0_ S0_ := ai_fr_rf
  refine sm_T_go 3 (c1 := (5, [some (.inr (.inr (some (13, 0)))), some (.inl s_), some (.inl a_), some (.inl b_), none, none, none, none, none, none, none, none, none], [.inl a_, .inr (.inr (some (138, 0)))], S0_)) rfl ?_
  refine sm_T_iald (n := 1024) rfl rfl (by omega) (by omega) ?_
  have bx1_ : (-2147483648) ≤ S0_.2.2.1 138 0 a_.toNat ∧ S0_.2.2.1 138 0 a_.toNat ≤ 2147483647 := hI_.2 138 0 _
  refine sm_T_go 7 (c1 := (17, [some (.inr (.inr (some (13, 0)))), some (.inl s_), some (.inl a_), some (.inl b_), some (.inl (S0_.2.2.1 138 0 a_.toNat)), some (.inl 0), some (.inl 1), some (.inl 0), none, none, none, none, none], [], S0_)) rfl ?_
  refine (vl_331w s_ a_ b_ F_ G_ x_ y_ kk_ S0_ hg_ ha_ hw_ hn_ hr_ hs_ _) (S0_.2.2.1 138 0 a_.toNat) 0 1 0 S0_ hI_ hF_ ⟨?_, ?_, ?_, ?_, trivial⟩ (Nat.lt_succ_self _)
  · omega
  · omega
  · exact ⟨G_, [], x_, [], y_, hg_, rfl, rfl, hn_.1, by omega, rfl, hr_, Nat.le_refl _, rfl⟩
  · (intro j_ hj_; rfl)
end
/-! 99.zc2c -/
section
/-! M_.join -/
def vw_331p : sx_Wl := ([(13, 37)], [139, 140, 141, 142, 143], [])
def vq_331p (s_ : Int) (a_ : Int) (b_ : Int) (F_ : Nat) (G_ : pGr) (x_ : List Int) (y_ : List Int) (S0_ : sm_S) (u_ : Option sm_V) (S1_ : sm_S) : Prop := u_ = none ∧ gi S1_ ∧ ai_fr (sx_W vw_331p) S0_ S1_ ∧ (rgl F_ (g_op F_ 5 G_ x_ y_).2 S1_ ∧ (imq ((g_op F_ 5 G_ x_ y_).2.length ≤ 1001) (rwv (S1_.2.2.1 139 0) (8 * a_.toNat) (g_op F_ 5 G_ x_ y_).1)) ∧ ∀ j_ : Nat, j_ < 8 * a_.toNat ∨ 8 * a_.toNat + 8 ≤ j_ → S1_.2.2.1 139 0 j_ = S0_.2.2.1 139 0 j_)
set_option maxHeartbeats 1500000 in
set_option maxRecDepth 20000 in
theorem vl_331p {sc_ : Nat × (Nat → Int)} (s_ : Int) (a_ : Int) (b_ : Int) (F_ : Nat) (G_ : pGr) (x_ : List Int) (y_ : List Int) (S0_ : sm_S) (hg_ : rgl F_ G_ S0_) (ha_ : 0 ≤ a_ ∧ a_ + 1 ≤ b_ ∧ b_ ≤ 1023) (hw_ : S0_.2.2.1 138 0 a_.toNat = (x_.length : Int)) (hn_ : x_.length = y_.length ∧ 1 ≤ x_.length ∧ x_.length ≤ 8) (hr_ : imq (G_.length ≤ 1001) (rwv (S0_.2.2.1 139 0) (8 * a_.toNat) x_ ∧ rwv (S0_.2.2.1 139 0) (8 * b_.toNat) y_)) (hs_ : s_ = 43) : ∀ nn_ : Nat, (∀ (nb_ : Int) (cy_ : Int) (sa_ : Int) (k_ : Int) (S_ : sm_S), gi S_ → ai_fr (sx_W vw_331p) S0_ S_ → ((0 ≤ k_ ∧ k_ ≤ nb_ ∧ nb_ = (x_.length : Int)) ∧ ((0 ≤ cy_ ∧ cy_ ≤ 2047) ∧ (0 ≤ sa_ ∧ sa_ ≤ 2047)) ∧ (∃ (G1_ : pGr) (c1_ : Int) (d_ r_ e_ t_ : List Int), rgl F_ G1_ S_ ∧ (d_.length : Int) = k_ ∧ (e_.length : Int) = k_ ∧ r_.length = t_.length ∧ k_ + r_.length = nb_ ∧ y_ = e_ ++ t_ ∧ (imq (G1_.length ≤ 1001) (rwv (S_.2.2.1 139 0) (8 * a_.toNat) (d_ ++ r_) ∧ rwv (S_.2.2.1 139 0) (8 * b_.toNat) y_)) ∧ G_.length ≤ G1_.length ∧ (imq (G1_.length ≤ 1001) (cy_ = c1_)) ∧ (g_su F_ G_ 0 x_ y_) = (d_ ++ (g_su F_ G1_ c1_ r_ t_).1, (g_su F_ G1_ c1_ r_ t_).2)) ∧ (∀ j_ : Nat, j_ < 8 * a_.toNat ∨ 8 * a_.toNat + 8 ≤ j_ → S_.2.2.1 139 0 j_ = S0_.2.2.1 139 0 j_) ∧ True) → ((nb_ - k_).toNat) < nn_ → sm_T (mt_P sc_) 3 331 (17, [some (.inr (.inr (some (13, 0)))), some (.inl s_), some (.inl a_), some (.inl b_), some (.inl nb_), some (.inl cy_), some (.inl sa_), some (.inl k_), none, none, none, none, none], [], S_) (fun ro9_ => ∃ u_ S1_, ro9_ = (.inl u_, S1_, 0) ∧ vq_331p s_ a_ b_ F_ G_ x_ y_ S0_ u_ S1_)) := by
  intro nn_
  induction nn_ with
  | zero => exact fun _ _ _ _ _ _ _ _ h_ => absurd h_ (Nat.not_lt_zero _)
  | succ nn_ ih_ =>
    rintro nb_ cy_ sa_ k_ S_ hI_ hF_ ⟨h0_, hb0_, h1_, h2_, -⟩ hm_
    obtain ⟨G1_, c1_, d_, r_, e_, t_, z1_, z2_, z2b, z3_, z4_, z5_, z6_, z7_, zc_, z8_⟩ := h1_
    refine sm_T_go 2 (c1 := (21, [some (.inr (.inr (some (13, 0)))), some (.inl s_), some (.inl a_), some (.inl b_), some (.inl nb_), some (.inl cy_), some (.inl sa_), some (.inl k_), none, none, none, none, none], [.inl nb_, .inl k_], S_)) rfl ?_
    refine sm_T_br (a := 3) (z := 198) rfl (fun cx1_ => ?_) (fun cx1_ => ?_)
    · have cx1_ : nb_ ≤ k_ := of_decide_eq_true cx1_
      refine sm_T_go 4 (c1 := (226, [some (.inr (.inr (some (13, 0)))), some (.inl s_), some (.inl a_), some (.inl b_), some (.inl nb_), some (.inl cy_), some (.inl sa_), some (.inl k_), none, none, none, none, none], [.inl a_, .inl 8, .inr (.inr (some (139, 0)))], S_)) rfl ?_
      refine sm_T_bin (w := 8 * a_) rfl (bi_mul (by omega) (by omega) (by omega)) ?_
      refine sm_T_go 2 (c1 := (231, [some (.inr (.inr (some (13, 0)))), some (.inl s_), some (.inl a_), some (.inl b_), some (.inl nb_), some (.inl cy_), some (.inl sa_), some (.inl k_), none, none, none, none, none], [.inl 257, .inl s_, .inl (8 * a_), .inr (.inr (some (139, 0)))], S_)) rfl ?_
      refine sm_T_br (a := 1) (z := 8) rfl (fun cx2_ => ?_) (fun cx2_ => ?_)
      · have cx2_ : s_ ≠ 257 := of_decide_eq_true cx2_
        refine sm_T_go 4 (c1 := (246, [some (.inr (.inr (some (13, 0)))), some (.inl s_), some (.inl a_), some (.inl b_), some (.inl nb_), some (.inl cy_), some (.inl sa_), some (.inl k_), none, none, none, none, none], [.inl a_, .inl 8, .inr (.inr (some (139, 0))), .inl (8 * a_), .inr (.inr (some (139, 0)))], S_)) rfl ?_
        refine sm_T_bin (w := 8 * a_) rfl (bi_mul (by omega) (by omega) (by omega)) ?_
        refine sm_T_iald (n := 8192) rfl rfl (by omega) (by omega) ?_
        have bx3_ : 0 ≤ S_.2.2.1 139 0 (8 * a_).toNat ∧ S_.2.2.1 139 0 (8 * a_).toNat ≤ 2047 := hI_.2 139 0 _
        refine sm_T_iast (n := 8192) rfl rfl (by omega) (by omega) ?_
        have hIx4_ : gi (sm_aI S_ 139 0 (8 * a_).toNat (S_.2.2.1 139 0 (8 * a_).toNat)) := gi_aI hI_ (show 0 ≤ (S_.2.2.1 139 0 (8 * a_).toNat) ∧ (S_.2.2.1 139 0 (8 * a_).toNat) ≤ 2047 from ⟨by omega, by omega⟩)
        have hFx5_ : ai_fr (sx_W vw_331p) S0_ (sm_aI S_ 139 0 (8 * a_).toNat (S_.2.2.1 139 0 (8 * a_).toNat)) := ai_fr_tr hF_ (ai_fr_aI rfl)
        refine sm_T_rv rfl ⟨_, _, rfl, rfl, hIx4_, hFx5_, ?_⟩
        have kr_ : r_ = [] := List.eq_nil_of_length_eq_zero (by omega)
        have ks_ : t_ = [] := List.eq_nil_of_length_eq_zero (by omega)
        rw [kr_, ks_] at z8_
        have q8_ : g_su F_ G1_ c1_ [] [] = ([], G1_) := rfl
        rw [q8_, List.append_nil] at z8_
        rw [g_op5, z8_]
        refine ⟨rgl_st z1_, fun z_ => ?_, fun j_ hj_ => ?_⟩
        · have q9_ := (z6_ z_).1; rw [kr_, List.append_nil] at q9_; exact rwv_cg q9_ (fun j9_ _ => rd_self)
        · rw [rd_self]; exact h2_ j_ hj_
      · have cx2_ : ¬ (s_ ≠ 257) := of_decide_eq_false cx2_
        exfalso; omega
    · have cx1_ : ¬ (nb_ ≤ k_) := of_decide_eq_false cx1_
      obtain ⟨r0_, r_, rfl⟩ : ∃ r0_ r1_, r_ = r0_ :: r1_ := by cases r_ with | nil => (simp only [List.length_nil] at z4_; omega) | cons p_ q_ => exact ⟨p_, q_, rfl⟩
      obtain ⟨s0_, t_, rfl⟩ : ∃ s0_ s1_, t_ = s0_ :: s1_ := by cases t_ with | nil => (simp only [List.length_nil, List.length_cons] at z3_ z4_; omega) | cons p_ q_ => exact ⟨p_, q_, rfl⟩
      have rx : imq (G1_.length ≤ 1001) (S_.2.2.1 139 0 (8 * a_ + k_).toNat = r0_ ∧ S_.2.2.1 139 0 (8 * b_ + k_).toNat = s0_) := fun z_ => by rw [show (8 * a_ + k_).toNat = 8 * a_.toNat + d_.length by omega, show (8 * b_ + k_).toNat = 8 * b_.toNat + e_.length by omega]; exact ⟨rwv_m (z6_ z_).1, rwv_m (by rw [← z5_]; exact (z6_ z_).2)⟩
      have l1_ := g_xo_le (F_ := F_) (G_ := G1_) (a_ := r0_) (b_ := s0_)
      have l2_ := g_xo_le (F_ := F_) (G_ := (g_xo F_ G1_ r0_ s0_).2) (a_ := (g_xo F_ G1_ r0_ s0_).1) (b_ := c1_)
      have l3_ := (g_an_le (F_ := F_) (G_ := (g_xo F_ (g_xo F_ G1_ r0_ s0_).2 (g_xo F_ G1_ r0_ s0_).1 c1_).2) (a_ := r0_) (b_ := s0_)).1
      have l4_ := (g_an_le (F_ := F_) (G_ := (g_an F_ (g_xo F_ (g_xo F_ G1_ r0_ s0_).2 (g_xo F_ G1_ r0_ s0_).1 c1_).2 r0_ s0_).2) (a_ := (g_xo F_ G1_ r0_ s0_).1) (b_ := c1_)).1
      have l5_ := g_or_le (F_ := F_) (G_ := (g_an F_ (g_an F_ (g_xo F_ (g_xo F_ G1_ r0_ s0_).2 (g_xo F_ G1_ r0_ s0_).1 c1_).2 r0_ s0_).2 (g_xo F_ G1_ r0_ s0_).1 c1_).2) (a_ := (g_an F_ (g_xo F_ (g_xo F_ G1_ r0_ s0_).2 (g_xo F_ G1_ r0_ s0_).1 c1_).2 r0_ s0_).1) (b_ := (g_an F_ (g_an F_ (g_xo F_ (g_xo F_ G1_ r0_ s0_).2 (g_xo F_ G1_ r0_ s0_).1 c1_).2 r0_ s0_).2 (g_xo F_ G1_ r0_ s0_).1 c1_).1)
      refine sm_T_go 4 (c1 := (31, [some (.inr (.inr (some (13, 0)))), some (.inl s_), some (.inl a_), some (.inl b_), some (.inl nb_), some (.inl cy_), some (.inl sa_), some (.inl k_), none, none, none, none, none], [.inl a_, .inl 8, .inr (.inr (some (139, 0)))], S_)) rfl ?_
      refine sm_T_bin (w := 8 * a_) rfl (bi_mul (by omega) (by omega) (by omega)) ?_
      refine sm_T_go 1 (c1 := (34, [some (.inr (.inr (some (13, 0)))), some (.inl s_), some (.inl a_), some (.inl b_), some (.inl nb_), some (.inl cy_), some (.inl sa_), some (.inl k_), none, none, none, none, none], [.inl k_, .inl (8 * a_), .inr (.inr (some (139, 0)))], S_)) rfl ?_
      refine sm_T_bin (w := 8 * a_ + k_) rfl (bi_add (by omega) (by omega) (by omega)) ?_
      refine sm_T_iald (n := 8192) rfl rfl (by omega) (by omega) ?_
      have bx6_ : 0 ≤ S_.2.2.1 139 0 (8 * a_ + k_).toNat ∧ S_.2.2.1 139 0 (8 * a_ + k_).toNat ≤ 2047 := hI_.2 139 0 _
      refine sm_T_go 5 (c1 := (45, [some (.inr (.inr (some (13, 0)))), some (.inl s_), some (.inl a_), some (.inl b_), some (.inl nb_), some (.inl cy_), some (.inl sa_), some (.inl k_), some (.inl (S_.2.2.1 139 0 (8 * a_ + k_).toNat)), none, none, none, none], [.inl b_, .inl 8, .inr (.inr (some (139, 0)))], S_)) rfl ?_
      refine sm_T_bin (w := 8 * b_) rfl (bi_mul (by omega) (by omega) (by omega)) ?_
      refine sm_T_go 1 (c1 := (48, [some (.inr (.inr (some (13, 0)))), some (.inl s_), some (.inl a_), some (.inl b_), some (.inl nb_), some (.inl cy_), some (.inl sa_), some (.inl k_), some (.inl (S_.2.2.1 139 0 (8 * a_ + k_).toNat)), none, none, none, none], [.inl k_, .inl (8 * b_), .inr (.inr (some (139, 0)))], S_)) rfl ?_
      refine sm_T_bin (w := 8 * b_ + k_) rfl (bi_add (by omega) (by omega) (by omega)) ?_
      refine sm_T_iald (n := 8192) rfl rfl (by omega) (by omega) ?_
      have bx7_ : 0 ≤ S_.2.2.1 139 0 (8 * b_ + k_).toNat ∧ S_.2.2.1 139 0 (8 * b_ + k_).toNat ≤ 2047 := hI_.2 139 0 _
      refine sm_T_go 5 (c1 := (58, [some (.inr (.inr (some (13, 0)))), some (.inl s_), some (.inl a_), some (.inl b_), some (.inl nb_), some (.inl cy_), some (.inl sa_), some (.inl k_), some (.inl (S_.2.2.1 139 0 (8 * a_ + k_).toNat)), some (.inl (S_.2.2.1 139 0 (8 * b_ + k_).toNat)), some (.inl 0), none, none], [.inl 38, .inl s_], S_)) rfl ?_
      refine sm_T_br (a := 1) (z := 16) rfl (fun cx8_ => ?_) (fun cx8_ => ?_)
      · have cx8_ : s_ ≠ 38 := of_decide_eq_true cx8_
        refine sm_T_go 2 (c1 := (77, [some (.inr (.inr (some (13, 0)))), some (.inl s_), some (.inl a_), some (.inl b_), some (.inl nb_), some (.inl cy_), some (.inl sa_), some (.inl k_), some (.inl (S_.2.2.1 139 0 (8 * a_ + k_).toNat)), some (.inl (S_.2.2.1 139 0 (8 * b_ + k_).toNat)), some (.inl 0), none, none], [.inl 124, .inl s_], S_)) rfl ?_
        refine sm_T_br (a := 1) (z := 16) rfl (fun cx9_ => ?_) (fun cx9_ => ?_)
        · have cx9_ : s_ ≠ 124 := of_decide_eq_true cx9_
          refine sm_T_go 2 (c1 := (96, [some (.inr (.inr (some (13, 0)))), some (.inl s_), some (.inl a_), some (.inl b_), some (.inl nb_), some (.inl cy_), some (.inl sa_), some (.inl k_), some (.inl (S_.2.2.1 139 0 (8 * a_ + k_).toNat)), some (.inl (S_.2.2.1 139 0 (8 * b_ + k_).toNat)), some (.inl 0), none, none], [.inl 94, .inl s_], S_)) rfl ?_
          refine sm_T_br (a := 1) (z := 16) rfl (fun cx10_ => ?_) (fun cx10_ => ?_)
          · have cx10_ : s_ ≠ 94 := of_decide_eq_true cx10_
            refine sm_T_go 2 (c1 := (115, [some (.inr (.inr (some (13, 0)))), some (.inl s_), some (.inl a_), some (.inl b_), some (.inl nb_), some (.inl cy_), some (.inl sa_), some (.inl k_), some (.inl (S_.2.2.1 139 0 (8 * a_ + k_).toNat)), some (.inl (S_.2.2.1 139 0 (8 * b_ + k_).toNat)), some (.inl 0), none, none], [.inl 43, .inl s_], S_)) rfl ?_
            refine sm_T_br (a := 1) (z := 52) rfl (fun cx11_ => ?_) (fun cx11_ => ?_)
            · have cx11_ : s_ ≠ 43 := of_decide_eq_true cx11_
              exfalso; omega
            · have cx11_ : ¬ (s_ ≠ 43) := of_decide_eq_false cx11_
              refine sm_T_go 3 (c1 := (123, [some (.inr (.inr (some (13, 0)))), some (.inl s_), some (.inl a_), some (.inl b_), some (.inl nb_), some (.inl cy_), some (.inl sa_), some (.inl k_), some (.inl (S_.2.2.1 139 0 (8 * a_ + k_).toNat)), some (.inl (S_.2.2.1 139 0 (8 * b_ + k_).toNat)), some (.inl 0), none, none], [.inl (S_.2.2.1 139 0 (8 * b_ + k_).toNat), .inl (S_.2.2.1 139 0 (8 * a_ + k_).toNat), .inr (.inr (some (13, 0)))], S_)) rfl ?_
              refine sm_T_cal (d1 := 2) (Q1 := vq_330 (S_.2.2.1 139 0 (8 * a_ + k_).toNat) (S_.2.2.1 139 0 (8 * b_ + k_).toNat) F_ G1_ r0_ s0_ S_) rfl rfl (by decide) (vc_330 (S_.2.2.1 139 0 (8 * a_ + k_).toNat) (S_.2.2.1 139 0 (8 * b_ + k_).toNat) F_ G1_ r0_ s0_ S_ hI_ (by exact z1_) (by omega) (by omega) (by exact rx)) (fun u_ Sx12_ px15_ => ?_)
              obtain ⟨vx17_, rfl, hIx13_, hFx14_, px15_⟩ := px15_
              have hFx16_ : ai_fr (sx_W vw_331p) S0_ Sx12_ := ai_fr_tr hF_ (fr_le hFx14_ rfl)
              have e39_ := px15_
              have f123_ : Sx12_.2.2.1 139 0 = S_.2.2.1 139 0 := fr_arr hFx14_ rfl
              refine sm_T_go 4 (c1 := (133, [some (.inr (.inr (some (13, 0)))), some (.inl s_), some (.inl a_), some (.inl b_), some (.inl nb_), some (.inl cy_), some (.inl sa_), some (.inl k_), some (.inl (S_.2.2.1 139 0 (8 * a_ + k_).toNat)), some (.inl (S_.2.2.1 139 0 (8 * b_ + k_).toNat)), some (.inl 0), some (.inl vx17_), none], [.inl cy_, .inl vx17_, .inr (.inr (some (13, 0)))], Sx12_)) rfl ?_
              refine sm_T_cal (d1 := 2) (Q1 := vq_330 vx17_ cy_ F_ (g_xo F_ G1_ r0_ s0_).2 (g_xo F_ G1_ r0_ s0_).1 c1_ Sx12_) rfl rfl (by decide) (vc_330 vx17_ cy_ F_ (g_xo F_ G1_ r0_ s0_).2 (g_xo F_ G1_ r0_ s0_).1 c1_ Sx12_ hIx13_ (by exact e39_.1) (by omega) (by omega) (by (intro z_; exact ⟨e39_.2.1 z_, zc_ (by omega)⟩))) (fun u_ Sx18_ px21_ => ?_)
              obtain ⟨vx23_, rfl, hIx19_, hFx20_, px21_⟩ := px21_
              have hFx22_ : ai_fr (sx_W vw_331p) S0_ Sx18_ := ai_fr_tr hFx16_ (fr_le hFx20_ rfl)
              have e57_ := px21_
              have f133_ : Sx18_.2.2.1 139 0 = S_.2.2.1 139 0 := (fr_arr hFx20_ rfl).trans f123_
              refine sm_T_go 4 (c1 := (143, [some (.inr (.inr (some (13, 0)))), some (.inl s_), some (.inl a_), some (.inl b_), some (.inl nb_), some (.inl cy_), some (.inl sa_), some (.inl k_), some (.inl (S_.2.2.1 139 0 (8 * a_ + k_).toNat)), some (.inl (S_.2.2.1 139 0 (8 * b_ + k_).toNat)), some (.inl vx23_), some (.inl vx17_), none], [.inl (S_.2.2.1 139 0 (8 * b_ + k_).toNat), .inl (S_.2.2.1 139 0 (8 * a_ + k_).toNat), .inr (.inr (some (13, 0)))], Sx18_)) rfl ?_
              refine sm_T_cal (d1 := 0) (Q1 := vq_328 (S_.2.2.1 139 0 (8 * a_ + k_).toNat) (S_.2.2.1 139 0 (8 * b_ + k_).toNat) F_ (g_xo F_ (g_xo F_ G1_ r0_ s0_).2 (g_xo F_ G1_ r0_ s0_).1 c1_).2 r0_ s0_ Sx18_) rfl rfl (by decide) (vc_328 (S_.2.2.1 139 0 (8 * a_ + k_).toNat) (S_.2.2.1 139 0 (8 * b_ + k_).toNat) F_ (g_xo F_ (g_xo F_ G1_ r0_ s0_).2 (g_xo F_ G1_ r0_ s0_).1 c1_).2 r0_ s0_ Sx18_ hIx19_ (by exact e57_.1) (by omega) (by omega) (by (intro z_; exact rx (by omega)))) (fun u_ Sx24_ px27_ => ?_)
              obtain ⟨vx29_, rfl, hIx25_, hFx26_, px27_⟩ := px27_
              have hFx28_ : ai_fr (sx_W vw_331p) S0_ Sx24_ := ai_fr_tr hFx22_ (fr_le hFx26_ rfl)
              have e66_ := px27_
              have f143_ : Sx24_.2.2.1 139 0 = S_.2.2.1 139 0 := (fr_arr hFx26_ rfl).trans f133_
              refine sm_T_go 6 (c1 := (156, [some (.inr (.inr (some (13, 0)))), some (.inl s_), some (.inl a_), some (.inl b_), some (.inl nb_), some (.inl cy_), some (.inl sa_), some (.inl k_), some (.inl (S_.2.2.1 139 0 (8 * a_ + k_).toNat)), some (.inl (S_.2.2.1 139 0 (8 * b_ + k_).toNat)), some (.inl vx23_), some (.inl vx17_), some (.inl vx29_)], [.inl cy_, .inl vx17_, .inr (.inr (some (13, 0))), .inl vx29_, .inr (.inr (some (13, 0)))], Sx24_)) rfl ?_
              refine sm_T_cal (d1 := 0) (Q1 := vq_328 vx17_ cy_ F_ (g_an F_ (g_xo F_ (g_xo F_ G1_ r0_ s0_).2 (g_xo F_ G1_ r0_ s0_).1 c1_).2 r0_ s0_).2 (g_xo F_ G1_ r0_ s0_).1 c1_ Sx24_) rfl rfl (by decide) (vc_328 vx17_ cy_ F_ (g_an F_ (g_xo F_ (g_xo F_ G1_ r0_ s0_).2 (g_xo F_ G1_ r0_ s0_).1 c1_).2 r0_ s0_).2 (g_xo F_ G1_ r0_ s0_).1 c1_ Sx24_ hIx25_ (by exact e66_.1) (by omega) (by omega) (by (intro z_; exact ⟨e39_.2.1 (by omega), zc_ (by omega)⟩))) (fun u_ Sx30_ px33_ => ?_)
              obtain ⟨vx35_, rfl, hIx31_, hFx32_, px33_⟩ := px33_
              have hFx34_ : ai_fr (sx_W vw_331p) S0_ Sx30_ := ai_fr_tr hFx28_ (fr_le hFx32_ rfl)
              have e79_ := px33_
              have f156_ : Sx30_.2.2.1 139 0 = S_.2.2.1 139 0 := (fr_arr hFx32_ rfl).trans f143_
              refine sm_T_cal (d1 := 1) (Q1 := vq_329 vx29_ vx35_ F_ (g_an F_ (g_an F_ (g_xo F_ (g_xo F_ G1_ r0_ s0_).2 (g_xo F_ G1_ r0_ s0_).1 c1_).2 r0_ s0_).2 (g_xo F_ G1_ r0_ s0_).1 c1_).2 (g_an F_ (g_xo F_ (g_xo F_ G1_ r0_ s0_).2 (g_xo F_ G1_ r0_ s0_).1 c1_).2 r0_ s0_).1 (g_an F_ (g_an F_ (g_xo F_ (g_xo F_ G1_ r0_ s0_).2 (g_xo F_ G1_ r0_ s0_).1 c1_).2 r0_ s0_).2 (g_xo F_ G1_ r0_ s0_).1 c1_).1 Sx30_) rfl rfl (by decide) (vc_329 vx29_ vx35_ F_ (g_an F_ (g_an F_ (g_xo F_ (g_xo F_ G1_ r0_ s0_).2 (g_xo F_ G1_ r0_ s0_).1 c1_).2 r0_ s0_).2 (g_xo F_ G1_ r0_ s0_).1 c1_).2 (g_an F_ (g_xo F_ (g_xo F_ G1_ r0_ s0_).2 (g_xo F_ G1_ r0_ s0_).1 c1_).2 r0_ s0_).1 (g_an F_ (g_an F_ (g_xo F_ (g_xo F_ G1_ r0_ s0_).2 (g_xo F_ G1_ r0_ s0_).1 c1_).2 r0_ s0_).2 (g_xo F_ G1_ r0_ s0_).1 c1_).1 Sx30_ hIx31_ (by exact e79_.1) (by omega) (by omega) (by (intro z_; exact ⟨e66_.2.1 (by omega), e79_.2.1 (by omega)⟩))) (fun u_ Sx36_ px39_ => ?_)
              obtain ⟨vx41_, rfl, hIx37_, hFx38_, px39_⟩ := px39_
              have hFx40_ : ai_fr (sx_W vw_331p) S0_ Sx36_ := ai_fr_tr hFx34_ (fr_le hFx38_ rfl)
              have e82_ := px39_
              have f159_ : Sx36_.2.2.1 139 0 = S_.2.2.1 139 0 := (fr_arr hFx38_ rfl).trans f156_
              have g9_ : ∀ z9_ : Int, ∀ j9_ : Nat, (sm_aI Sx36_ 139 0 (8 * a_ + k_).toNat z9_).2.2.1 139 0 j9_ = if j9_ = (8 * a_ + k_).toNat then z9_ else S_.2.2.1 139 0 j9_ := fun z9_ j9_ => by rw [rd_eq, f159_]
              refine sm_T_go 6 (c1 := (206, [some (.inr (.inr (some (13, 0)))), some (.inl s_), some (.inl a_), some (.inl b_), some (.inl nb_), some (.inl vx41_), some (.inl sa_), some (.inl k_), some (.inl (S_.2.2.1 139 0 (8 * a_ + k_).toNat)), some (.inl (S_.2.2.1 139 0 (8 * b_ + k_).toNat)), some (.inl vx23_), some (.inl vx17_), some (.inl vx29_)], [.inl a_, .inl 8, .inr (.inr (some (139, 0)))], Sx36_)) rfl ?_
              refine sm_T_bin (w := 8 * a_) rfl (bi_mul (by omega) (by omega) (by omega)) ?_
              refine sm_T_go 1 (c1 := (209, [some (.inr (.inr (some (13, 0)))), some (.inl s_), some (.inl a_), some (.inl b_), some (.inl nb_), some (.inl vx41_), some (.inl sa_), some (.inl k_), some (.inl (S_.2.2.1 139 0 (8 * a_ + k_).toNat)), some (.inl (S_.2.2.1 139 0 (8 * b_ + k_).toNat)), some (.inl vx23_), some (.inl vx17_), some (.inl vx29_)], [.inl k_, .inl (8 * a_), .inr (.inr (some (139, 0)))], Sx36_)) rfl ?_
              refine sm_T_bin (w := 8 * a_ + k_) rfl (bi_add (by omega) (by omega) (by omega)) ?_
              refine sm_T_go 1 (c1 := (212, [some (.inr (.inr (some (13, 0)))), some (.inl s_), some (.inl a_), some (.inl b_), some (.inl nb_), some (.inl vx41_), some (.inl sa_), some (.inl k_), some (.inl (S_.2.2.1 139 0 (8 * a_ + k_).toNat)), some (.inl (S_.2.2.1 139 0 (8 * b_ + k_).toNat)), some (.inl vx23_), some (.inl vx17_), some (.inl vx29_)], [.inl vx23_, .inl (8 * a_ + k_), .inr (.inr (some (139, 0)))], Sx36_)) rfl ?_
              refine sm_T_iast (n := 8192) rfl rfl (by omega) (by omega) ?_
              have hIx42_ : gi (sm_aI Sx36_ 139 0 (8 * a_ + k_).toNat vx23_) := gi_aI hIx37_ (show 0 ≤ vx23_ ∧ vx23_ ≤ 2047 from ⟨by omega, by omega⟩)
              have hFx43_ : ai_fr (sx_W vw_331p) S0_ (sm_aI Sx36_ 139 0 (8 * a_ + k_).toNat vx23_) := ai_fr_tr hFx40_ (ai_fr_aI rfl)
              refine sm_T_inc (a := 7) (z := 1) (v := k_) (w := k_ + 1) rfl rfl (by omega) (by omega) (by omega) ?_
              refine sm_T_go 1 (c1 := (17, [some (.inr (.inr (some (13, 0)))), some (.inl s_), some (.inl a_), some (.inl b_), some (.inl nb_), some (.inl vx41_), some (.inl sa_), some (.inl (k_ + 1)), some (.inl (S_.2.2.1 139 0 (8 * a_ + k_).toNat)), some (.inl (S_.2.2.1 139 0 (8 * b_ + k_).toNat)), some (.inl vx23_), some (.inl vx17_), some (.inl vx29_)], [], sm_aI Sx36_ 139 0 (8 * a_ + k_).toNat vx23_)) rfl ?_
              refine sm_T_wk [some (.inr (.inr (some (13, 0)))), some (.inl s_), some (.inl a_), some (.inl b_), some (.inl nb_), some (.inl vx41_), some (.inl sa_), some (.inl (k_ + 1)), none, none, none, none, none] (by exact ⟨rfl, rfl, rfl, rfl, rfl, rfl, rfl, rfl, trivial⟩) ?_
              refine ih_ nb_ vx41_ sa_ (k_ + 1) (sm_aI Sx36_ 139 0 (8 * a_ + k_).toNat vx23_) hIx42_ hFx43_ ⟨?_, ?_, ?_, ?_, trivial⟩ ?_
              · omega
              · omega
              · refine ⟨(g_s3 F_ G1_ c1_ r0_ s0_).2.2, (g_s3 F_ G1_ c1_ r0_ s0_).2.1, d_ ++ [(g_s3 F_ G1_ c1_ r0_ s0_).1], r_, e_ ++ [s0_], t_, rgl_st e82_.1, ?_, ?_, ?_, ?_, ?_, fun z_ => ?_, ?_, fun z_ => e82_.2.1 z_, ?_⟩
                · simp only [List.length_append, List.length_cons, List.length_nil]; push_cast; omega
                · simp only [List.length_append, List.length_cons, List.length_nil]; push_cast; omega
                · simp only [List.length_cons] at z3_; omega
                · simp only [List.length_cons] at z4_; push_cast at z4_; omega
                · rw [z5_, List.append_assoc]; rfl
                · have zz_ : (g_or F_ (g_an F_ (g_an F_ (g_xo F_ (g_xo F_ G1_ r0_ s0_).2 (g_xo F_ G1_ r0_ s0_).1 c1_).2 r0_ s0_).2 (g_xo F_ G1_ r0_ s0_).1 c1_).2 (g_an F_ (g_xo F_ (g_xo F_ G1_ r0_ s0_).2 (g_xo F_ G1_ r0_ s0_).1 c1_).2 r0_ s0_).1 (g_an F_ (g_an F_ (g_xo F_ (g_xo F_ G1_ r0_ s0_).2 (g_xo F_ G1_ r0_ s0_).1 c1_).2 r0_ s0_).2 (g_xo F_ G1_ r0_ s0_).1 c1_).1).2.length ≤ 1001 := z_
                  have q1_ := z6_ (by omega)
                  refine ⟨?_, ?_⟩
                  · exact rwv_set (q_ := (8 * a_ + k_).toNat) q1_.1 (by omega) (fun j9_ => by rw [g9_, e57_.2.1 (by omega)]; rfl)
                  · exact rwv_cg q1_.2 (fun j9_ hj_ => by rw [g9_, if_neg (by omega)])
                · show _ ≤ (g_or F_ (g_an F_ (g_an F_ (g_xo F_ (g_xo F_ G1_ r0_ s0_).2 (g_xo F_ G1_ r0_ s0_).1 c1_).2 r0_ s0_).2 (g_xo F_ G1_ r0_ s0_).1 c1_).2 (g_an F_ (g_xo F_ (g_xo F_ G1_ r0_ s0_).2 (g_xo F_ G1_ r0_ s0_).1 c1_).2 r0_ s0_).1 (g_an F_ (g_an F_ (g_xo F_ (g_xo F_ G1_ r0_ s0_).2 (g_xo F_ G1_ r0_ s0_).1 c1_).2 r0_ s0_).2 (g_xo F_ G1_ r0_ s0_).1 c1_).1).2.length; omega
                · rw [z8_]; exact g_su_c
              · intro j_ hj_
                rw [g9_, if_neg (by omega)]
                exact h2_ j_ hj_
              · omega
          · have cx10_ : ¬ (s_ ≠ 94) := of_decide_eq_false cx10_
            exfalso; omega
        · have cx9_ : ¬ (s_ ≠ 124) := of_decide_eq_false cx9_
          exfalso; omega
      · have cx8_ : ¬ (s_ ≠ 38) := of_decide_eq_false cx8_
        exfalso; omega
set_option maxHeartbeats 1500000 in
set_option maxRecDepth 20000 in
theorem vc_331p {sc_ : Nat × (Nat → Int)} (s_ : Int) (a_ : Int) (b_ : Int) (F_ : Nat) (G_ : pGr) (x_ : List Int) (y_ : List Int) (S0_ : sm_S) (hI_ : gi S0_) (hg_ : rgl F_ G_ S0_) (ha_ : 0 ≤ a_ ∧ a_ + 1 ≤ b_ ∧ b_ ≤ 1023) (hw_ : S0_.2.2.1 138 0 a_.toNat = (x_.length : Int)) (hn_ : x_.length = y_.length ∧ 1 ≤ x_.length ∧ x_.length ≤ 8) (hr_ : imq (G_.length ≤ 1001) (rwv (S0_.2.2.1 139 0) (8 * a_.toNat) x_ ∧ rwv (S0_.2.2.1 139 0) (8 * b_.toNat) y_)) (hs_ : s_ = 43) : sm_T (mt_P sc_) 3 331 (0, [some (.inr (.inr (some (13, 0)))), some (.inl s_), some (.inl a_), some (.inl b_), none, none, none, none, none, none, none, none, none], [], S0_) (fun ro9_ => ∃ u_ S1_, ro9_ = (.inl u_, S1_, 0) ∧ vq_331p s_ a_ b_ F_ G_ x_ y_ S0_ u_ S1_) := by
  have hF_ : ai_fr (sx_W vw_331p) S0_ S0_ := ai_fr_rf
  refine sm_T_go 3 (c1 := (5, [some (.inr (.inr (some (13, 0)))), some (.inl s_), some (.inl a_), some (.inl b_), none, none, none, none, none, none, none, none, none], [.inl a_, .inr (.inr (some (138, 0)))], S0_)) rfl ?_
  refine sm_T_iald (n := 1024) rfl rfl (by omega) (by omega) ?_
  have bx1_ : (-2147483648) ≤ S0_.2.2.1 138 0 a_.toNat ∧ S0_.2.2.1 138 0 a_.toNat ≤ 2147483647 := hI_.2 138 0 _
  refine sm_T_go 7 (c1 := (17, [some (.inr (.inr (some (13, 0)))), some (.inl s_), some (.inl a_), some (.inl b_), some (.inl (S0_.2.2.1 138 0 a_.toNat)), some (.inl 0), some (.inl 1), some (.inl 0), none, none, none, none, none], [], S0_)) rfl ?_
  refine (vl_331p s_ a_ b_ F_ G_ x_ y_ S0_ hg_ ha_ hw_ hn_ hr_ hs_ _) (S0_.2.2.1 138 0 a_.toNat) 0 1 0 S0_ hI_ hF_ ⟨?_, ?_, ?_, ?_, trivial⟩ (Nat.lt_succ_self _)
  · omega
  · omega
  · exact ⟨G_, 0, [], x_, [], y_, hg_, rfl, rfl, hn_.1, by omega, rfl, hr_, Nat.le_refl _, fun _ => rfl, rfl⟩
  · (intro j_ hj_; rfl)
end
/-! 99.zc2d -/
section
/-! M_.join -/
def vw_331s : sx_Wl := ([(13, 37)], [139, 140, 141, 142, 143], [])
def vq_331s (s_ : Int) (a_ : Int) (b_ : Int) (F_ : Nat) (G_ : pGr) (x_ : List Int) (y_ : List Int) (S0_ : sm_S) (u_ : Option sm_V) (S1_ : sm_S) : Prop := u_ = none ∧ gi S1_ ∧ ai_fr (sx_W vw_331s) S0_ S1_ ∧ (rgl F_ (g_op F_ 4 G_ x_ y_).2 S1_ ∧ (imq ((g_op F_ 4 G_ x_ y_).2.length ≤ 1001) (rwv (S1_.2.2.1 139 0) (8 * a_.toNat) (g_op F_ 4 G_ x_ y_).1)) ∧ ∀ j_ : Nat, j_ < 8 * a_.toNat ∨ 8 * a_.toNat + 8 ≤ j_ → S1_.2.2.1 139 0 j_ = S0_.2.2.1 139 0 j_)
set_option maxHeartbeats 1500000 in
set_option maxRecDepth 20000 in
theorem vl_331s {sc_ : Nat × (Nat → Int)} (s_ : Int) (a_ : Int) (b_ : Int) (F_ : Nat) (G_ : pGr) (x_ : List Int) (y_ : List Int) (S0_ : sm_S) (hg_ : rgl F_ G_ S0_) (ha_ : 0 ≤ a_ ∧ a_ + 1 ≤ b_ ∧ b_ ≤ 1023) (hw_ : S0_.2.2.1 138 0 a_.toNat = (x_.length : Int)) (hn_ : x_.length = y_.length ∧ 1 ≤ x_.length ∧ x_.length ≤ 8) (hr_ : imq (G_.length ≤ 1001) (rwv (S0_.2.2.1 139 0) (8 * a_.toNat) x_ ∧ rwv (S0_.2.2.1 139 0) (8 * b_.toNat) y_)) (hs_ : s_ = 257) : ∀ nn_ : Nat, (∀ (nb_ : Int) (cy_ : Int) (sa_ : Int) (k_ : Int) (S_ : sm_S), gi S_ → ai_fr (sx_W vw_331s) S0_ S_ → ((0 ≤ k_ ∧ k_ ≤ nb_ ∧ nb_ = (x_.length : Int)) ∧ ((0 ≤ cy_ ∧ cy_ ≤ 2047) ∧ (0 ≤ sa_ ∧ sa_ ≤ 2047)) ∧ (∃ (G1_ : pGr) (d_ r_ e_ t_ : List Int), rgl F_ G1_ S_ ∧ (d_.length : Int) = k_ ∧ (e_.length : Int) = k_ ∧ r_.length = t_.length ∧ k_ + r_.length = nb_ ∧ y_ = e_ ++ t_ ∧ (imq (G1_.length ≤ 1001) (rwv (S_.2.2.1 139 0) (8 * a_.toNat) (d_ ++ r_) ∧ rwv (S_.2.2.1 139 0) (8 * b_.toNat) y_)) ∧ G_.length ≤ G1_.length ∧ ((k_ = 0 ∧ G1_ = G_ ∧ r_ = x_ ∧ t_ = y_) ∨ (1 ≤ k_ ∧ ∃ s1_, (imq (G1_.length ≤ 1001) (sa_ = s1_)) ∧ (g_sa F_ G_ x_ y_) = ([(g_s1 F_ G1_ s1_ r_ t_).1], (g_s1 F_ G1_ s1_ r_ t_).2)))) ∧ (∀ j_ : Nat, j_ < 8 * a_.toNat ∨ 8 * a_.toNat + 8 ≤ j_ → S_.2.2.1 139 0 j_ = S0_.2.2.1 139 0 j_) ∧ True) → ((nb_ - k_).toNat) < nn_ → sm_T (mt_P sc_) 3 331 (17, [some (.inr (.inr (some (13, 0)))), some (.inl s_), some (.inl a_), some (.inl b_), some (.inl nb_), some (.inl cy_), some (.inl sa_), some (.inl k_), none, none, none, none, none], [], S_) (fun ro9_ => ∃ u_ S1_, ro9_ = (.inl u_, S1_, 0) ∧ vq_331s s_ a_ b_ F_ G_ x_ y_ S0_ u_ S1_)) := by
  intro nn_
  induction nn_ with
  | zero => exact fun _ _ _ _ _ _ _ _ h_ => absurd h_ (Nat.not_lt_zero _)
  | succ nn_ ih_ =>
    rintro nb_ cy_ sa_ k_ S_ hI_ hF_ ⟨h0_, hb0_, h1_, h2_, -⟩ hm_
    obtain ⟨G1_, d_, r_, e_, t_, z1_, z2_, z2b, z3_, z4_, z5_, z6_, z7_, z8_⟩ := h1_
    refine sm_T_go 2 (c1 := (21, [some (.inr (.inr (some (13, 0)))), some (.inl s_), some (.inl a_), some (.inl b_), some (.inl nb_), some (.inl cy_), some (.inl sa_), some (.inl k_), none, none, none, none, none], [.inl nb_, .inl k_], S_)) rfl ?_
    refine sm_T_br (a := 3) (z := 198) rfl (fun cx1_ => ?_) (fun cx1_ => ?_)
    · have cx1_ : nb_ ≤ k_ := of_decide_eq_true cx1_
      refine sm_T_go 4 (c1 := (226, [some (.inr (.inr (some (13, 0)))), some (.inl s_), some (.inl a_), some (.inl b_), some (.inl nb_), some (.inl cy_), some (.inl sa_), some (.inl k_), none, none, none, none, none], [.inl a_, .inl 8, .inr (.inr (some (139, 0)))], S_)) rfl ?_
      refine sm_T_bin (w := 8 * a_) rfl (bi_mul (by omega) (by omega) (by omega)) ?_
      refine sm_T_go 2 (c1 := (231, [some (.inr (.inr (some (13, 0)))), some (.inl s_), some (.inl a_), some (.inl b_), some (.inl nb_), some (.inl cy_), some (.inl sa_), some (.inl k_), none, none, none, none, none], [.inl 257, .inl s_, .inl (8 * a_), .inr (.inr (some (139, 0)))], S_)) rfl ?_
      refine sm_T_br (a := 1) (z := 8) rfl (fun cx2_ => ?_) (fun cx2_ => ?_)
      · have cx2_ : s_ ≠ 257 := of_decide_eq_true cx2_
        exfalso; omega
      · have cx2_ : ¬ (s_ ≠ 257) := of_decide_eq_false cx2_
        refine sm_T_go 2 (c1 := (248, [some (.inr (.inr (some (13, 0)))), some (.inl s_), some (.inl a_), some (.inl b_), some (.inl nb_), some (.inl cy_), some (.inl sa_), some (.inl k_), none, none, none, none, none], [.inl sa_, .inl (8 * a_), .inr (.inr (some (139, 0)))], S_)) rfl ?_
        refine sm_T_iast (n := 8192) rfl rfl (by omega) (by omega) ?_
        have hIx3_ : gi (sm_aI S_ 139 0 (8 * a_).toNat sa_) := gi_aI hI_ (show 0 ≤ sa_ ∧ sa_ ≤ 2047 from ⟨by omega, by omega⟩)
        have hFx4_ : ai_fr (sx_W vw_331s) S0_ (sm_aI S_ 139 0 (8 * a_).toNat sa_) := ai_fr_tr hF_ (ai_fr_aI rfl)
        refine sm_T_rv rfl ⟨_, _, rfl, rfl, hIx3_, hFx4_, ?_⟩
        have kr_ : r_ = [] := List.eq_nil_of_length_eq_zero (by omega)
        have ks_ : t_ = [] := List.eq_nil_of_length_eq_zero (by omega)
        obtain ⟨s1_, zs_, z8_⟩ : ∃ s1_, (imq (G1_.length ≤ 1001) (sa_ = s1_)) ∧ (g_sa F_ G_ x_ y_) = ([(g_s1 F_ G1_ s1_ r_ t_).1], (g_s1 F_ G1_ s1_ r_ t_).2) := by rcases z8_ with q_ | q_; omega; exact q_.2
        rw [kr_, ks_] at z8_
        have q8_ : g_s1 F_ G1_ s1_ [] [] = (s1_, G1_) := rfl
        rw [q8_] at z8_
        rw [g_op4, z8_]
        refine ⟨rgl_st z1_, fun z_ => ?_, fun j_ hj_ => ?_⟩
        · intro k9_ z9_ e9_; have k0_ : k9_ = 0 := (by cases k9_ with | zero => rfl | succ k9_ => simp at e9_); subst k0_; rw [rd_eq, if_pos (by omega)]; have q9_ := Option.some.inj e9_; rw [← q9_]; exact zs_ z_
        · rw [rd_eq, if_neg (by omega)]; exact h2_ j_ hj_
    · have cx1_ : ¬ (nb_ ≤ k_) := of_decide_eq_false cx1_
      obtain ⟨r0_, r_, rfl⟩ : ∃ r0_ r1_, r_ = r0_ :: r1_ := by cases r_ with | nil => (simp only [List.length_nil] at z4_; omega) | cons p_ q_ => exact ⟨p_, q_, rfl⟩
      obtain ⟨s0_, t_, rfl⟩ : ∃ s0_ s1_, t_ = s0_ :: s1_ := by cases t_ with | nil => (simp only [List.length_nil, List.length_cons] at z3_ z4_; omega) | cons p_ q_ => exact ⟨p_, q_, rfl⟩
      have rx : imq (G1_.length ≤ 1001) (S_.2.2.1 139 0 (8 * a_ + k_).toNat = r0_ ∧ S_.2.2.1 139 0 (8 * b_ + k_).toNat = s0_) := fun z_ => by rw [show (8 * a_ + k_).toNat = 8 * a_.toNat + d_.length by omega, show (8 * b_ + k_).toNat = 8 * b_.toNat + e_.length by omega]; exact ⟨rwv_m (z6_ z_).1, rwv_m (by rw [← z5_]; exact (z6_ z_).2)⟩
      have l1_ := g_xo_le (F_ := F_) (G_ := G1_) (a_ := r0_) (b_ := s0_)
      refine sm_T_go 4 (c1 := (31, [some (.inr (.inr (some (13, 0)))), some (.inl s_), some (.inl a_), some (.inl b_), some (.inl nb_), some (.inl cy_), some (.inl sa_), some (.inl k_), none, none, none, none, none], [.inl a_, .inl 8, .inr (.inr (some (139, 0)))], S_)) rfl ?_
      refine sm_T_bin (w := 8 * a_) rfl (bi_mul (by omega) (by omega) (by omega)) ?_
      refine sm_T_go 1 (c1 := (34, [some (.inr (.inr (some (13, 0)))), some (.inl s_), some (.inl a_), some (.inl b_), some (.inl nb_), some (.inl cy_), some (.inl sa_), some (.inl k_), none, none, none, none, none], [.inl k_, .inl (8 * a_), .inr (.inr (some (139, 0)))], S_)) rfl ?_
      refine sm_T_bin (w := 8 * a_ + k_) rfl (bi_add (by omega) (by omega) (by omega)) ?_
      refine sm_T_iald (n := 8192) rfl rfl (by omega) (by omega) ?_
      have bx5_ : 0 ≤ S_.2.2.1 139 0 (8 * a_ + k_).toNat ∧ S_.2.2.1 139 0 (8 * a_ + k_).toNat ≤ 2047 := hI_.2 139 0 _
      refine sm_T_go 5 (c1 := (45, [some (.inr (.inr (some (13, 0)))), some (.inl s_), some (.inl a_), some (.inl b_), some (.inl nb_), some (.inl cy_), some (.inl sa_), some (.inl k_), some (.inl (S_.2.2.1 139 0 (8 * a_ + k_).toNat)), none, none, none, none], [.inl b_, .inl 8, .inr (.inr (some (139, 0)))], S_)) rfl ?_
      refine sm_T_bin (w := 8 * b_) rfl (bi_mul (by omega) (by omega) (by omega)) ?_
      refine sm_T_go 1 (c1 := (48, [some (.inr (.inr (some (13, 0)))), some (.inl s_), some (.inl a_), some (.inl b_), some (.inl nb_), some (.inl cy_), some (.inl sa_), some (.inl k_), some (.inl (S_.2.2.1 139 0 (8 * a_ + k_).toNat)), none, none, none, none], [.inl k_, .inl (8 * b_), .inr (.inr (some (139, 0)))], S_)) rfl ?_
      refine sm_T_bin (w := 8 * b_ + k_) rfl (bi_add (by omega) (by omega) (by omega)) ?_
      refine sm_T_iald (n := 8192) rfl rfl (by omega) (by omega) ?_
      have bx6_ : 0 ≤ S_.2.2.1 139 0 (8 * b_ + k_).toNat ∧ S_.2.2.1 139 0 (8 * b_ + k_).toNat ≤ 2047 := hI_.2 139 0 _
      refine sm_T_go 5 (c1 := (58, [some (.inr (.inr (some (13, 0)))), some (.inl s_), some (.inl a_), some (.inl b_), some (.inl nb_), some (.inl cy_), some (.inl sa_), some (.inl k_), some (.inl (S_.2.2.1 139 0 (8 * a_ + k_).toNat)), some (.inl (S_.2.2.1 139 0 (8 * b_ + k_).toNat)), some (.inl 0), none, none], [.inl 38, .inl s_], S_)) rfl ?_
      refine sm_T_br (a := 1) (z := 16) rfl (fun cx7_ => ?_) (fun cx7_ => ?_)
      · have cx7_ : s_ ≠ 38 := of_decide_eq_true cx7_
        refine sm_T_go 2 (c1 := (77, [some (.inr (.inr (some (13, 0)))), some (.inl s_), some (.inl a_), some (.inl b_), some (.inl nb_), some (.inl cy_), some (.inl sa_), some (.inl k_), some (.inl (S_.2.2.1 139 0 (8 * a_ + k_).toNat)), some (.inl (S_.2.2.1 139 0 (8 * b_ + k_).toNat)), some (.inl 0), none, none], [.inl 124, .inl s_], S_)) rfl ?_
        refine sm_T_br (a := 1) (z := 16) rfl (fun cx8_ => ?_) (fun cx8_ => ?_)
        · have cx8_ : s_ ≠ 124 := of_decide_eq_true cx8_
          refine sm_T_go 2 (c1 := (96, [some (.inr (.inr (some (13, 0)))), some (.inl s_), some (.inl a_), some (.inl b_), some (.inl nb_), some (.inl cy_), some (.inl sa_), some (.inl k_), some (.inl (S_.2.2.1 139 0 (8 * a_ + k_).toNat)), some (.inl (S_.2.2.1 139 0 (8 * b_ + k_).toNat)), some (.inl 0), none, none], [.inl 94, .inl s_], S_)) rfl ?_
          refine sm_T_br (a := 1) (z := 16) rfl (fun cx9_ => ?_) (fun cx9_ => ?_)
          · have cx9_ : s_ ≠ 94 := of_decide_eq_true cx9_
            refine sm_T_go 2 (c1 := (115, [some (.inr (.inr (some (13, 0)))), some (.inl s_), some (.inl a_), some (.inl b_), some (.inl nb_), some (.inl cy_), some (.inl sa_), some (.inl k_), some (.inl (S_.2.2.1 139 0 (8 * a_ + k_).toNat)), some (.inl (S_.2.2.1 139 0 (8 * b_ + k_).toNat)), some (.inl 0), none, none], [.inl 43, .inl s_], S_)) rfl ?_
            refine sm_T_br (a := 1) (z := 52) rfl (fun cx10_ => ?_) (fun cx10_ => ?_)
            · have cx10_ : s_ ≠ 43 := of_decide_eq_true cx10_
              refine sm_T_go 4 (c1 := (173, [some (.inr (.inr (some (13, 0)))), some (.inl s_), some (.inl a_), some (.inl b_), some (.inl nb_), some (.inl cy_), some (.inl sa_), some (.inl k_), some (.inl (S_.2.2.1 139 0 (8 * a_ + k_).toNat)), some (.inl (S_.2.2.1 139 0 (8 * b_ + k_).toNat)), some (.inl 0), none, none], [.inl (S_.2.2.1 139 0 (8 * b_ + k_).toNat), .inl (S_.2.2.1 139 0 (8 * a_ + k_).toNat), .inr (.inr (some (13, 0))), .inl 1], S_)) rfl ?_
              refine sm_T_cal (d1 := 2) (Q1 := vq_330 (S_.2.2.1 139 0 (8 * a_ + k_).toNat) (S_.2.2.1 139 0 (8 * b_ + k_).toNat) F_ G1_ r0_ s0_ S_) rfl rfl (by decide) (vc_330 (S_.2.2.1 139 0 (8 * a_ + k_).toNat) (S_.2.2.1 139 0 (8 * b_ + k_).toNat) F_ G1_ r0_ s0_ S_ hI_ (by exact z1_) (by omega) (by omega) (by exact rx)) (fun u_ Sx11_ px14_ => ?_)
              obtain ⟨vx16_, rfl, hIx12_, hFx13_, px14_⟩ := px14_
              have hFx15_ : ai_fr (sx_W vw_331s) S0_ Sx11_ := ai_fr_tr hF_ (fr_le hFx13_ rfl)
              have e180_ := px14_
              have f173_ : Sx11_.2.2.1 139 0 = S_.2.2.1 139 0 := fr_arr hFx13_ rfl
              have g9_ : ∀ z9_ : Int, ∀ j9_ : Nat, (sm_aI Sx11_ 139 0 (8 * a_ + k_).toNat z9_).2.2.1 139 0 j9_ = if j9_ = (8 * a_ + k_).toNat then z9_ else S_.2.2.1 139 0 j9_ := fun z9_ j9_ => by rw [rd_eq, f173_]
              refine sm_T_bin (w := (i_xor 1 vx16_)) rfl rfl ?_
              first | have bx17_ := (i_xc (x_ := 1) (y_ := vx16_)).trans (i_x1 (x_ := vx16_) (by omega)) | have bx17_ := i_x1 (x_ := 1) (by omega)
              refine sm_T_go 2 (c1 := (181, [some (.inr (.inr (some (13, 0)))), some (.inl s_), some (.inl a_), some (.inl b_), some (.inl nb_), some (.inl cy_), some (.inl sa_), some (.inl k_), some (.inl (S_.2.2.1 139 0 (8 * a_ + k_).toNat)), some (.inl (S_.2.2.1 139 0 (8 * b_ + k_).toNat)), some (.inl 0), some (.inl (i_xor 1 vx16_)), none], [.inl k_], Sx11_)) rfl ?_
              refine sm_T_b0 (a := 1) (z := 8) rfl (fun cx18_ => ?_) (fun cx18_ => ?_)
              · have cx18_ : k_ ≠ 0 := of_decide_eq_true cx18_
                obtain ⟨s1_, zs_, z8_⟩ : ∃ s1_, (imq (G1_.length ≤ 1001) (sa_ = s1_)) ∧ (g_sa F_ G_ x_ y_) = ([(g_s1 F_ G1_ s1_ (r0_ :: r_) (s0_ :: t_)).1], (g_s1 F_ G1_ s1_ (r0_ :: r_) (s0_ :: t_)).2) := by rcases z8_ with q_ | q_; omega; exact q_.2
                have l2_ := (g_an_le (F_ := F_) (G_ := (g_xo F_ G1_ r0_ s0_).2) (a_ := s1_) (b_ := i_xor (g_xo F_ G1_ r0_ s0_).1 1)).1
                refine sm_T_go 3 (c1 := (194, [some (.inr (.inr (some (13, 0)))), some (.inl s_), some (.inl a_), some (.inl b_), some (.inl nb_), some (.inl cy_), some (.inl sa_), some (.inl k_), some (.inl (S_.2.2.1 139 0 (8 * a_ + k_).toNat)), some (.inl (S_.2.2.1 139 0 (8 * b_ + k_).toNat)), some (.inl 0), some (.inl (i_xor 1 vx16_)), none], [.inl (i_xor 1 vx16_), .inl sa_, .inr (.inr (some (13, 0)))], Sx11_)) rfl ?_
                refine sm_T_cal (d1 := 0) (Q1 := vq_328 sa_ (i_xor 1 vx16_) F_ (g_xo F_ G1_ r0_ s0_).2 s1_ (i_xor (g_xo F_ G1_ r0_ s0_).1 1) Sx11_) rfl rfl (by decide) (vc_328 sa_ (i_xor 1 vx16_) F_ (g_xo F_ G1_ r0_ s0_).2 s1_ (i_xor (g_xo F_ G1_ r0_ s0_).1 1) Sx11_ hIx12_ (by exact e180_.1) (by omega) (by omega) (by (intro z_; rw [i_xc, e180_.2.1 (by omega)]; exact ⟨zs_ (by omega), rfl⟩))) (fun u_ Sx19_ px22_ => ?_)
                obtain ⟨vx24_, rfl, hIx20_, hFx21_, px22_⟩ := px22_
                have hFx23_ : ai_fr (sx_W vw_331s) S0_ Sx19_ := ai_fr_tr hFx15_ (fr_le hFx21_ rfl)
                have e185_ := px22_
                have f194_ : Sx19_.2.2.1 139 0 = S_.2.2.1 139 0 := (fr_arr hFx21_ rfl).trans f173_
                have g9_ : ∀ z9_ : Int, ∀ j9_ : Nat, (sm_aI Sx19_ 139 0 (8 * a_ + k_).toNat z9_).2.2.1 139 0 j9_ = if j9_ = (8 * a_ + k_).toNat then z9_ else S_.2.2.1 139 0 j9_ := fun z9_ j9_ => by rw [rd_eq, f194_]
                refine sm_T_go 5 (c1 := (206, [some (.inr (.inr (some (13, 0)))), some (.inl s_), some (.inl a_), some (.inl b_), some (.inl nb_), some (.inl cy_), some (.inl vx24_), some (.inl k_), some (.inl (S_.2.2.1 139 0 (8 * a_ + k_).toNat)), some (.inl (S_.2.2.1 139 0 (8 * b_ + k_).toNat)), some (.inl 0), some (.inl (i_xor 1 vx16_)), none], [.inl a_, .inl 8, .inr (.inr (some (139, 0)))], Sx19_)) rfl ?_
                refine sm_T_bin (w := 8 * a_) rfl (bi_mul (by omega) (by omega) (by omega)) ?_
                refine sm_T_go 1 (c1 := (209, [some (.inr (.inr (some (13, 0)))), some (.inl s_), some (.inl a_), some (.inl b_), some (.inl nb_), some (.inl cy_), some (.inl vx24_), some (.inl k_), some (.inl (S_.2.2.1 139 0 (8 * a_ + k_).toNat)), some (.inl (S_.2.2.1 139 0 (8 * b_ + k_).toNat)), some (.inl 0), some (.inl (i_xor 1 vx16_)), none], [.inl k_, .inl (8 * a_), .inr (.inr (some (139, 0)))], Sx19_)) rfl ?_
                refine sm_T_bin (w := 8 * a_ + k_) rfl (bi_add (by omega) (by omega) (by omega)) ?_
                refine sm_T_go 1 (c1 := (212, [some (.inr (.inr (some (13, 0)))), some (.inl s_), some (.inl a_), some (.inl b_), some (.inl nb_), some (.inl cy_), some (.inl vx24_), some (.inl k_), some (.inl (S_.2.2.1 139 0 (8 * a_ + k_).toNat)), some (.inl (S_.2.2.1 139 0 (8 * b_ + k_).toNat)), some (.inl 0), some (.inl (i_xor 1 vx16_)), none], [.inl 0, .inl (8 * a_ + k_), .inr (.inr (some (139, 0)))], Sx19_)) rfl ?_
                refine sm_T_iast (n := 8192) rfl rfl (by omega) (by omega) ?_
                have hIx25_ : gi (sm_aI Sx19_ 139 0 (8 * a_ + k_).toNat 0) := gi_aI hIx20_ (show 0 ≤ 0 ∧ 0 ≤ 2047 from ⟨by omega, by omega⟩)
                have hFx26_ : ai_fr (sx_W vw_331s) S0_ (sm_aI Sx19_ 139 0 (8 * a_ + k_).toNat 0) := ai_fr_tr hFx23_ (ai_fr_aI rfl)
                refine sm_T_inc (a := 7) (z := 1) (v := k_) (w := k_ + 1) rfl rfl (by omega) (by omega) (by omega) ?_
                refine sm_T_go 1 (c1 := (17, [some (.inr (.inr (some (13, 0)))), some (.inl s_), some (.inl a_), some (.inl b_), some (.inl nb_), some (.inl cy_), some (.inl vx24_), some (.inl (k_ + 1)), some (.inl (S_.2.2.1 139 0 (8 * a_ + k_).toNat)), some (.inl (S_.2.2.1 139 0 (8 * b_ + k_).toNat)), some (.inl 0), some (.inl (i_xor 1 vx16_)), none], [], sm_aI Sx19_ 139 0 (8 * a_ + k_).toNat 0)) rfl ?_
                refine sm_T_wk [some (.inr (.inr (some (13, 0)))), some (.inl s_), some (.inl a_), some (.inl b_), some (.inl nb_), some (.inl cy_), some (.inl vx24_), some (.inl (k_ + 1)), none, none, none, none, none] (by exact ⟨rfl, rfl, rfl, rfl, rfl, rfl, rfl, rfl, trivial⟩) ?_
                refine ih_ nb_ cy_ vx24_ (k_ + 1) (sm_aI Sx19_ 139 0 (8 * a_ + k_).toNat 0) hIx25_ hFx26_ ⟨?_, ?_, ?_, ?_, trivial⟩ ?_
                · omega
                · omega
                · first | (refine ⟨(g_xo F_ G1_ r0_ s0_).2, d_ ++ [0], r_, e_ ++ [s0_], t_, rgl_st e180_.1, ?_, ?_, ?_, ?_, ?_, fun z_ => ?_, by omega, Or.inr ⟨by omega, i_xor (g_xo F_ G1_ r0_ s0_).1 1, fun z_ => by rw [i_xc, e180_.2.1 z_], rfl⟩⟩) | (refine ⟨(g_e3 F_ G1_ s1_ r0_ s0_).2, d_ ++ [0], r_, e_ ++ [s0_], t_, rgl_st e185_.1, ?_, ?_, ?_, ?_, ?_, fun z_ => ?_, ?_, Or.inr ⟨by omega, (g_e3 F_ G1_ s1_ r0_ s0_).1, fun z_ => e185_.2.1 z_, by rw [z8_]; rfl⟩⟩; rotate_right; (show _ ≤ (g_an F_ (g_xo F_ G1_ r0_ s0_).2 s1_ (i_xor (g_xo F_ G1_ r0_ s0_).1 1)).2.length; omega))
                  · simp only [List.length_append, List.length_cons, List.length_nil]; push_cast; omega
                  · simp only [List.length_append, List.length_cons, List.length_nil]; push_cast; omega
                  · simp only [List.length_cons] at z3_; omega
                  · simp only [List.length_cons] at z4_; push_cast at z4_; omega
                  · rw [z5_, List.append_assoc]; rfl
                  · have q0_ : G1_.length ≤ 1001 := by first | omega | (have zz_ : (g_an F_ (g_xo F_ G1_ r0_ s0_).2 s1_ (i_xor (g_xo F_ G1_ r0_ s0_).1 1)).2.length ≤ 1001 := z_; omega)
                    have q1_ := z6_ q0_
                    refine ⟨?_, ?_⟩
                    · exact rwv_set (q_ := (8 * a_ + k_).toNat) q1_.1 (by omega) (fun j9_ => by rw [g9_])
                    · exact rwv_cg q1_.2 (fun j9_ hj_ => by rw [g9_, if_neg (by omega)])
                · intro j_ hj_
                  rw [g9_, if_neg (by omega)]
                  exact h2_ j_ hj_
                · omega
              · have cx18_ : ¬ (k_ ≠ 0) := of_decide_eq_false cx18_
                obtain ⟨rfl, rfl, rfl⟩ : G1_ = G_ ∧ x_ = r0_ :: r_ ∧ y_ = s0_ :: t_ := by rcases z8_ with q_ | q_; exact ⟨q_.2.1, q_.2.2.1.symm, q_.2.2.2.symm⟩; omega
                refine sm_T_go 7 (c1 := (206, [some (.inr (.inr (some (13, 0)))), some (.inl s_), some (.inl a_), some (.inl b_), some (.inl nb_), some (.inl cy_), some (.inl (i_xor 1 vx16_)), some (.inl k_), some (.inl (S_.2.2.1 139 0 (8 * a_ + k_).toNat)), some (.inl (S_.2.2.1 139 0 (8 * b_ + k_).toNat)), some (.inl 0), some (.inl (i_xor 1 vx16_)), none], [.inl a_, .inl 8, .inr (.inr (some (139, 0)))], Sx11_)) rfl ?_
                refine sm_T_bin (w := 8 * a_) rfl (bi_mul (by omega) (by omega) (by omega)) ?_
                refine sm_T_go 1 (c1 := (209, [some (.inr (.inr (some (13, 0)))), some (.inl s_), some (.inl a_), some (.inl b_), some (.inl nb_), some (.inl cy_), some (.inl (i_xor 1 vx16_)), some (.inl k_), some (.inl (S_.2.2.1 139 0 (8 * a_ + k_).toNat)), some (.inl (S_.2.2.1 139 0 (8 * b_ + k_).toNat)), some (.inl 0), some (.inl (i_xor 1 vx16_)), none], [.inl k_, .inl (8 * a_), .inr (.inr (some (139, 0)))], Sx11_)) rfl ?_
                refine sm_T_bin (w := 8 * a_ + k_) rfl (bi_add (by omega) (by omega) (by omega)) ?_
                refine sm_T_go 1 (c1 := (212, [some (.inr (.inr (some (13, 0)))), some (.inl s_), some (.inl a_), some (.inl b_), some (.inl nb_), some (.inl cy_), some (.inl (i_xor 1 vx16_)), some (.inl k_), some (.inl (S_.2.2.1 139 0 (8 * a_ + k_).toNat)), some (.inl (S_.2.2.1 139 0 (8 * b_ + k_).toNat)), some (.inl 0), some (.inl (i_xor 1 vx16_)), none], [.inl 0, .inl (8 * a_ + k_), .inr (.inr (some (139, 0)))], Sx11_)) rfl ?_
                refine sm_T_iast (n := 8192) rfl rfl (by omega) (by omega) ?_
                have hIx27_ : gi (sm_aI Sx11_ 139 0 (8 * a_ + k_).toNat 0) := gi_aI hIx12_ (show 0 ≤ 0 ∧ 0 ≤ 2047 from ⟨by omega, by omega⟩)
                have hFx28_ : ai_fr (sx_W vw_331s) S0_ (sm_aI Sx11_ 139 0 (8 * a_ + k_).toNat 0) := ai_fr_tr hFx15_ (ai_fr_aI rfl)
                refine sm_T_inc (a := 7) (z := 1) (v := k_) (w := k_ + 1) rfl rfl (by omega) (by omega) (by omega) ?_
                refine sm_T_go 1 (c1 := (17, [some (.inr (.inr (some (13, 0)))), some (.inl s_), some (.inl a_), some (.inl b_), some (.inl nb_), some (.inl cy_), some (.inl (i_xor 1 vx16_)), some (.inl (k_ + 1)), some (.inl (S_.2.2.1 139 0 (8 * a_ + k_).toNat)), some (.inl (S_.2.2.1 139 0 (8 * b_ + k_).toNat)), some (.inl 0), some (.inl (i_xor 1 vx16_)), none], [], sm_aI Sx11_ 139 0 (8 * a_ + k_).toNat 0)) rfl ?_
                refine sm_T_wk [some (.inr (.inr (some (13, 0)))), some (.inl s_), some (.inl a_), some (.inl b_), some (.inl nb_), some (.inl cy_), some (.inl (i_xor 1 vx16_)), some (.inl (k_ + 1)), none, none, none, none, none] (by exact ⟨rfl, rfl, rfl, rfl, rfl, rfl, rfl, rfl, trivial⟩) ?_
                refine ih_ nb_ cy_ (i_xor 1 vx16_) (k_ + 1) (sm_aI Sx11_ 139 0 (8 * a_ + k_).toNat 0) hIx27_ hFx28_ ⟨?_, ?_, ?_, ?_, trivial⟩ ?_
                · omega
                · omega
                · first | (refine ⟨(g_xo F_ G1_ r0_ s0_).2, d_ ++ [0], r_, e_ ++ [s0_], t_, rgl_st e180_.1, ?_, ?_, ?_, ?_, ?_, fun z_ => ?_, by omega, Or.inr ⟨by omega, i_xor (g_xo F_ G1_ r0_ s0_).1 1, fun z_ => by rw [i_xc, e180_.2.1 z_], rfl⟩⟩) | (refine ⟨(g_e3 F_ G1_ s1_ r0_ s0_).2, d_ ++ [0], r_, e_ ++ [s0_], t_, rgl_st e185_.1, ?_, ?_, ?_, ?_, ?_, fun z_ => ?_, ?_, Or.inr ⟨by omega, (g_e3 F_ G1_ s1_ r0_ s0_).1, fun z_ => e185_.2.1 z_, by rw [z8_]; rfl⟩⟩; rotate_right; (show _ ≤ (g_an F_ (g_xo F_ G1_ r0_ s0_).2 s1_ (i_xor (g_xo F_ G1_ r0_ s0_).1 1)).2.length; omega))
                  · simp only [List.length_append, List.length_cons, List.length_nil]; push_cast; omega
                  · simp only [List.length_append, List.length_cons, List.length_nil]; push_cast; omega
                  · simp only [List.length_cons] at z3_; omega
                  · simp only [List.length_cons] at z4_; push_cast at z4_; omega
                  · rw [z5_, List.append_assoc]; rfl
                  · have q0_ : G1_.length ≤ 1001 := by first | omega | (have zz_ : (g_an F_ (g_xo F_ G1_ r0_ s0_).2 s1_ (i_xor (g_xo F_ G1_ r0_ s0_).1 1)).2.length ≤ 1001 := z_; omega)
                    have q1_ := z6_ q0_
                    refine ⟨?_, ?_⟩
                    · exact rwv_set (q_ := (8 * a_ + k_).toNat) q1_.1 (by omega) (fun j9_ => by rw [g9_])
                    · exact rwv_cg q1_.2 (fun j9_ hj_ => by rw [g9_, if_neg (by omega)])
                · intro j_ hj_
                  rw [g9_, if_neg (by omega)]
                  exact h2_ j_ hj_
                · omega
            · have cx10_ : ¬ (s_ ≠ 43) := of_decide_eq_false cx10_
              exfalso; omega
          · have cx9_ : ¬ (s_ ≠ 94) := of_decide_eq_false cx9_
            exfalso; omega
        · have cx8_ : ¬ (s_ ≠ 124) := of_decide_eq_false cx8_
          exfalso; omega
      · have cx7_ : ¬ (s_ ≠ 38) := of_decide_eq_false cx7_
        exfalso; omega
set_option maxHeartbeats 1500000 in
set_option maxRecDepth 20000 in
theorem vc_331s {sc_ : Nat × (Nat → Int)} (s_ : Int) (a_ : Int) (b_ : Int) (F_ : Nat) (G_ : pGr) (x_ : List Int) (y_ : List Int) (S0_ : sm_S) (hI_ : gi S0_) (hg_ : rgl F_ G_ S0_) (ha_ : 0 ≤ a_ ∧ a_ + 1 ≤ b_ ∧ b_ ≤ 1023) (hw_ : S0_.2.2.1 138 0 a_.toNat = (x_.length : Int)) (hn_ : x_.length = y_.length ∧ 1 ≤ x_.length ∧ x_.length ≤ 8) (hr_ : imq (G_.length ≤ 1001) (rwv (S0_.2.2.1 139 0) (8 * a_.toNat) x_ ∧ rwv (S0_.2.2.1 139 0) (8 * b_.toNat) y_)) (hs_ : s_ = 257) : sm_T (mt_P sc_) 3 331 (0, [some (.inr (.inr (some (13, 0)))), some (.inl s_), some (.inl a_), some (.inl b_), none, none, none, none, none, none, none, none, none], [], S0_) (fun ro9_ => ∃ u_ S1_, ro9_ = (.inl u_, S1_, 0) ∧ vq_331s s_ a_ b_ F_ G_ x_ y_ S0_ u_ S1_) := by
  have hF_ : ai_fr (sx_W vw_331s) S0_ S0_ := ai_fr_rf
  refine sm_T_go 3 (c1 := (5, [some (.inr (.inr (some (13, 0)))), some (.inl s_), some (.inl a_), some (.inl b_), none, none, none, none, none, none, none, none, none], [.inl a_, .inr (.inr (some (138, 0)))], S0_)) rfl ?_
  refine sm_T_iald (n := 1024) rfl rfl (by omega) (by omega) ?_
  have bx1_ : (-2147483648) ≤ S0_.2.2.1 138 0 a_.toNat ∧ S0_.2.2.1 138 0 a_.toNat ≤ 2147483647 := hI_.2 138 0 _
  refine sm_T_go 7 (c1 := (17, [some (.inr (.inr (some (13, 0)))), some (.inl s_), some (.inl a_), some (.inl b_), some (.inl (S0_.2.2.1 138 0 a_.toNat)), some (.inl 0), some (.inl 1), some (.inl 0), none, none, none, none, none], [], S0_)) rfl ?_
  refine (vl_331s s_ a_ b_ F_ G_ x_ y_ S0_ hg_ ha_ hw_ hn_ hr_ hs_ _) (S0_.2.2.1 138 0 a_.toNat) 0 1 0 S0_ hI_ hF_ ⟨?_, ?_, ?_, ?_, trivial⟩ (Nat.lt_succ_self _)
  · omega
  · omega
  · exact ⟨G_, [], x_, [], y_, hg_, rfl, rfl, hn_.1, by omega, rfl, hr_, Nat.le_refl _, Or.inl ⟨rfl, rfl, rfl, rfl⟩⟩
  · (intro j_ hj_; rfl)
def vw_331 : sx_Wl := vw_331w
def vq_331 (s_ : Int) (a_ : Int) (b_ : Int) (F_ : Nat) (G_ : pGr) (x_ : List Int) (y_ : List Int) (kk_ : Int) (S0_ : sm_S) (u_ : Option sm_V) (S1_ : sm_S) : Prop := u_ = none ∧ gi S1_ ∧ ai_fr (sx_W vw_331) S0_ S1_ ∧ (rgl F_ (g_op F_ kk_ G_ x_ y_).2 S1_ ∧ (imq ((g_op F_ kk_ G_ x_ y_).2.length ≤ 1001) (rwv (S1_.2.2.1 139 0) (8 * a_.toNat) (g_op F_ kk_ G_ x_ y_).1)) ∧ ∀ j_ : Nat, j_ < 8 * a_.toNat ∨ 8 * a_.toNat + 8 ≤ j_ → S1_.2.2.1 139 0 j_ = S0_.2.2.1 139 0 j_)
theorem vc_331 {sc_ : Nat × (Nat → Int)} (s_ : Int) (a_ : Int) (b_ : Int) (F_ : Nat) (G_ : pGr) (x_ : List Int) (y_ : List Int) (kk_ : Int) (S0_ : sm_S) (hI_ : gi S0_) (hg_ : rgl F_ G_ S0_) (ha_ : 0 ≤ a_ ∧ a_ + 1 ≤ b_ ∧ b_ ≤ 1023) (hw_ : S0_.2.2.1 138 0 a_.toNat = (x_.length : Int)) (hn_ : x_.length = y_.length ∧ 1 ≤ x_.length ∧ x_.length ≤ 8) (hr_ : imq (G_.length ≤ 1001) (rwv (S0_.2.2.1 139 0) (8 * a_.toNat) x_ ∧ rwv (S0_.2.2.1 139 0) (8 * b_.toNat) y_)) (hs_ : (s_ = 124 ∧ kk_ = 1) ∨ (s_ = 94 ∧ kk_ = 2) ∨ (s_ = 38 ∧ kk_ = 3) ∨ (s_ = 257 ∧ kk_ = 4) ∨ (s_ = 43 ∧ kk_ = 5)) : sm_T (mt_P sc_) 3 331 (0, [some (.inr (.inr (some (13, 0)))), some (.inl s_), some (.inl a_), some (.inl b_), none, none, none, none, none, none, none, none, none], [], S0_) (fun r_ => ∃ u_ S1_, r_ = (.inl u_, S1_, 0) ∧ vq_331 s_ a_ b_ F_ G_ x_ y_ kk_ S0_ u_ S1_) := by
  by_cases g4_ : kk_ = 4
  · subst g4_
    exact vc_331s s_ a_ b_ F_ G_ x_ y_ S0_ hI_ hg_ ha_ hw_ hn_ hr_ (by omega)
  · by_cases g5_ : kk_ = 5
    · subst g5_
      exact vc_331p s_ a_ b_ F_ G_ x_ y_ S0_ hI_ hg_ ha_ hw_ hn_ hr_ (by omega)
    · exact vc_331w s_ a_ b_ F_ G_ x_ y_ kk_ S0_ hI_ hg_ ha_ hw_ hn_ hr_ (by omega)
end
/-! 99.zc2e -/
section
/-! M_.choice -/
def vw_332 : sx_Wl := ([(13, 37)], [139, 140, 141, 142, 143], [])
def vq_332 (ci_ : Int) (F_ : Nat) (G_ : pGr) (c_ : Int) (va_ : List Int) (ve_ : List Int) (S0_ : sm_S) (u_ : Option sm_V) (S1_ : sm_S) : Prop := u_ = none ∧ gi S1_ ∧ ai_fr (sx_W vw_332) S0_ S1_ ∧ (rgl F_ (g_ch F_ c_ G_ va_ ve_).2 S1_ ∧ (imq ((g_ch F_ c_ G_ va_ ve_).2.length ≤ 1001) (rwv (S1_.2.2.1 139 0) (8 * ci_.toNat) (g_ch F_ c_ G_ va_ ve_).1)) ∧ ∀ j_ : Nat, j_ < 8 * ci_.toNat ∨ 8 * ci_.toNat + 8 ≤ j_ → S1_.2.2.1 139 0 j_ = S0_.2.2.1 139 0 j_)
set_option maxHeartbeats 1500000 in
theorem vl_332 {sc_ : Nat × (Nat → Int)} (ci_ : Int) (F_ : Nat) (G_ : pGr) (c_ : Int) (va_ : List Int) (ve_ : List Int) (S0_ : sm_S) (hg_ : rgl F_ G_ S0_) (ha_ : 0 ≤ ci_ ∧ ci_ ≤ 1021) (hw_ : S0_.2.2.1 138 0 (ci_.toNat + 1) = (va_.length : Int)) (hn_ : va_.length = ve_.length ∧ va_.length ≤ 8) (hr_ : imq (G_.length ≤ 1001) (rwv (S0_.2.2.1 139 0) (8 * ci_.toNat) [c_] ∧ rwv (S0_.2.2.1 139 0) (8 * (ci_.toNat + 1)) va_ ∧ rwv (S0_.2.2.1 139 0) (8 * (ci_.toNat + 2)) ve_)) : ∀ nn_ : Nat, (∀ (cb_ : Int) (k_ : Int) (S_ : sm_S), gi S_ → ai_fr (sx_W vw_332) S0_ S_ → ((0 ≤ k_ ∧ k_ ≤ (va_.length : Int) ∧ 0 ≤ cb_ ∧ cb_ ≤ 2047) ∧ (∃ (G1_ : pGr) (d_ r_ t_ e1_ e2_ : List Int), rgl F_ G1_ S_ ∧ (d_.length : Int) = k_ ∧ (e1_.length : Int) = k_ ∧ (e2_.length : Int) = k_ ∧ r_.length = t_.length ∧ k_ + r_.length = va_.length ∧ va_ = e1_ ++ r_ ∧ ve_ = e2_ ++ t_ ∧ (imq (G1_.length ≤ 1001) (cb_ = c_ ∧ rwv (S_.2.2.1 139 0) (8 * ci_.toNat) d_ ∧ rwv (S_.2.2.1 139 0) (8 * (ci_.toNat + 1)) va_ ∧ rwv (S_.2.2.1 139 0) (8 * (ci_.toNat + 2)) ve_)) ∧ G_.length ≤ G1_.length ∧ (g_ch F_ c_ G_ va_ ve_) = (d_ ++ (g_ch F_ c_ G1_ r_ t_).1, (g_ch F_ c_ G1_ r_ t_).2)) ∧ (∀ j_ : Nat, j_ < 8 * ci_.toNat ∨ 8 * ci_.toNat + 8 ≤ j_ → S_.2.2.1 139 0 j_ = S0_.2.2.1 139 0 j_) ∧ True) → (((va_.length : Int) - k_).toNat) < nn_ → sm_T (mt_P sc_) 3 332 (12, [some (.inr (.inr (some (13, 0)))), some (.inl ci_), some (.inl cb_), some (.inl k_), none, none], [], S_) (fun ro9_ => ∃ u_ S1_, ro9_ = (.inl u_, S1_, 0) ∧ vq_332 ci_ F_ G_ c_ va_ ve_ S0_ u_ S1_)) := by
  intro nn_
  induction nn_ with
  | zero => exact fun _ _ _ _ _ _ h_ => absurd h_ (Nat.not_lt_zero _)
  | succ nn_ ih_ =>
    rintro cb_ k_ S_ hI_ hF_ ⟨h0_, h1_, h2_, -⟩ hm_
    obtain ⟨G1_, d_, r_, t_, e1_, e2_, z1_, z2_, z2b, z2c, z3_, z4_, z5_, z5b, z6_, z7_, z8_⟩ := h1_
    have wt : S_.2.2.1 138 0 (ci_ + 1).toNat = (va_.length : Int) := by rw [show (ci_ + 1).toNat = ci_.toNat + 1 by omega, fr_arr (t := 138) (i := 0) hF_ rfl]; exact hw_
    refine sm_T_go 5 (c1 := (19, [some (.inr (.inr (some (13, 0)))), some (.inl ci_), some (.inl cb_), some (.inl k_), none, none], [.inl 1, .inl ci_, .inr (.inr (some (138, 0))), .inl k_], S_)) rfl ?_
    refine sm_T_bin (w := ci_ + 1) rfl (bi_add (by omega) (by omega) (by omega)) ?_
    refine sm_T_iald (n := 1024) rfl rfl (by omega) (by omega) ?_
    have bx1_ : (-2147483648) ≤ S_.2.2.1 138 0 (ci_ + 1).toNat ∧ S_.2.2.1 138 0 (ci_ + 1).toNat ≤ 2147483647 := hI_.2 138 0 _
    refine sm_T_br (a := 3) (z := 72) rfl (fun cx2_ => ?_) (fun cx2_ => ?_)
    · have cx2_ : (S_.2.2.1 138 0 (ci_ + 1).toNat) ≤ k_ := of_decide_eq_true cx2_
      refine sm_T_rv rfl ⟨_, _, rfl, rfl, hI_, hF_, ?_⟩
      have kr_ : r_ = [] := List.eq_nil_of_length_eq_zero (by omega)
      have ks_ : t_ = [] := List.eq_nil_of_length_eq_zero (by omega)
      rw [kr_, ks_] at z8_
      have q8_ : g_ch F_ c_ G1_ [] [] = ([], G1_) := rfl
      rw [q8_, List.append_nil] at z8_
      rw [z8_]
      exact ⟨z1_, fun z_ => (z6_ z_).2.1, h2_⟩
    · have cx2_ : ¬ ((S_.2.2.1 138 0 (ci_ + 1).toNat) ≤ k_) := of_decide_eq_false cx2_
      obtain ⟨r0_, r_, rfl⟩ : ∃ r0_ r1_, r_ = r0_ :: r1_ := by cases r_ with | nil => (simp only [List.length_nil] at z4_; omega) | cons p_ q_ => exact ⟨p_, q_, rfl⟩
      obtain ⟨s0_, t_, rfl⟩ : ∃ s0_ s1_, t_ = s0_ :: s1_ := by cases t_ with | nil => (simp only [List.length_nil, List.length_cons] at z3_ z4_; omega) | cons p_ q_ => exact ⟨p_, q_, rfl⟩
      have rx : imq (G1_.length ≤ 1001) (S_.2.2.1 139 0 (8 * ci_ + k_ + 8).toNat = r0_ ∧ S_.2.2.1 139 0 (8 * ci_ + k_ + 16).toNat = s0_) := fun z_ => by rw [show (8 * ci_ + k_ + 8).toNat = 8 * (ci_.toNat + 1) + e1_.length by omega, show (8 * ci_ + k_ + 16).toNat = 8 * (ci_.toNat + 2) + e2_.length by omega]; exact ⟨rwv_m (by rw [← z5_]; exact (z6_ z_).2.2.1), rwv_m (by rw [← z5b]; exact (z6_ z_).2.2.2)⟩
      have l1_ := (g_an_le (F_ := F_) (G_ := G1_) (a_ := c_) (b_ := r0_)).1
      have l2_ := (g_an_le (F_ := F_) (G_ := (g_an F_ G1_ c_ r0_).2) (a_ := i_xor c_ 1) (b_ := s0_)).1
      have l3_ := g_or_le (F_ := F_) (G_ := (g_an F_ (g_an F_ G1_ c_ r0_).2 (i_xor c_ 1) s0_).2) (a_ := (g_an F_ G1_ c_ r0_).1) (b_ := (g_an F_ (g_an F_ G1_ c_ r0_).2 (i_xor c_ 1) s0_).1)
      refine sm_T_go 6 (c1 := (33, [some (.inr (.inr (some (13, 0)))), some (.inl ci_), some (.inl cb_), some (.inl k_), none, none], [.inl ci_, .inl 8, .inr (.inr (some (139, 0))), .inl cb_, .inr (.inr (some (13, 0)))], S_)) rfl ?_
      refine sm_T_bin (w := 8 * ci_) rfl (bi_mul (by omega) (by omega) (by omega)) ?_
      refine sm_T_go 1 (c1 := (36, [some (.inr (.inr (some (13, 0)))), some (.inl ci_), some (.inl cb_), some (.inl k_), none, none], [.inl 8, .inl (8 * ci_), .inr (.inr (some (139, 0))), .inl cb_, .inr (.inr (some (13, 0)))], S_)) rfl ?_
      refine sm_T_bin (w := 8 * ci_ + 8) rfl (bi_add (by omega) (by omega) (by omega)) ?_
      refine sm_T_go 1 (c1 := (38, [some (.inr (.inr (some (13, 0)))), some (.inl ci_), some (.inl cb_), some (.inl k_), none, none], [.inl k_, .inl (8 * ci_ + 8), .inr (.inr (some (139, 0))), .inl cb_, .inr (.inr (some (13, 0)))], S_)) rfl ?_
      refine sm_T_bin (w := 8 * ci_ + k_ + 8) rfl (bi_add (by omega) (by omega) (by omega)) ?_
      refine sm_T_iald (n := 8192) rfl rfl (by omega) (by omega) ?_
      have bx3_ : 0 ≤ S_.2.2.1 139 0 (8 * ci_ + k_ + 8).toNat ∧ S_.2.2.1 139 0 (8 * ci_ + k_ + 8).toNat ≤ 2047 := hI_.2 139 0 _
      refine sm_T_cal (d1 := 0) (Q1 := vq_328 cb_ (S_.2.2.1 139 0 (8 * ci_ + k_ + 8).toNat) F_ G1_ c_ r0_ S_) rfl rfl (by decide) (vc_328 cb_ (S_.2.2.1 139 0 (8 * ci_ + k_ + 8).toNat) F_ G1_ c_ r0_ S_ hI_ (by exact z1_) (by omega) (by omega) (by (intro z_; exact ⟨(z6_ z_).1, (rx z_).1⟩))) (fun u_ Sx4_ px7_ => ?_)
      obtain ⟨vx9_, rfl, hIx5_, hFx6_, px7_⟩ := px7_
      have hFx8_ : ai_fr (sx_W vw_332) S0_ Sx4_ := ai_fr_tr hF_ (fr_le hFx6_ rfl)
      have e58_ := px7_
      have f40_ : Sx4_.2.2.1 139 0 = S_.2.2.1 139 0 := fr_arr hFx6_ rfl
      refine sm_T_go 4 (c1 := (48, [some (.inr (.inr (some (13, 0)))), some (.inl ci_), some (.inl cb_), some (.inl k_), some (.inl vx9_), none], [.inl 1, .inl cb_, .inr (.inr (some (13, 0)))], Sx4_)) rfl ?_
      refine sm_T_bin (w := (i_xor cb_ 1)) rfl rfl ?_
      have bx10_ := i_x1 (x_ := cb_) (by omega)
      refine sm_T_go 4 (c1 := (56, [some (.inr (.inr (some (13, 0)))), some (.inl ci_), some (.inl cb_), some (.inl k_), some (.inl vx9_), none], [.inl ci_, .inl 8, .inr (.inr (some (139, 0))), .inl (i_xor cb_ 1), .inr (.inr (some (13, 0)))], Sx4_)) rfl ?_
      refine sm_T_bin (w := 8 * ci_) rfl (bi_mul (by omega) (by omega) (by omega)) ?_
      refine sm_T_go 1 (c1 := (59, [some (.inr (.inr (some (13, 0)))), some (.inl ci_), some (.inl cb_), some (.inl k_), some (.inl vx9_), none], [.inl 16, .inl (8 * ci_), .inr (.inr (some (139, 0))), .inl (i_xor cb_ 1), .inr (.inr (some (13, 0)))], Sx4_)) rfl ?_
      refine sm_T_bin (w := 8 * ci_ + 16) rfl (bi_add (by omega) (by omega) (by omega)) ?_
      refine sm_T_go 1 (c1 := (61, [some (.inr (.inr (some (13, 0)))), some (.inl ci_), some (.inl cb_), some (.inl k_), some (.inl vx9_), none], [.inl k_, .inl (8 * ci_ + 16), .inr (.inr (some (139, 0))), .inl (i_xor cb_ 1), .inr (.inr (some (13, 0)))], Sx4_)) rfl ?_
      refine sm_T_bin (w := 8 * ci_ + k_ + 16) rfl (bi_add (by omega) (by omega) (by omega)) ?_
      refine sm_T_iald (n := 8192) rfl rfl (by omega) (by omega) ?_
      have bx11_ : 0 ≤ Sx4_.2.2.1 139 0 (8 * ci_ + k_ + 16).toNat ∧ Sx4_.2.2.1 139 0 (8 * ci_ + k_ + 16).toNat ≤ 2047 := hIx5_.2 139 0 _
      refine sm_T_cal (d1 := 0) (Q1 := vq_328 (i_xor cb_ 1) (Sx4_.2.2.1 139 0 (8 * ci_ + k_ + 16).toNat) F_ (g_an F_ G1_ c_ r0_).2 (i_xor c_ 1) s0_ Sx4_) rfl rfl (by decide) (vc_328 (i_xor cb_ 1) (Sx4_.2.2.1 139 0 (8 * ci_ + k_ + 16).toNat) F_ (g_an F_ G1_ c_ r0_).2 (i_xor c_ 1) s0_ Sx4_ hIx5_ (by exact e58_.1) (by omega) (by omega) (by (intro z_; refine ⟨by rw [(z6_ (by omega)).1], ?_⟩; rw [f40_]; exact (rx (by omega)).2))) (fun u_ Sx12_ px15_ => ?_)
      obtain ⟨vx17_, rfl, hIx13_, hFx14_, px15_⟩ := px15_
      have hFx16_ : ai_fr (sx_W vw_332) S0_ Sx12_ := ai_fr_tr hFx8_ (fr_le hFx14_ rfl)
      have e83_ := px15_
      have f63_ : Sx12_.2.2.1 139 0 = S_.2.2.1 139 0 := (fr_arr hFx14_ rfl).trans f40_
      refine sm_T_go 5 (c1 := (75, [some (.inr (.inr (some (13, 0)))), some (.inl ci_), some (.inl cb_), some (.inl k_), some (.inl vx9_), some (.inl vx17_)], [.inl ci_, .inl 8, .inr (.inr (some (139, 0)))], Sx12_)) rfl ?_
      refine sm_T_bin (w := 8 * ci_) rfl (bi_mul (by omega) (by omega) (by omega)) ?_
      refine sm_T_go 1 (c1 := (77, [some (.inr (.inr (some (13, 0)))), some (.inl ci_), some (.inl cb_), some (.inl k_), some (.inl vx9_), some (.inl vx17_)], [.inl k_, .inl (8 * ci_), .inr (.inr (some (139, 0)))], Sx12_)) rfl ?_
      refine sm_T_bin (w := 8 * ci_ + k_) rfl (bi_add (by omega) (by omega) (by omega)) ?_
      refine sm_T_go 3 (c1 := (83, [some (.inr (.inr (some (13, 0)))), some (.inl ci_), some (.inl cb_), some (.inl k_), some (.inl vx9_), some (.inl vx17_)], [.inl vx17_, .inl vx9_, .inr (.inr (some (13, 0))), .inl (8 * ci_ + k_), .inr (.inr (some (139, 0)))], Sx12_)) rfl ?_
      refine sm_T_cal (d1 := 1) (Q1 := vq_329 vx9_ vx17_ F_ (g_an F_ (g_an F_ G1_ c_ r0_).2 (i_xor c_ 1) s0_).2 (g_an F_ G1_ c_ r0_).1 (g_an F_ (g_an F_ G1_ c_ r0_).2 (i_xor c_ 1) s0_).1 Sx12_) rfl rfl (by decide) (vc_329 vx9_ vx17_ F_ (g_an F_ (g_an F_ G1_ c_ r0_).2 (i_xor c_ 1) s0_).2 (g_an F_ G1_ c_ r0_).1 (g_an F_ (g_an F_ G1_ c_ r0_).2 (i_xor c_ 1) s0_).1 Sx12_ hIx13_ (by exact e83_.1) (by omega) (by omega) (by (intro z_; exact ⟨e58_.2.1 (by omega), e83_.2.1 (by omega)⟩))) (fun u_ Sx18_ px21_ => ?_)
      obtain ⟨vx23_, rfl, hIx19_, hFx20_, px21_⟩ := px21_
      have hFx22_ : ai_fr (sx_W vw_332) S0_ Sx18_ := ai_fr_tr hFx16_ (fr_le hFx20_ rfl)
      have e100_ := px21_
      have f83_ : Sx18_.2.2.1 139 0 = S_.2.2.1 139 0 := (fr_arr hFx20_ rfl).trans f63_
      have g9_ : ∀ z9_ : Int, ∀ j9_ : Nat, (sm_aI Sx18_ 139 0 (8 * ci_ + k_).toNat z9_).2.2.1 139 0 j9_ = if j9_ = (8 * ci_ + k_).toNat then z9_ else S_.2.2.1 139 0 j9_ := fun z9_ j9_ => by rw [rd_eq, f83_]
      refine sm_T_iast (n := 8192) rfl rfl (by omega) (by omega) ?_
      have hIx24_ : gi (sm_aI Sx18_ 139 0 (8 * ci_ + k_).toNat vx23_) := gi_aI hIx19_ (show 0 ≤ vx23_ ∧ vx23_ ≤ 2047 from ⟨by omega, by omega⟩)
      have hFx25_ : ai_fr (sx_W vw_332) S0_ (sm_aI Sx18_ 139 0 (8 * ci_ + k_).toNat vx23_) := ai_fr_tr hFx22_ (ai_fr_aI rfl)
      refine sm_T_inc (a := 3) (z := 1) (v := k_) (w := k_ + 1) rfl rfl (by omega) (by omega) (by omega) ?_
      refine sm_T_go 1 (c1 := (12, [some (.inr (.inr (some (13, 0)))), some (.inl ci_), some (.inl cb_), some (.inl (k_ + 1)), some (.inl vx9_), some (.inl vx17_)], [], sm_aI Sx18_ 139 0 (8 * ci_ + k_).toNat vx23_)) rfl ?_
      refine sm_T_wk [some (.inr (.inr (some (13, 0)))), some (.inl ci_), some (.inl cb_), some (.inl (k_ + 1)), none, none] (by exact ⟨rfl, rfl, rfl, rfl, trivial⟩) ?_
      refine ih_ cb_ (k_ + 1) (sm_aI Sx18_ 139 0 (8 * ci_ + k_).toNat vx23_) hIx24_ hFx25_ ⟨?_, ?_, ?_, trivial⟩ ?_
      · omega
      · refine ⟨(g_c3 F_ G1_ c_ r0_ s0_).2, d_ ++ [(g_c3 F_ G1_ c_ r0_ s0_).1], r_, t_, e1_ ++ [r0_], e2_ ++ [s0_], rgl_st e100_.1, ?_, ?_, ?_, ?_, ?_, ?_, ?_, fun z_ => ?_, ?_, ?_⟩
        · simp only [List.length_append, List.length_cons, List.length_nil]; push_cast; omega
        · simp only [List.length_append, List.length_cons, List.length_nil]; push_cast; omega
        · simp only [List.length_append, List.length_cons, List.length_nil]; push_cast; omega
        · simp only [List.length_cons] at z3_; omega
        · simp only [List.length_cons] at z4_; push_cast at z4_; omega
        · rw [z5_, List.append_assoc]; rfl
        · rw [z5b, List.append_assoc]; rfl
        · have zz_ : (g_or F_ (g_an F_ (g_an F_ G1_ c_ r0_).2 (i_xor c_ 1) s0_).2 (g_an F_ G1_ c_ r0_).1 (g_an F_ (g_an F_ G1_ c_ r0_).2 (i_xor c_ 1) s0_).1).2.length ≤ 1001 := z_
          have q1_ := z6_ (by omega)
          refine ⟨q1_.1, ?_, ?_, ?_⟩
          · exact rwv_ap (q_ := (8 * ci_ + k_).toNat) q1_.2.1 (by omega) (fun j_ => by rw [g9_, e100_.2.1 z_]; rfl)
          · exact rwv_cg q1_.2.2.1 (fun j_ hj_ => by rw [g9_, if_neg (by omega)])
          · exact rwv_cg q1_.2.2.2 (fun j_ hj_ => by rw [g9_, if_neg (by omega)])
        · show _ ≤ (g_or F_ (g_an F_ (g_an F_ G1_ c_ r0_).2 (i_xor c_ 1) s0_).2 (g_an F_ G1_ c_ r0_).1 (g_an F_ (g_an F_ G1_ c_ r0_).2 (i_xor c_ 1) s0_).1).2.length; omega
        · rw [z8_]; exact g_z2_c
      · intro j_ hj_
        rw [g9_, if_neg (by omega)]
        exact h2_ j_ hj_
      · omega
set_option maxHeartbeats 1500000 in
theorem vc_332 {sc_ : Nat × (Nat → Int)} (ci_ : Int) (F_ : Nat) (G_ : pGr) (c_ : Int) (va_ : List Int) (ve_ : List Int) (S0_ : sm_S) (hI_ : gi S0_) (hg_ : rgl F_ G_ S0_) (ha_ : 0 ≤ ci_ ∧ ci_ ≤ 1021) (hw_ : S0_.2.2.1 138 0 (ci_.toNat + 1) = (va_.length : Int)) (hn_ : va_.length = ve_.length ∧ va_.length ≤ 8) (hr_ : imq (G_.length ≤ 1001) (rwv (S0_.2.2.1 139 0) (8 * ci_.toNat) [c_] ∧ rwv (S0_.2.2.1 139 0) (8 * (ci_.toNat + 1)) va_ ∧ rwv (S0_.2.2.1 139 0) (8 * (ci_.toNat + 2)) ve_)) : sm_T (mt_P sc_) 3 332 (0, [some (.inr (.inr (some (13, 0)))), some (.inl ci_), none, none, none, none], [], S0_) (fun ro9_ => ∃ u_ S1_, ro9_ = (.inl u_, S1_, 0) ∧ vq_332 ci_ F_ G_ c_ va_ ve_ S0_ u_ S1_) := by
  have hF_ : ai_fr (sx_W vw_332) S0_ S0_ := ai_fr_rf
  refine sm_T_go 4 (c1 := (7, [some (.inr (.inr (some (13, 0)))), some (.inl ci_), none, none, none, none], [.inl ci_, .inl 8, .inr (.inr (some (139, 0)))], S0_)) rfl ?_
  refine sm_T_bin (w := 8 * ci_) rfl (bi_mul (by omega) (by omega) (by omega)) ?_
  refine sm_T_iald (n := 8192) rfl rfl (by omega) (by omega) ?_
  have bx1_ : 0 ≤ S0_.2.2.1 139 0 (8 * ci_).toNat ∧ S0_.2.2.1 139 0 (8 * ci_).toNat ≤ 2047 := hI_.2 139 0 _
  refine sm_T_go 3 (c1 := (12, [some (.inr (.inr (some (13, 0)))), some (.inl ci_), some (.inl (S0_.2.2.1 139 0 (8 * ci_).toNat)), some (.inl 0), none, none], [], S0_)) rfl ?_
  refine (vl_332 ci_ F_ G_ c_ va_ ve_ S0_ hg_ ha_ hw_ hn_ hr_ _) (S0_.2.2.1 139 0 (8 * ci_).toNat) 0 S0_ hI_ hF_ ⟨?_, ?_, ?_, trivial⟩ (Nat.lt_succ_self _)
  · omega
  · refine ⟨G_, [], va_, ve_, [], [], hg_, rfl, rfl, rfl, hn_.1, by omega, rfl, rfl, fun z_ => ⟨?_, fun k9_ z9_ e9_ => by simp at e9_, (hr_ z_).2.1, (hr_ z_).2.2⟩, Nat.le_refl _, rfl⟩
    have q_ := (hr_ z_).1 0 c_ rfl
    rw [show (8 * ci_).toNat = 8 * ci_.toNat + 0 by omega]
    exact q_
  · (intro j_ hj_; rfl)
end
