/-! Builder.store -/
def vw_38 : sx_Wl := ([(1, 3), (1, 6), (1, 9), (3, 5)], [26, 46], [])
def vq_38 (k_ : Int) (m_ : Int) (f_ : Int) (a_ : Int) (d_ : Int) (tb_ : Nat → Int) (tn_ : Nat) (A_ : pA) (mm_ : Nat) (ff_ : Nat) (aa_ : Nat) (dd_ : Nat) (F_ : Nat) (I_ : Nat) (s_ : gS) (r_ : gS) (fc0_ : Nat) (S0_ : sm_S) (u_ : Option sm_V) (S1_ : sm_S) : Prop := u_ = none ∧ gi S1_ ∧ ai_fr (sx_W vw_38) S0_ S1_ ∧ (idf dd_ S0_ S1_ ∧ (cxs dd_ F_ I_ ff_ fc0_ r_ S1_ ∧ fun_ ff_ fc0_ (S0_.2.2.1 26 0) (S1_.2.2.1 26 0)))
set_option maxHeartbeats 2000000 in
set_option maxRecDepth 20000 in
theorem vl_38 {sc_ : Nat × (Nat → Int)} (k_ : Int) (m_ : Int) (f_ : Int) (a_ : Int) (d_ : Int) (tb_ : Nat → Int) (tn_ : Nat) (A_ : pA) (mm_ : Nat) (ff_ : Nat) (aa_ : Nat) (dd_ : Nat) (F_ : Nat) (I_ : Nat) (s_ : gS) (r_ : gS) (fc0_ : Nat) (S0_ : sm_S) (hI0_ : gi S0_) (hd_ : S0_.2.1 1 0 1 = some dd_) (hk0_ : 12 ≤ k_ ∧ k_ ≤ 16) (hd0_ : 0 ≤ d_ ∧ d_ ≤ 1048576) (hm1_ : m_ = (mm_ : Int) ∧ mm_ ≤ 15) (hf1_ : f_ = (ff_ : Int)) (ha1_ : a_ = (aa_ : Int) ∧ aa_ ≤ 63) (her_ : ∀ k9_, k9_ ≤ mm_ → er1 tb_ tn_ A_ k9_ S0_) (hA_ : a_ok tb_ tn_ A_ mm_) (hx_ : cxs dd_ F_ I_ ff_ fc0_ s_ S0_) (hok_ : s_.1.1.length ≤ 1000) (he_ : e_st I_ A_ mm_ k_ aa_ d_ s_ = some r_) (hlw_ : lwS F_ s_) (hRF_ : 1 + I_ + r_.1.2.1 ≤ F_) : ∀ nn_ : Nat, (∀ (sy_ : Int) (j_ : Int) (S_ : sm_S), gi S_ → ai_fr (sx_W vw_38) S0_ S_ → ((k_ = 13) ∧ (0 ≤ j_ ∧ sy_ = 40 * m_ + a_ ∧ j_ ≤ 8) ∧ (rwv (S_.2.2.1 26 0) (8 * (40 * ff_ + aa_)) (r_bt I_ s_.1.2.1 j_.toNat)) ∧ (∀ j9_, j9_ < 8 * (40 * ff_ + aa_) ∨ 8 * (40 * ff_ + aa_) + 8 ≤ j9_ → S_.2.2.1 26 0 j9_ = S0_.2.2.1 26 0 j9_) ∧ ((S_.1 1 0 9) = (s_.1.2.1 : Int) + j_ ∧ j_ ≤ A_.2.2.2.1 (40 * mm_ + aa_)) ∧ ((S_.1 1 0 3) = (s_.1.2.2 : Int)) ∧ ((S_.1 1 0 6) = S0_.1 1 0 6 ∧ (∀ j9_, S_.2.2.1 27 0 j9_ = S0_.2.2.1 27 0 j9_) ∧ (∀ j9_, S_.2.2.1 28 0 j9_ = S0_.2.2.1 28 0 j9_) ∧ S_.1 3 dd_ 1 = (I_ : Int)) ∧ (cgl dd_ F_ s_.1.1 S_) ∧ (cxb dd_ (s_.1.2.1 + j_.toNat) S_) ∧ (idf dd_ S0_ S_) ∧ True) → ((8 - j_).toNat) < nn_ → sm_T (mt_P sc_) 1 38 (50, [some (.inr (.inr (some (1, 0)))), some (.inl k_), some (.inl m_), some (.inl f_), some (.inl a_), some (.inl d_), some (.inl sy_), some (.inl j_), none], [], S_) (fun ro9_ => ∃ u_ S1_, ro9_ = (.inl u_, S1_, 0) ∧ vq_38 k_ m_ f_ a_ d_ tb_ tn_ A_ mm_ ff_ aa_ dd_ F_ I_ s_ r_ fc0_ S0_ u_ S1_)) := by
  intro nn_
  induction nn_ with
  | zero => exact fun _ _ _ _ _ _ h_ => absurd h_ (Nat.not_lt_zero _)
  | succ nn_ ih_ =>
    rintro sy_ j_ S_ hI_ hF_ ⟨hk_, h0_, h1_, h2_, h3_, h4_, h5_, h6_, h7_, hD_, -⟩ hm_
    obtain ⟨x1_, x2_, x3_, x4_, x5_, x6_, x7_, x8_, x9_⟩ := id hx_
    have x9a := x9_.1
    have cb_ := cgl_b x1_
    have c12_ : 0 ≤ S0_.1 3 dd_ 1 ∧ 0 ≤ S0_.1 3 dd_ 2 := ⟨(hI0_.1 3 dd_ 1 rfl).1, (hI0_.1 3 dd_ 2 rfl).1⟩
    have A40_ := (hA_.2 mm_ (Nat.le_refl _)).1
    have tp9_ := x8_.1
    have tq9_ : S0_.1 1 0 6 ≤ 512 := (hI0_.1 1 0 6 rfl).2
    obtain ⟨aM_, hO_, w1_, w8_, r6_, er⟩ := e_st13 (show e_st I_ A_ mm_ 13 aa_ d_ s_ = some r_ by rw [← hk_]; exact he_)
    have w80_ : S_.2.2.1 80 0 sy_.toNat = A_.2.2.2.1 (40 * mm_ + aa_) := by rw [show sy_.toNat = 40 * mm_ + aa_ by omega, fr_arr (t := 80) (i := 0) hF_ rfl]; exact ((her_ mm_ (Nat.le_refl _)).2 aa_ (by omega)).2.2.1
    have h3a := h3_.1
    have h5d := h5_.2.2.2
    have hd2_ : S_.1 3 dd_ 2 = S0_.1 3 dd_ 2 := hF_.1 3 dd_ 2 rfl
    refine sm_T_go 5 (c1 := (61, [some (.inr (.inr (some (1, 0)))), some (.inl k_), some (.inl m_), some (.inl f_), some (.inl a_), some (.inl d_), some (.inl sy_), some (.inl j_), none], [.inl sy_, .inr (.inr (some (80, 0))), .inl j_], S_)) rfl ?_
    refine sm_T_iald (n := 640) rfl rfl (by omega) (by omega) ?_
    have bx1_ : 0 ≤ S_.2.2.1 80 0 sy_.toNat ∧ S_.2.2.1 80 0 sy_.toNat ≤ 8 := hI_.2 80 0 _
    refine sm_T_br (a := 3) (z := 99) rfl (fun cx2_ => ?_) (fun cx2_ => ?_)
    · have cx2_ : (S_.2.2.1 80 0 sy_.toNat) ≤ j_ := of_decide_eq_true cx2_
      refine sm_T_rv rfl ⟨_, _, rfl, rfl, hI_, hF_, ?_⟩
      refine ⟨hD_, ?_⟩
      rw [er]
      have jw_ : j_.toNat = (A_.2.2.2.1 (40 * mm_ + aa_)).toNat := by omega
      rw [jw_] at h1_
      refine ⟨⟨h6_, by rw [h3a]; push_cast; omega, h4_, x4_, x5_, x6_, cfr_st x7_ x5_ (by omega) hO_ (by rw [r_bt_l]; omega) h1_ h2_, ⟨by rw [h5_.1]; exact x8_.1, svl_up x8_.2 (fun z_ => z_) (fun j9_ _ => h5_.2.1 j9_) (fun j9_ _ => h5_.2.2.1 j9_)⟩, ⟨h5_.2.2.2, by rw [jw_] at h7_; exact h7_⟩⟩, fun j9_ q1_ q2_ => h2_ j9_ (by omega)⟩
    · have cx2_ : ¬ ((S_.2.2.1 80 0 sy_.toNat) ≤ j_) := of_decide_eq_false cx2_
      refine sm_T_go 3 (c1 := (68, [some (.inr (.inr (some (1, 0)))), some (.inl k_), some (.inl m_), some (.inl f_), some (.inl a_), some (.inl d_), some (.inl sy_), some (.inl j_), none], [.inr (.inr (some (1, 0))), .inl 1, .inl 2], S_)) rfl ?_
      refine sm_T_gr rfl rfl ((hF_.2.1 1 0 1 rfl).trans hd_) ?_
      have bx3_ : 0 ≤ S_.1 3 dd_ 1 ∧ S_.1 3 dd_ 1 ≤ 320 := hI_.1 3 dd_ 1 rfl
      refine sm_T_go 1 (c1 := (74, [some (.inr (.inr (some (1, 0)))), some (.inl k_), some (.inl m_), some (.inl f_), some (.inl a_), some (.inl d_), some (.inl sy_), some (.inl j_), none], [.inl (S_.1 3 dd_ 1), .inl 1, .inl 2], S_)) rfl ?_
      refine sm_T_bin (w := (S_.1 3 dd_ 1) + 1) rfl (bi_add (by omega) (by omega) (by omega)) ?_
      have bx4_ : 0 ≤ S_.1 1 0 9 ∧ S_.1 1 0 9 ≤ 6 := hI_.1 1 0 9 rfl
      refine sm_T_go 2 (c1 := (79, [some (.inr (.inr (some (1, 0)))), some (.inl k_), some (.inl m_), some (.inl f_), some (.inl a_), some (.inl d_), some (.inl sy_), some (.inl j_), none], [.inl (S_.1 1 0 9), .inl ((S_.1 3 dd_ 1) + 1), .inl 2], S_)) rfl ?_
      refine sm_T_bin (w := (S_.1 3 dd_ 1) + (S_.1 1 0 9) + 1) rfl (bi_add (by omega) (by omega) (by omega)) ?_
      refine sm_T_bin (w := 2 * (S_.1 3 dd_ 1) + 2 * (S_.1 1 0 9) + 2) rfl (bi_mul (by omega) (by omega) (by omega)) ?_
      refine sm_T_go 5 (c1 := (90, [some (.inr (.inr (some (1, 0)))), some (.inl k_), some (.inl m_), some (.inl f_), some (.inl a_), some (.inl d_), some (.inl sy_), some (.inl j_), some (.inl (2 * (S_.1 3 dd_ 1) + 2 * (S_.1 1 0 9) + 2))], [.inl a_, .inl f_, .inr (.inr (some (26, 0)))], S_)) rfl ?_
      refine sm_T_cal (d1 := 0) (Q1 := vq_35 f_ a_ S_) rfl rfl (by decide) (vc_35 f_ a_ S_ hI_ (by omega) (by omega)) (fun u_ Sx5_ px8_ => ?_)
      obtain ⟨rfl, vx10_, rfl, px8_⟩ := px8_
      have e90_ := px8_
      have ec : (vx10_ + j_).toNat = 8 * (40 * ff_ + aa_) + j_.toNat := by omega
      refine sm_T_go 1 (c1 := (95, [some (.inr (.inr (some (1, 0)))), some (.inl k_), some (.inl m_), some (.inl f_), some (.inl a_), some (.inl d_), some (.inl sy_), some (.inl j_), some (.inl (2 * (S_.1 3 dd_ 1) + 2 * (S_.1 1 0 9) + 2))], [.inl j_, .inl vx10_, .inr (.inr (some (26, 0)))], S_)) rfl ?_
      refine sm_T_bin (w := vx10_ + j_) rfl (bi_add (by omega) (by omega) (by omega)) ?_
      refine sm_T_go 1 (c1 := (98, [some (.inr (.inr (some (1, 0)))), some (.inl k_), some (.inl m_), some (.inl f_), some (.inl a_), some (.inl d_), some (.inl sy_), some (.inl j_), some (.inl (2 * (S_.1 3 dd_ 1) + 2 * (S_.1 1 0 9) + 2))], [.inl (2 * (S_.1 3 dd_ 1) + 2 * (S_.1 1 0 9) + 2), .inl (vx10_ + j_), .inr (.inr (some (26, 0)))], S_)) rfl ?_
      refine sm_T_iast (n := 64320) rfl rfl (by omega) (by omega) ?_
      have hIx11_ : gi (sm_aI S_ 26 0 (vx10_ + j_).toNat (2 * (S_.1 3 dd_ 1) + 2 * (S_.1 1 0 9) + 2)) := gi_aI hI_ (show 0 ≤ 2 * (S_.1 3 dd_ 1) + 2 * (S_.1 1 0 9) + 2 ∧ 2 * (S_.1 3 dd_ 1) + 2 * (S_.1 1 0 9) + 2 ≤ 2025 from ⟨by omega, by omega⟩)
      have hFx12_ : ai_fr (sx_W vw_38) S0_ (sm_aI S_ 26 0 (vx10_ + j_).toNat (2 * (S_.1 3 dd_ 1) + 2 * (S_.1 1 0 9) + 2)) := ai_fr_tr hF_ (ai_fr_aI rfl)
      have hDx13_ : idf dd_ S0_ (sm_aI S_ 26 0 (vx10_ + j_).toNat (2 * (S_.1 3 dd_ 1) + 2 * (S_.1 1 0 9) + 2)) := idf_aI hD_ (Or.inl (by decide))
      refine sm_T_go 1 (c1 := (100, [some (.inr (.inr (some (1, 0)))), some (.inl k_), some (.inl m_), some (.inl f_), some (.inl a_), some (.inl d_), some (.inl sy_), some (.inl j_), some (.inl (2 * (S_.1 3 dd_ 1) + 2 * (S_.1 1 0 9) + 2))], [.inr (.inr (some (1, 0)))], sm_aI S_ 26 0 (vx10_ + j_).toNat (2 * (S_.1 3 dd_ 1) + 2 * (S_.1 1 0 9) + 2))) rfl ?_
      refine sm_T_gr rfl rfl ((hFx12_.2.1 1 0 1 rfl).trans hd_) ?_
      refine sm_T_go 4 (c1 := (112, [some (.inr (.inr (some (1, 0)))), some (.inl k_), some (.inl m_), some (.inl f_), some (.inl a_), some (.inl d_), some (.inl sy_), some (.inl j_), some (.inl (2 * (S_.1 3 dd_ 1) + 2 * (S_.1 1 0 9) + 2))], [.inl (2 * (S_.1 3 dd_ 1) + 2 * (S_.1 1 0 9) + 2), .inl (S_.1 1 0 9), .inr (.inr (some (46, (0 + dd_))))], sm_aI S_ 26 0 (vx10_ + j_).toNat (2 * (S_.1 3 dd_ 1) + 2 * (S_.1 1 0 9) + 2))) rfl ?_
      refine sm_T_iast (n := 6) rfl rfl (by omega) (by omega) ?_
      have hIx14_ : gi (sm_aI (sm_aI S_ 26 0 (vx10_ + j_).toNat (2 * (S_.1 3 dd_ 1) + 2 * (S_.1 1 0 9) + 2)) 46 (0 + dd_) (S_.1 1 0 9).toNat (2 * (S_.1 3 dd_ 1) + 2 * (S_.1 1 0 9) + 2)) := gi_aI hIx11_ (show 0 ≤ 2 * (S_.1 3 dd_ 1) + 2 * (S_.1 1 0 9) + 2 ∧ 2 * (S_.1 3 dd_ 1) + 2 * (S_.1 1 0 9) + 2 ≤ 2025 from ⟨by omega, by omega⟩)
      have hFx15_ : ai_fr (sx_W vw_38) S0_ (sm_aI (sm_aI S_ 26 0 (vx10_ + j_).toNat (2 * (S_.1 3 dd_ 1) + 2 * (S_.1 1 0 9) + 2)) 46 (0 + dd_) (S_.1 1 0 9).toNat (2 * (S_.1 3 dd_ 1) + 2 * (S_.1 1 0 9) + 2)) := ai_fr_tr hFx12_ (ai_fr_aI rfl)
      have hDx16_ : idf dd_ S0_ (sm_aI (sm_aI S_ 26 0 (vx10_ + j_).toNat (2 * (S_.1 3 dd_ 1) + 2 * (S_.1 1 0 9) + 2)) 46 (0 + dd_) (S_.1 1 0 9).toNat (2 * (S_.1 3 dd_ 1) + 2 * (S_.1 1 0 9) + 2)) := idf_aI hDx13_ (Or.inr rfl)
      refine sm_T_go 1 (c1 := (114, [some (.inr (.inr (some (1, 0)))), some (.inl k_), some (.inl m_), some (.inl f_), some (.inl a_), some (.inl d_), some (.inl sy_), some (.inl j_), some (.inl (2 * (S_.1 3 dd_ 1) + 2 * (S_.1 1 0 9) + 2))], [.inr (.inr (some (1, 0)))], sm_aI (sm_aI S_ 26 0 (vx10_ + j_).toNat (2 * (S_.1 3 dd_ 1) + 2 * (S_.1 1 0 9) + 2)) 46 (0 + dd_) (S_.1 1 0 9).toNat (2 * (S_.1 3 dd_ 1) + 2 * (S_.1 1 0 9) + 2))) rfl ?_
      refine sm_T_gr rfl rfl ((hFx15_.2.1 1 0 1 rfl).trans hd_) ?_
      have bx17_ : 0 ≤ S_.1 3 dd_ 5 ∧ S_.1 3 dd_ 5 ≤ 63 := hI_.1 3 dd_ 5 rfl
      refine sm_T_go 6 (c1 := (130, [some (.inr (.inr (some (1, 0)))), some (.inl k_), some (.inl m_), some (.inl f_), some (.inl a_), some (.inl d_), some (.inl sy_), some (.inl j_), some (.inl (2 * (S_.1 3 dd_ 1) + 2 * (S_.1 1 0 9) + 2))], [.inl sy_, .inr (.inr (some (81, 0))), .inl (S_.1 3 dd_ 5), .inr (.inr (some (3, dd_)))], sm_aI (sm_aI S_ 26 0 (vx10_ + j_).toNat (2 * (S_.1 3 dd_ 1) + 2 * (S_.1 1 0 9) + 2)) 46 (0 + dd_) (S_.1 1 0 9).toNat (2 * (S_.1 3 dd_ 1) + 2 * (S_.1 1 0 9) + 2))) rfl ?_
      refine sm_T_iald (n := 640) rfl rfl (by omega) (by omega) ?_
      have bx18_ : 0 ≤ S_.2.2.1 81 0 sy_.toNat ∧ S_.2.2.1 81 0 sy_.toNat ≤ 255 := hI_.2 81 0 _
      refine sm_T_go 1 (c1 := (133, [some (.inr (.inr (some (1, 0)))), some (.inl k_), some (.inl m_), some (.inl f_), some (.inl a_), some (.inl d_), some (.inl sy_), some (.inl j_), some (.inl (2 * (S_.1 3 dd_ 1) + 2 * (S_.1 1 0 9) + 2))], [.inl j_, .inl (S_.2.2.1 81 0 sy_.toNat), .inl (S_.1 3 dd_ 5), .inr (.inr (some (3, dd_)))], sm_aI (sm_aI S_ 26 0 (vx10_ + j_).toNat (2 * (S_.1 3 dd_ 1) + 2 * (S_.1 1 0 9) + 2)) 46 (0 + dd_) (S_.1 1 0 9).toNat (2 * (S_.1 3 dd_ 1) + 2 * (S_.1 1 0 9) + 2))) rfl ?_
      refine sm_T_bin (w := (i_shr (S_.2.2.1 81 0 sy_.toNat) j_)) rfl rfl ?_
      refine sm_T_go 1 (c1 := (135, [some (.inr (.inr (some (1, 0)))), some (.inl k_), some (.inl m_), some (.inl f_), some (.inl a_), some (.inl d_), some (.inl sy_), some (.inl j_), some (.inl (2 * (S_.1 3 dd_ 1) + 2 * (S_.1 1 0 9) + 2))], [.inl 1, .inl (i_shr (S_.2.2.1 81 0 sy_.toNat) j_), .inl (S_.1 3 dd_ 5), .inr (.inr (some (3, dd_)))], sm_aI (sm_aI S_ 26 0 (vx10_ + j_).toNat (2 * (S_.1 3 dd_ 1) + 2 * (S_.1 1 0 9) + 2)) 46 (0 + dd_) (S_.1 1 0 9).toNat (2 * (S_.1 3 dd_ 1) + 2 * (S_.1 1 0 9) + 2))) rfl ?_
      refine sm_T_bin (w := ((i_shr (S_.2.2.1 81 0 sy_.toNat) j_) % 2)) rfl (bi_msk (k := 1) (by decide)) ?_
      refine sm_T_go 2 (c1 := (140, [some (.inr (.inr (some (1, 0)))), some (.inl k_), some (.inl m_), some (.inl f_), some (.inl a_), some (.inl d_), some (.inl sy_), some (.inl j_), some (.inl (2 * (S_.1 3 dd_ 1) + 2 * (S_.1 1 0 9) + 2))], [.inl (S_.1 1 0 9), .inl ((i_shr (S_.2.2.1 81 0 sy_.toNat) j_) % 2), .inl (S_.1 3 dd_ 5), .inr (.inr (some (3, dd_)))], sm_aI (sm_aI S_ 26 0 (vx10_ + j_).toNat (2 * (S_.1 3 dd_ 1) + 2 * (S_.1 1 0 9) + 2)) 46 (0 + dd_) (S_.1 1 0 9).toNat (2 * (S_.1 3 dd_ 1) + 2 * (S_.1 1 0 9) + 2))) rfl ?_
      refine sm_T_bin (w := (i_shl ((i_shr (S_.2.2.1 81 0 sy_.toNat) j_) % 2) (S_.1 1 0 9))) rfl rfl ?_
      have bx19_ := i_shb (x_ := ((i_shr (S_.2.2.1 81 0 sy_.toNat) j_) % 2)) (y_ := (S_.1 1 0 9)) (by omega) (by omega)
      refine sm_T_bin (w := (i_or (S_.1 3 dd_ 5) (i_shl ((i_shr (S_.2.2.1 81 0 sy_.toNat) j_) % 2) (S_.1 1 0 9)))) rfl rfl ?_
      have bx20_ := i_orb (x_ := (S_.1 3 dd_ 5)) (y_ := (i_shl ((i_shr (S_.2.2.1 81 0 sy_.toNat) j_) % 2) (S_.1 1 0 9))) (by omega) (by omega)
      have hIx21_ : gi (sm_pI (sm_aI (sm_aI S_ 26 0 (vx10_ + j_).toNat (2 * (S_.1 3 dd_ 1) + 2 * (S_.1 1 0 9) + 2)) 46 (0 + dd_) (S_.1 1 0 9).toNat (2 * (S_.1 3 dd_ 1) + 2 * (S_.1 1 0 9) + 2)) 3 dd_ 5 (i_or (S_.1 3 dd_ 5) (i_shl ((i_shr (S_.2.2.1 81 0 sy_.toNat) j_) % 2) (S_.1 1 0 9)))) := gi_pI hIx14_ (show 0 ≤ (i_or (S_.1 3 dd_ 5) (i_shl ((i_shr (S_.2.2.1 81 0 sy_.toNat) j_) % 2) (S_.1 1 0 9))) ∧ (i_or (S_.1 3 dd_ 5) (i_shl ((i_shr (S_.2.2.1 81 0 sy_.toNat) j_) % 2) (S_.1 1 0 9))) ≤ 63 from ⟨by omega, by omega⟩)
      have hFx22_ : ai_fr (sx_W vw_38) S0_ (sm_pI (sm_aI (sm_aI S_ 26 0 (vx10_ + j_).toNat (2 * (S_.1 3 dd_ 1) + 2 * (S_.1 1 0 9) + 2)) 46 (0 + dd_) (S_.1 1 0 9).toNat (2 * (S_.1 3 dd_ 1) + 2 * (S_.1 1 0 9) + 2)) 3 dd_ 5 (i_or (S_.1 3 dd_ 5) (i_shl ((i_shr (S_.2.2.1 81 0 sy_.toNat) j_) % 2) (S_.1 1 0 9)))) := ai_fr_tr hFx15_ (ai_fr_pI rfl)
      have hDx23_ : idf dd_ S0_ (sm_pI (sm_aI (sm_aI S_ 26 0 (vx10_ + j_).toNat (2 * (S_.1 3 dd_ 1) + 2 * (S_.1 1 0 9) + 2)) 46 (0 + dd_) (S_.1 1 0 9).toNat (2 * (S_.1 3 dd_ 1) + 2 * (S_.1 1 0 9) + 2)) 3 dd_ 5 (i_or (S_.1 3 dd_ 5) (i_shl ((i_shr (S_.2.2.1 81 0 sy_.toNat) j_) % 2) (S_.1 1 0 9)))) := idf_pI hDx16_ (Or.inr rfl)
      refine sm_T_go 5 (c1 := (151, [some (.inr (.inr (some (1, 0)))), some (.inl k_), some (.inl m_), some (.inl f_), some (.inl a_), some (.inl d_), some (.inl sy_), some (.inl j_), some (.inl (2 * (S_.1 3 dd_ 1) + 2 * (S_.1 1 0 9) + 2))], [.inl 1, .inl (S_.1 1 0 9), .inr (.inr (some (1, 0)))], sm_pI (sm_aI (sm_aI S_ 26 0 (vx10_ + j_).toNat (2 * (S_.1 3 dd_ 1) + 2 * (S_.1 1 0 9) + 2)) 46 (0 + dd_) (S_.1 1 0 9).toNat (2 * (S_.1 3 dd_ 1) + 2 * (S_.1 1 0 9) + 2)) 3 dd_ 5 (i_or (S_.1 3 dd_ 5) (i_shl ((i_shr (S_.2.2.1 81 0 sy_.toNat) j_) % 2) (S_.1 1 0 9))))) rfl ?_
      refine sm_T_bin (w := (S_.1 1 0 9) + 1) rfl (bi_add (by omega) (by omega) (by omega)) ?_
      have hIx24_ : gi (sm_pI (sm_pI (sm_aI (sm_aI S_ 26 0 (vx10_ + j_).toNat (2 * (S_.1 3 dd_ 1) + 2 * (S_.1 1 0 9) + 2)) 46 (0 + dd_) (S_.1 1 0 9).toNat (2 * (S_.1 3 dd_ 1) + 2 * (S_.1 1 0 9) + 2)) 3 dd_ 5 (i_or (S_.1 3 dd_ 5) (i_shl ((i_shr (S_.2.2.1 81 0 sy_.toNat) j_) % 2) (S_.1 1 0 9)))) 1 0 9 ((S_.1 1 0 9) + 1)) := gi_pI hIx21_ (show 0 ≤ (S_.1 1 0 9) + 1 ∧ (S_.1 1 0 9) + 1 ≤ 6 from ⟨by omega, by omega⟩)
      have hFx25_ : ai_fr (sx_W vw_38) S0_ (sm_pI (sm_pI (sm_aI (sm_aI S_ 26 0 (vx10_ + j_).toNat (2 * (S_.1 3 dd_ 1) + 2 * (S_.1 1 0 9) + 2)) 46 (0 + dd_) (S_.1 1 0 9).toNat (2 * (S_.1 3 dd_ 1) + 2 * (S_.1 1 0 9) + 2)) 3 dd_ 5 (i_or (S_.1 3 dd_ 5) (i_shl ((i_shr (S_.2.2.1 81 0 sy_.toNat) j_) % 2) (S_.1 1 0 9)))) 1 0 9 ((S_.1 1 0 9) + 1)) := ai_fr_tr hFx22_ (ai_fr_pI rfl)
      have hDx26_ : idf dd_ S0_ (sm_pI (sm_pI (sm_aI (sm_aI S_ 26 0 (vx10_ + j_).toNat (2 * (S_.1 3 dd_ 1) + 2 * (S_.1 1 0 9) + 2)) 46 (0 + dd_) (S_.1 1 0 9).toNat (2 * (S_.1 3 dd_ 1) + 2 * (S_.1 1 0 9) + 2)) 3 dd_ 5 (i_or (S_.1 3 dd_ 5) (i_shl ((i_shr (S_.2.2.1 81 0 sy_.toNat) j_) % 2) (S_.1 1 0 9)))) 1 0 9 ((S_.1 1 0 9) + 1)) := idf_pI hDx23_ (Or.inl (by decide))
      refine sm_T_go 1 (c1 := (155, [some (.inr (.inr (some (1, 0)))), some (.inl k_), some (.inl m_), some (.inl f_), some (.inl a_), some (.inl d_), some (.inl sy_), some (.inl j_), some (.inl (2 * (S_.1 3 dd_ 1) + 2 * (S_.1 1 0 9) + 2))], [], sm_pI (sm_pI (sm_aI (sm_aI S_ 26 0 (vx10_ + j_).toNat (2 * (S_.1 3 dd_ 1) + 2 * (S_.1 1 0 9) + 2)) 46 (0 + dd_) (S_.1 1 0 9).toNat (2 * (S_.1 3 dd_ 1) + 2 * (S_.1 1 0 9) + 2)) 3 dd_ 5 (i_or (S_.1 3 dd_ 5) (i_shl ((i_shr (S_.2.2.1 81 0 sy_.toNat) j_) % 2) (S_.1 1 0 9)))) 1 0 9 ((S_.1 1 0 9) + 1))) rfl ?_
      refine sm_T_inc (a := 7) (z := 1) (v := j_) (w := j_ + 1) rfl rfl (by omega) (by omega) (by omega) ?_
      refine sm_T_go 1 (c1 := (50, [some (.inr (.inr (some (1, 0)))), some (.inl k_), some (.inl m_), some (.inl f_), some (.inl a_), some (.inl d_), some (.inl sy_), some (.inl (j_ + 1)), some (.inl (2 * (S_.1 3 dd_ 1) + 2 * (S_.1 1 0 9) + 2))], [], sm_pI (sm_pI (sm_aI (sm_aI S_ 26 0 (vx10_ + j_).toNat (2 * (S_.1 3 dd_ 1) + 2 * (S_.1 1 0 9) + 2)) 46 (0 + dd_) (S_.1 1 0 9).toNat (2 * (S_.1 3 dd_ 1) + 2 * (S_.1 1 0 9) + 2)) 3 dd_ 5 (i_or (S_.1 3 dd_ 5) (i_shl ((i_shr (S_.2.2.1 81 0 sy_.toNat) j_) % 2) (S_.1 1 0 9)))) 1 0 9 ((S_.1 1 0 9) + 1))) rfl ?_
      refine sm_T_wk [some (.inr (.inr (some (1, 0)))), some (.inl k_), some (.inl m_), some (.inl f_), some (.inl a_), some (.inl d_), some (.inl sy_), some (.inl (j_ + 1)), none] (by exact ⟨rfl, rfl, rfl, rfl, rfl, rfl, rfl, rfl, trivial⟩) ?_
      refine ih_ sy_ (j_ + 1) (sm_pI (sm_pI (sm_aI (sm_aI S_ 26 0 (vx10_ + j_).toNat (2 * (S_.1 3 dd_ 1) + 2 * (S_.1 1 0 9) + 2)) 46 (0 + dd_) (S_.1 1 0 9).toNat (2 * (S_.1 3 dd_ 1) + 2 * (S_.1 1 0 9) + 2)) 3 dd_ 5 (i_or (S_.1 3 dd_ 5) (i_shl ((i_shr (S_.2.2.1 81 0 sy_.toNat) j_) % 2) (S_.1 1 0 9)))) 1 0 9 ((S_.1 1 0 9) + 1)) hIx24_ hFx25_ ⟨?_, ?_, ?_, ?_, ?_, ?_, ?_, ?_, ?_, ?_, trivial⟩ ?_
      · exact hk_
      · omega
      · rw [show (j_ + 1).toNat = j_.toNat + 1 by omega, r_bt_s]
        refine rwv_ap (q_ := 8 * (40 * ff_ + aa_) + j_.toNat) h1_ (by rw [r_bt_l]) (fun j9_ => ?_)
        (try simp only [rd_eq, rd_ne, rf_eq, rf_nk, rf_nt, rd_fa, rd_af, rd_fl, rd_al, rd_lf, rd_la, rd_leq, rd_lne, rd_fr, rd_ar, ne_eq, Nat.reduceEqDiff, not_false_eq_true])
        rw [ec]
        by_cases q9_ : j9_ = 8 * (40 * ff_ + aa_) + j_.toNat
        · rw [if_pos q9_, if_pos q9_]; push_cast; omega
        · rw [if_neg q9_, if_neg q9_]
      · intro j9_ q_
        (try simp only [rd_eq, rd_ne, rf_eq, rf_nk, rf_nt, rd_fa, rd_af, rd_fl, rd_al, rd_lf, rd_la, rd_leq, rd_lne, rd_fr, rd_ar, ne_eq, Nat.reduceEqDiff, not_false_eq_true])
        rw [ec, if_neg (by omega)]
        exact h2_ j9_ q_
      · (try simp only [rd_eq, rd_ne, rf_eq, rf_nk, rf_nt, rd_fa, rd_af, rd_fl, rd_al, rd_lf, rd_la, rd_leq, rd_lne, rd_fr, rd_ar, ne_eq, Nat.reduceEqDiff, not_false_eq_true]); omega
      · (show S_.1 1 0 3 = _; exact h4_)
      · refine ⟨h5_.1, fun j9_ => ?_, fun j9_ => ?_, ?_⟩
        · (try simp only [rd_eq, rd_ne, rf_eq, rf_nk, rf_nt, rd_fa, rd_af, rd_fl, rd_al, rd_lf, rd_la, rd_leq, rd_lne, rd_fr, rd_ar, ne_eq, Nat.reduceEqDiff, not_false_eq_true]); exact h5_.2.1 j9_
        · (try simp only [rd_eq, rd_ne, rf_eq, rf_nk, rf_nt, rd_fa, rd_af, rd_fl, rd_al, rd_lf, rd_la, rd_leq, rd_lne, rd_fr, rd_ar, ne_eq, Nat.reduceEqDiff, not_false_eq_true]); exact h5_.2.2.1 j9_
        · (try simp only [rd_eq, rd_ne, rf_eq, rf_nk, rf_nt, rd_fa, rd_af, rd_fl, rd_al, rd_lf, rd_la, rd_leq, rd_lne, rd_fr, rd_ar, ne_eq, Nat.reduceEqDiff, not_false_eq_true]); exact h5d
      · exact cgl_fr (w_ := ([(1, 9), (3, 5)], [26, 46], [])) h6_ (ai_fr_tr (ai_fr_tr (ai_fr_tr (ai_fr_aI rfl) (ai_fr_aI rfl)) (ai_fr_pI rfl)) (ai_fr_pI rfl)) rfl rfl rfl rfl rfl rfl rfl rfl
      · refine ⟨?_, ?_⟩
        (try simp only [rd_eq, rd_ne, rf_eq, rf_nk, rf_nt, rd_fa, rd_af, rd_fl, rd_al, rd_lf, rd_la, rd_leq, rd_lne, rd_fr, rd_ar, ne_eq, Nat.reduceEqDiff, not_false_eq_true])
        rw [show (j_ + 1).toNat = j_.toNat + 1 by omega, ← Nat.add_assoc, show S_.1 1 0 9 = ((s_.1.2.1 + j_.toNat : Nat) : Int) by omega]
        exact bg_up h7_.1.1 h7_.1.2 (by omega) (by omega)
        intro k9_ hk9_
        have nn_ := cgl_n h6_ hok_
        have q7_ := h7_.2 k9_
        have rF_ : 1 + I_ + (s_.1.2.1 + (A_.2.2.2.1 (40 * mm_ + aa_)).toNat) ≤ F_ := by rw [er] at hRF_; exact hRF_
        (try simp only [rd_eq, rd_ne, rf_eq, rf_nk, rf_nt, rd_fa, rd_af, rd_fl, rd_al, rd_lf, rd_la, rd_leq, rd_lne, rd_fr, rd_ar, ne_eq, Nat.reduceEqDiff, not_false_eq_true])
        by_cases q9_ : k9_ = (S_.1 1 0 9).toNat
        · rw [if_pos q9_, nn_]; push_cast; omega
        · rw [if_neg q9_]; exact q7_ (by omega)
      · exact hDx26_
      · omega
set_option maxHeartbeats 2000000 in
set_option maxRecDepth 20000 in
theorem vc_38 {sc_ : Nat × (Nat → Int)} (k_ : Int) (m_ : Int) (f_ : Int) (a_ : Int) (d_ : Int) (tb_ : Nat → Int) (tn_ : Nat) (A_ : pA) (mm_ : Nat) (ff_ : Nat) (aa_ : Nat) (dd_ : Nat) (F_ : Nat) (I_ : Nat) (s_ : gS) (r_ : gS) (fc0_ : Nat) (S0_ : sm_S) (hI_ : gi S0_) (hI0_ : gi S0_) (hd_ : S0_.2.1 1 0 1 = some dd_) (hk0_ : 12 ≤ k_ ∧ k_ ≤ 16) (hd0_ : 0 ≤ d_ ∧ d_ ≤ 1048576) (hm1_ : m_ = (mm_ : Int) ∧ mm_ ≤ 15) (hf1_ : f_ = (ff_ : Int)) (ha1_ : a_ = (aa_ : Int) ∧ aa_ ≤ 63) (her_ : ∀ k9_, k9_ ≤ mm_ → er1 tb_ tn_ A_ k9_ S0_) (hA_ : a_ok tb_ tn_ A_ mm_) (hx_ : cxs dd_ F_ I_ ff_ fc0_ s_ S0_) (hok_ : s_.1.1.length ≤ 1000) (he_ : e_st I_ A_ mm_ k_ aa_ d_ s_ = some r_) (hlw_ : lwS F_ s_) (hRF_ : 1 + I_ + r_.1.2.1 ≤ F_) : sm_T (mt_P sc_) 1 38 (0, [some (.inr (.inr (some (1, 0)))), some (.inl k_), some (.inl m_), some (.inl f_), some (.inl a_), some (.inl d_), none, none, none], [], S0_) (fun ro9_ => ∃ u_ S1_, ro9_ = (.inl u_, S1_, 0) ∧ vq_38 k_ m_ f_ a_ d_ tb_ tn_ A_ mm_ ff_ aa_ dd_ F_ I_ s_ r_ fc0_ S0_ u_ S1_) := by
  have hF_ : ai_fr (sx_W vw_38) S0_ S0_ := ai_fr_rf
  have hD_ : idf dd_ S0_ S0_ := idf_rf
  obtain ⟨x1_, x2_, x3_, x4_, x5_, x6_, x7_, x8_, x9_⟩ := id hx_
  have x9a := x9_.1
  have cb_ := cgl_b x1_
  have c12_ : 0 ≤ S0_.1 3 dd_ 1 ∧ 0 ≤ S0_.1 3 dd_ 2 := ⟨(hI0_.1 3 dd_ 1 rfl).1, (hI0_.1 3 dd_ 2 rfl).1⟩
  have A40_ := (hA_.2 mm_ (Nat.le_refl _)).1
  have tp9_ := x8_.1
  have tq9_ : S0_.1 1 0 6 ≤ 512 := (hI0_.1 1 0 6 rfl).2
  refine sm_T_go 2 (c1 := (3, [some (.inr (.inr (some (1, 0)))), some (.inl k_), some (.inl m_), some (.inl f_), some (.inl a_), some (.inl d_), none, none, none], [.inl 40, .inl m_], S0_)) rfl ?_
  refine sm_T_bin (w := 40 * m_) rfl (bi_mul (by omega) (by omega) (by omega)) ?_
  refine sm_T_go 1 (c1 := (6, [some (.inr (.inr (some (1, 0)))), some (.inl k_), some (.inl m_), some (.inl f_), some (.inl a_), some (.inl d_), none, none, none], [.inl a_, .inl (40 * m_)], S0_)) rfl ?_
  refine sm_T_bin (w := 40 * m_ + a_) rfl (bi_add (by omega) (by omega) (by omega)) ?_
  refine sm_T_go 3 (c1 := (12, [some (.inr (.inr (some (1, 0)))), some (.inl k_), some (.inl m_), some (.inl f_), some (.inl a_), some (.inl d_), some (.inl (40 * m_ + a_)), none, none], [.inl 15, .inl k_], S0_)) rfl ?_
  refine sm_T_br (a := 1) (z := 29) rfl (fun cx1_ => ?_) (fun cx1_ => ?_)
  · have cx1_ : k_ ≠ 15 := of_decide_eq_true cx1_
    refine sm_T_go 2 (c1 := (44, [some (.inr (.inr (some (1, 0)))), some (.inl k_), some (.inl m_), some (.inl f_), some (.inl a_), some (.inl d_), some (.inl (40 * m_ + a_)), none, none], [.inl 13, .inl k_], S0_)) rfl ?_
    refine sm_T_br (a := 1) (z := 118) rfl (fun cx2_ => ?_) (fun cx2_ => ?_)
    · have cx2_ : k_ ≠ 13 := of_decide_eq_true cx2_
      obtain ⟨aM_, x_, l_, hsV_, hcs_⟩ := e_stp he_ (by omega) (by omega)
      rw [hsV_] at x8_
      have hxl_ : lwl (F_ + s_.1.1.length) x_ := by have q9_ := hlw_.2.2.2; rw [hsV_] at q9_; exact (lwV_c.mp q9_).1
      have x8b : x_.length ≤ 8 := x8_.2.2.1.2
      have tp_ : S0_.1 1 0 6 = (l_.length : Int) + 1 := by rw [x8_.1]; simp only [List.length_cons]; push_cast; omega
      have bx3_ : 0 ≤ S0_.1 1 0 6 ∧ S0_.1 1 0 6 ≤ 512 := hI_.1 1 0 6 rfl
      refine sm_T_go 4 (c1 := (168, [some (.inr (.inr (some (1, 0)))), some (.inl k_), some (.inl m_), some (.inl f_), some (.inl a_), some (.inl d_), some (.inl (40 * m_ + a_)), none, none], [.inl 1, .inl (S0_.1 1 0 6), .inr (.inr (some (1, 0)))], S0_)) rfl ?_
      refine sm_T_bin (w := (S0_.1 1 0 6) - 1) rfl (bi_sub (by omega) (by omega) (by omega)) ?_
      have hIx4_ : gi (sm_pI S0_ 1 0 6 ((S0_.1 1 0 6) - 1)) := gi_pI hI_ (show 0 ≤ (S0_.1 1 0 6) - 1 ∧ (S0_.1 1 0 6) - 1 ≤ 512 from ⟨by omega, by omega⟩)
      have hFx5_ : ai_fr (sx_W vw_38) S0_ (sm_pI S0_ 1 0 6 ((S0_.1 1 0 6) - 1)) := ai_fr_tr hF_ (ai_fr_pI rfl)
      have hDx6_ : idf dd_ S0_ (sm_pI S0_ 1 0 6 ((S0_.1 1 0 6) - 1)) := idf_pI hD_ (Or.inl (by decide))
      refine sm_T_go 3 (c1 := (175, [some (.inr (.inr (some (1, 0)))), some (.inl k_), some (.inl m_), some (.inl f_), some (.inl a_), some (.inl d_), some (.inl (40 * m_ + a_)), none, none], [.inl 14, .inl k_], sm_pI S0_ 1 0 6 ((S0_.1 1 0 6) - 1))) rfl ?_
      refine sm_T_br (a := 1) (z := 63) rfl (fun cx7_ => ?_) (fun cx7_ => ?_)
      · have cx7_ : k_ ≠ 14 := of_decide_eq_true cx7_
        refine sm_T_go 2 (c1 := (241, [some (.inr (.inr (some (1, 0)))), some (.inl k_), some (.inl m_), some (.inl f_), some (.inl a_), some (.inl d_), some (.inl (40 * m_ + a_)), none, none], [.inl 12, .inl k_], sm_pI S0_ 1 0 6 ((S0_.1 1 0 6) - 1))) rfl ?_
        refine sm_T_br (a := 1) (z := 12) rfl (fun cx8_ => ?_) (fun cx8_ => ?_)
        · have cx8_ : k_ ≠ 12 := of_decide_eq_true cx8_
          obtain ⟨hk_, o_, hO_, d40_, xl_, er⟩ : k_ = 16 ∧ ∃ o_, s_.2.2.1 aa_ = some o_ ∧ (0 ≤ d_ ∧ d_ < 40) ∧ x_.length ≤ 8 ∧ r_ = (s_.1, s_.2.1, up1 s_.2.2.1 aa_ (some (up1 o_ d_.toNat x_)), l_) := by rcases hcs_ with q_ | q_ | q_; (exact absurd q_.1 (by omega)); (exact absurd q_.1 (by omega)); (exact q_)
          obtain ⟨xE_, P_, xP_⟩ := id x7_
          have yP_ := xP_ aa_ (by omega) o_ hO_
          have y2_ := yP_.2.1
          have pt_ : S0_.2.2.1 26 0 (8 * (40 * f_ + a_)).toNat = (P_ aa_ : Int) := by rw [show (8 * (40 * f_ + a_)).toNat = 8 * (40 * ff_ + aa_) by omega]; exact yP_.1
          refine sm_T_go 4 (c1 := (260, [some (.inr (.inr (some (1, 0)))), some (.inl k_), some (.inl m_), some (.inl f_), some (.inl a_), some (.inl d_), some (.inl (40 * m_ + a_)), none, none], [.inl a_, .inl f_, .inr (.inr (some (26, 0)))], sm_pI S0_ 1 0 6 ((S0_.1 1 0 6) - 1))) rfl ?_
          refine sm_T_cal (d1 := 0) (Q1 := vq_35 f_ a_ (sm_pI S0_ 1 0 6 ((S0_.1 1 0 6) - 1))) rfl rfl (by decide) (vc_35 f_ a_ (sm_pI S0_ 1 0 6 ((S0_.1 1 0 6) - 1)) hIx4_ (by omega) (by omega)) (fun u_ Sx9_ px12_ => ?_)
          obtain ⟨rfl, vx14_, rfl, px12_⟩ := px12_
          have e260_ := px12_
          have pt2_ : S0_.2.2.1 26 0 vx14_.toNat = (P_ aa_ : Int) := by rw [e260_]; exact pt_
          refine sm_T_iald (n := 64320) rfl rfl (by omega) (by omega) ?_
          have bx15_ : 0 ≤ S0_.2.2.1 26 0 vx14_.toNat ∧ S0_.2.2.1 26 0 vx14_.toNat ≤ 2025 := hI_.2 26 0 _
          refine sm_T_go 1 (c1 := (266, [some (.inr (.inr (some (1, 0)))), some (.inl k_), some (.inl m_), some (.inl f_), some (.inl a_), some (.inl d_), some (.inl (40 * m_ + a_)), none, none], [.inl d_, .inl (S0_.2.2.1 26 0 vx14_.toNat)], sm_pI S0_ 1 0 6 ((S0_.1 1 0 6) - 1))) rfl ?_
          refine sm_T_cal (d1 := 0) (Q1 := vq_35 (S0_.2.2.1 26 0 vx14_.toNat) d_ (sm_pI S0_ 1 0 6 ((S0_.1 1 0 6) - 1))) rfl rfl (by decide) (vc_35 (S0_.2.2.1 26 0 vx14_.toNat) d_ (sm_pI S0_ 1 0 6 ((S0_.1 1 0 6) - 1)) hIx4_ (by omega) (by omega)) (fun u_ Sx16_ px19_ => ?_)
          obtain ⟨rfl, vx21_, rfl, px19_⟩ := px19_
          have e266_ := px19_
          have ec : vx21_.toNat = 8 * (40 * P_ aa_ + d_.toNat) := by rw [e266_, pt2_]; omega
          refine sm_T_go 6 (c1 := (281, [some (.inr (.inr (some (1, 0)))), some (.inl k_), some (.inl m_), some (.inl f_), some (.inl a_), some (.inl d_), some (.inl (40 * m_ + a_)), some (.inl vx21_), none], [.inl 8, .inl ((S0_.1 1 0 6) - 1), .inr (.inr (some (27, 0)))], sm_pI S0_ 1 0 6 ((S0_.1 1 0 6) - 1))) rfl ?_
          refine sm_T_bin (w := 8 * (S0_.1 1 0 6) - 8) rfl (bi_mul (by omega) (by omega) (by omega)) ?_
          refine sm_T_go 4 (c1 := (290, [some (.inr (.inr (some (1, 0)))), some (.inl k_), some (.inl m_), some (.inl f_), some (.inl a_), some (.inl d_), some (.inl (40 * m_ + a_)), some (.inl vx21_), none], [.inl 8, .inl vx21_, .inr (.inr (some (26, 0))), .inl (8 * (S0_.1 1 0 6) - 8), .inr (.inr (some (27, 0)))], sm_pI S0_ 1 0 6 ((S0_.1 1 0 6) - 1))) rfl ?_
          refine sm_T_nt (u := none) (S1 := sm_acI (sm_pI S0_ 1 0 6 ((S0_.1 1 0 6) - 1)) 27 0 26 0 (8 * (S0_.1 1 0 6) - 8).toNat vx21_.toNat (8 : Int).toNat) rfl rfl (nt_acI (sc := sc_) (n := 4096) (n1 := 64320) rfl rfl (by omega) (by omega) (by omega) (by omega) (by omega)) ?_
          have hIx22_ : gi (sm_acI (sm_pI S0_ 1 0 6 ((S0_.1 1 0 6) - 1)) 27 0 26 0 (8 * (S0_.1 1 0 6) - 8).toNat vx21_.toNat (8 : Int).toNat) := gi_ac hIx4_ (by decide) (by decide)
          have hFx23_ : ai_fr (sx_W vw_38) S0_ (sm_acI (sm_pI S0_ 1 0 6 ((S0_.1 1 0 6) - 1)) 27 0 26 0 (8 * (S0_.1 1 0 6) - 8).toNat vx21_.toNat (8 : Int).toNat) := ai_fr_tr hFx5_ (fr_ac rfl)
          have hDx24_ : idf dd_ S0_ (sm_acI (sm_pI S0_ 1 0 6 ((S0_.1 1 0 6) - 1)) 27 0 26 0 (8 * (S0_.1 1 0 6) - 8).toNat vx21_.toNat (8 : Int).toNat) := idf_ac hDx6_ (Or.inl (by decide))
          refine sm_T_rv rfl ⟨_, _, rfl, rfl, hIx22_, hFx23_, ?_⟩
          refine ⟨hDx24_, ?_⟩
          rw [er]
          first | (have f26_ : ((sm_acI (sm_pI S0_ 1 0 6 ((S0_.1 1 0 6) - 1)) 27 0 26 0 (8 * (S0_.1 1 0 6) - 8).toNat vx21_.toNat (8 : Int).toNat)).2.2.1 26 0 = sm_cp (S0_.2.2.1 27 0) (S0_.2.2.1 26 0) (8 * l_.length) (8 * (40 * ff_ + aa_)) 8 := (by rw [← ec, show 8 * l_.length = (8 * S0_.1 1 0 6 - 8).toNat by omega]; exact sm_acI_at); have hl1_ : rwv (S0_.2.2.1 27 0) (8 * l_.length) x_ := x8_.2.2.2.1 hok_; refine ⟨⟨cgl_fr (w_ := ([(1, 6)], [26], [])) x1_ (ai_fr_tr (ai_fr_pI rfl) (fr_ac rfl)) rfl rfl rfl rfl rfl rfl rfl rfl, x2_, x3_, x4_, x5_, x6_, cfr_st x7_ x5_ (by omega) hO_ xl_ (by rw [f26_]; exact rwv_cp hl1_ xl_) (fun j_ q1_ => by rw [f26_, sm_cp_o q1_]), ⟨by show S0_.1 1 0 6 - 1 = (l_.length : Int); omega, svl_pop x8_.2 (fun j_ => congrFun (sm_acI_ne (by omega)) j_) (fun j_ => congrFun (sm_acI_ne (by omega)) j_)⟩, cxe_fr (w_ := ([(1, 6)], [26], [])) x9_ (ai_fr_tr (ai_fr_pI rfl) (fr_ac rfl)) rfl rfl rfl rfl⟩, fun j_ q1_ q2_ => by rw [f26_, sm_cp_o (by omega)]⟩) | (have f26_ : ((sm_acI (sm_pI S0_ 1 0 6 ((S0_.1 1 0 6) - 1)) 27 0 26 0 (8 * (S0_.1 1 0 6) - 8).toNat vx21_.toNat (8 : Int).toNat)).2.2.1 26 0 = sm_cp (S0_.2.2.1 27 0) (S0_.2.2.1 26 0) (8 * l_.length) (8 * (40 * P_ aa_ + d_.toNat)) 8 := (by rw [← ec, show 8 * l_.length = (8 * S0_.1 1 0 6 - 8).toNat by omega]; exact sm_acI_at); have hl1_ : rwv (S0_.2.2.1 27 0) (8 * l_.length) x_ := x8_.2.2.2.1 hok_; refine ⟨⟨cgl_fr (w_ := ([(1, 6)], [26], [])) x1_ (ai_fr_tr (ai_fr_pI rfl) (fr_ac rfl)) rfl rfl rfl rfl rfl rfl rfl rfl, x2_, x3_, x4_, x5_, x6_, cfr_ag (p_ := P_ aa_) x7_ x5_ (by omega) hO_ (by omega) xl_ yP_.1 (by rw [f26_]; exact rwv_cp hl1_ xl_) (fun j_ q1_ => by rw [f26_, sm_cp_o q1_]), ⟨by show S0_.1 1 0 6 - 1 = (l_.length : Int); omega, svl_pop x8_.2 (fun j_ => congrFun (sm_acI_ne (by omega)) j_) (fun j_ => congrFun (sm_acI_ne (by omega)) j_)⟩, cxe_fr (w_ := ([(1, 6)], [26], [])) x9_ (ai_fr_tr (ai_fr_pI rfl) (fr_ac rfl)) rfl rfl rfl rfl⟩, fun j_ q1_ q2_ => by rw [f26_, sm_cp_o (by omega)]⟩) | (have f26_ : ∀ j_, ((sm_acI (sm_pI S0_ 1 0 6 ((S0_.1 1 0 6) - 1)) 27 0 26 0 (8 * (S0_.1 1 0 6) - 8).toNat vx21_.toNat (8 : Int).toNat)).2.2.1 26 0 j_ = S0_.2.2.1 26 0 j_ := (fun j_ => congrFun (sm_acI_ne (by omega)) j_); exact ⟨⟨cgl_fr (w_ := ([(1, 6)], [46], [])) x1_ (ai_fr_tr (ai_fr_pI rfl) (fr_ac rfl)) rfl rfl rfl rfl rfl rfl rfl rfl, x2_, x3_, x4_, x5_, x6_, cfr_cg x7_ f26_, ⟨by show S0_.1 1 0 6 - 1 = (l_.length : Int); omega, svl_pop x8_.2 (fun j_ => congrFun (sm_acI_ne (by omega)) j_) (fun j_ => congrFun (sm_acI_ne (by omega)) j_)⟩, ⟨x9_.1, x9_.2.1, nxb_cp x9_.2.2 rfl sm_acI_at (x_ := x_) (by rw [show (8 * S0_.1 1 0 6 - 8).toNat = 8 * l_.length by omega]; exact x8_.2.2.2.1 hok_) (by omega) (fun z9_ hz9_ => by have q9_ := hxl_ z9_ hz9_; unfold lz at q9_; rw [cgl_n x1_ hok_]; exact q9_)⟩⟩, fun j_ q1_ q2_ => f26_ j_⟩)
        · have cx8_ : ¬ (k_ ≠ 12) := of_decide_eq_false cx8_
          have hk_ : k_ = 12 := by omega
          obtain ⟨hO_, xl_, er⟩ : s_.2.2.1 aa_ = none ∧ x_.length ≤ 8 ∧ r_ = (s_.1, up1 s_.2.1 aa_ x_, s_.2.2.1, l_) := by rcases hcs_ with q_ | q_ | q_; (exact q_.2); (exact absurd q_.1 (by omega)); (exact absurd q_.1 (by omega))
          refine sm_T_go 2 (c1 := (247, [some (.inr (.inr (some (1, 0)))), some (.inl k_), some (.inl m_), some (.inl f_), some (.inl a_), some (.inl d_), some (.inl (40 * m_ + a_)), none, none], [.inl a_, .inl f_], sm_pI S0_ 1 0 6 ((S0_.1 1 0 6) - 1))) rfl ?_
          refine sm_T_cal (d1 := 0) (Q1 := vq_35 f_ a_ (sm_pI S0_ 1 0 6 ((S0_.1 1 0 6) - 1))) rfl rfl (by decide) (vc_35 f_ a_ (sm_pI S0_ 1 0 6 ((S0_.1 1 0 6) - 1)) hIx4_ (by omega) (by omega)) (fun u_ Sx25_ px28_ => ?_)
          obtain ⟨rfl, vx30_, rfl, px28_⟩ := px28_
          have e247_ := px28_
          have ec : vx30_.toNat = 8 * (40 * ff_ + aa_) := by omega
          refine sm_T_go 7 (c1 := (281, [some (.inr (.inr (some (1, 0)))), some (.inl k_), some (.inl m_), some (.inl f_), some (.inl a_), some (.inl d_), some (.inl (40 * m_ + a_)), some (.inl vx30_), none], [.inl 8, .inl ((S0_.1 1 0 6) - 1), .inr (.inr (some (27, 0)))], sm_pI S0_ 1 0 6 ((S0_.1 1 0 6) - 1))) rfl ?_
          refine sm_T_bin (w := 8 * (S0_.1 1 0 6) - 8) rfl (bi_mul (by omega) (by omega) (by omega)) ?_
          refine sm_T_go 4 (c1 := (290, [some (.inr (.inr (some (1, 0)))), some (.inl k_), some (.inl m_), some (.inl f_), some (.inl a_), some (.inl d_), some (.inl (40 * m_ + a_)), some (.inl vx30_), none], [.inl 8, .inl vx30_, .inr (.inr (some (26, 0))), .inl (8 * (S0_.1 1 0 6) - 8), .inr (.inr (some (27, 0)))], sm_pI S0_ 1 0 6 ((S0_.1 1 0 6) - 1))) rfl ?_
          refine sm_T_nt (u := none) (S1 := sm_acI (sm_pI S0_ 1 0 6 ((S0_.1 1 0 6) - 1)) 27 0 26 0 (8 * (S0_.1 1 0 6) - 8).toNat vx30_.toNat (8 : Int).toNat) rfl rfl (nt_acI (sc := sc_) (n := 4096) (n1 := 64320) rfl rfl (by omega) (by omega) (by omega) (by omega) (by omega)) ?_
          have hIx31_ : gi (sm_acI (sm_pI S0_ 1 0 6 ((S0_.1 1 0 6) - 1)) 27 0 26 0 (8 * (S0_.1 1 0 6) - 8).toNat vx30_.toNat (8 : Int).toNat) := gi_ac hIx4_ (by decide) (by decide)
          have hFx32_ : ai_fr (sx_W vw_38) S0_ (sm_acI (sm_pI S0_ 1 0 6 ((S0_.1 1 0 6) - 1)) 27 0 26 0 (8 * (S0_.1 1 0 6) - 8).toNat vx30_.toNat (8 : Int).toNat) := ai_fr_tr hFx5_ (fr_ac rfl)
          have hDx33_ : idf dd_ S0_ (sm_acI (sm_pI S0_ 1 0 6 ((S0_.1 1 0 6) - 1)) 27 0 26 0 (8 * (S0_.1 1 0 6) - 8).toNat vx30_.toNat (8 : Int).toNat) := idf_ac hDx6_ (Or.inl (by decide))
          refine sm_T_rv rfl ⟨_, _, rfl, rfl, hIx31_, hFx32_, ?_⟩
          refine ⟨hDx33_, ?_⟩
          rw [er]
          first | (have f26_ : ((sm_acI (sm_pI S0_ 1 0 6 ((S0_.1 1 0 6) - 1)) 27 0 26 0 (8 * (S0_.1 1 0 6) - 8).toNat vx30_.toNat (8 : Int).toNat)).2.2.1 26 0 = sm_cp (S0_.2.2.1 27 0) (S0_.2.2.1 26 0) (8 * l_.length) (8 * (40 * ff_ + aa_)) 8 := (by rw [← ec, show 8 * l_.length = (8 * S0_.1 1 0 6 - 8).toNat by omega]; exact sm_acI_at); have hl1_ : rwv (S0_.2.2.1 27 0) (8 * l_.length) x_ := x8_.2.2.2.1 hok_; refine ⟨⟨cgl_fr (w_ := ([(1, 6)], [26], [])) x1_ (ai_fr_tr (ai_fr_pI rfl) (fr_ac rfl)) rfl rfl rfl rfl rfl rfl rfl rfl, x2_, x3_, x4_, x5_, x6_, cfr_st x7_ x5_ (by omega) hO_ xl_ (by rw [f26_]; exact rwv_cp hl1_ xl_) (fun j_ q1_ => by rw [f26_, sm_cp_o q1_]), ⟨by show S0_.1 1 0 6 - 1 = (l_.length : Int); omega, svl_pop x8_.2 (fun j_ => congrFun (sm_acI_ne (by omega)) j_) (fun j_ => congrFun (sm_acI_ne (by omega)) j_)⟩, cxe_fr (w_ := ([(1, 6)], [26], [])) x9_ (ai_fr_tr (ai_fr_pI rfl) (fr_ac rfl)) rfl rfl rfl rfl⟩, fun j_ q1_ q2_ => by rw [f26_, sm_cp_o (by omega)]⟩) | (have f26_ : ((sm_acI (sm_pI S0_ 1 0 6 ((S0_.1 1 0 6) - 1)) 27 0 26 0 (8 * (S0_.1 1 0 6) - 8).toNat vx30_.toNat (8 : Int).toNat)).2.2.1 26 0 = sm_cp (S0_.2.2.1 27 0) (S0_.2.2.1 26 0) (8 * l_.length) (8 * (40 * P_ aa_ + d_.toNat)) 8 := (by rw [← ec, show 8 * l_.length = (8 * S0_.1 1 0 6 - 8).toNat by omega]; exact sm_acI_at); have hl1_ : rwv (S0_.2.2.1 27 0) (8 * l_.length) x_ := x8_.2.2.2.1 hok_; refine ⟨⟨cgl_fr (w_ := ([(1, 6)], [26], [])) x1_ (ai_fr_tr (ai_fr_pI rfl) (fr_ac rfl)) rfl rfl rfl rfl rfl rfl rfl rfl, x2_, x3_, x4_, x5_, x6_, cfr_ag (p_ := P_ aa_) x7_ x5_ (by omega) hO_ (by omega) xl_ yP_.1 (by rw [f26_]; exact rwv_cp hl1_ xl_) (fun j_ q1_ => by rw [f26_, sm_cp_o q1_]), ⟨by show S0_.1 1 0 6 - 1 = (l_.length : Int); omega, svl_pop x8_.2 (fun j_ => congrFun (sm_acI_ne (by omega)) j_) (fun j_ => congrFun (sm_acI_ne (by omega)) j_)⟩, cxe_fr (w_ := ([(1, 6)], [26], [])) x9_ (ai_fr_tr (ai_fr_pI rfl) (fr_ac rfl)) rfl rfl rfl rfl⟩, fun j_ q1_ q2_ => by rw [f26_, sm_cp_o (by omega)]⟩) | (have f26_ : ∀ j_, ((sm_acI (sm_pI S0_ 1 0 6 ((S0_.1 1 0 6) - 1)) 27 0 26 0 (8 * (S0_.1 1 0 6) - 8).toNat vx30_.toNat (8 : Int).toNat)).2.2.1 26 0 j_ = S0_.2.2.1 26 0 j_ := (fun j_ => congrFun (sm_acI_ne (by omega)) j_); exact ⟨⟨cgl_fr (w_ := ([(1, 6)], [46], [])) x1_ (ai_fr_tr (ai_fr_pI rfl) (fr_ac rfl)) rfl rfl rfl rfl rfl rfl rfl rfl, x2_, x3_, x4_, x5_, x6_, cfr_cg x7_ f26_, ⟨by show S0_.1 1 0 6 - 1 = (l_.length : Int); omega, svl_pop x8_.2 (fun j_ => congrFun (sm_acI_ne (by omega)) j_) (fun j_ => congrFun (sm_acI_ne (by omega)) j_)⟩, ⟨x9_.1, x9_.2.1, nxb_cp x9_.2.2 rfl sm_acI_at (x_ := x_) (by rw [show (8 * S0_.1 1 0 6 - 8).toNat = 8 * l_.length by omega]; exact x8_.2.2.2.1 hok_) (by omega) (fun z9_ hz9_ => by have q9_ := hxl_ z9_ hz9_; unfold lz at q9_; rw [cgl_n x1_ hok_]; exact q9_)⟩⟩, fun j_ q1_ q2_ => f26_ j_⟩)
      · have cx7_ : ¬ (k_ ≠ 14) := of_decide_eq_false cx7_
        have hk_ : k_ = 14 := by omega
        obtain ⟨z_, y_, hz_, z1_, z2_, er⟩ : ∃ z_ y_, s_.2.1 aa_ = z_ :: y_ ∧ 2 * (1 + (I_ : Int)) ≤ z_ ∧ z_ / 2 - 1 - I_ + x_.length ≤ 6 ∧ r_ = (s_.1, s_.2.1, s_.2.2.1, l_) := by rcases hcs_ with q_ | q_ | q_; (exact absurd q_.1 (by omega)); (exact q_.2); (exact absurd q_.1 (by omega))
        have pz_ : S0_.2.2.1 26 0 (8 * (40 * f_ + a_)).toNat = z_ := by rw [show (8 * (40 * f_ + a_)).toNat = 8 * (40 * ff_ + aa_) + 0 by omega]; exact (x7_.1 aa_ (by omega)).1 0 z_ (by rw [hz_]; rfl)
        have wt : S0_.2.2.1 28 0 (S0_.1 1 0 6 - 1).toNat = (x_.length : Int) := by rw [show (S0_.1 1 0 6 - 1).toNat = l_.length by omega]; exact x8_.2.1
        refine sm_T_go 4 (c1 := (185, [some (.inr (.inr (some (1, 0)))), some (.inl k_), some (.inl m_), some (.inl f_), some (.inl a_), some (.inl d_), some (.inl (40 * m_ + a_)), none, none], [.inl a_, .inl f_, .inr (.inr (some (26, 0)))], sm_pI S0_ 1 0 6 ((S0_.1 1 0 6) - 1))) rfl ?_
        refine sm_T_cal (d1 := 0) (Q1 := vq_35 f_ a_ (sm_pI S0_ 1 0 6 ((S0_.1 1 0 6) - 1))) rfl rfl (by decide) (vc_35 f_ a_ (sm_pI S0_ 1 0 6 ((S0_.1 1 0 6) - 1)) hIx4_ (by omega) (by omega)) (fun u_ Sx34_ px37_ => ?_)
        obtain ⟨rfl, vx39_, rfl, px37_⟩ := px37_
        have e185_ := px37_
        have pz2_ : S0_.2.2.1 26 0 vx39_.toNat = z_ := by rw [e185_]; exact pz_
        refine sm_T_iald (n := 64320) rfl rfl (by omega) (by omega) ?_
        have bx40_ : 0 ≤ S0_.2.2.1 26 0 vx39_.toNat ∧ S0_.2.2.1 26 0 vx39_.toNat ≤ 2025 := hI_.2 26 0 _
        refine sm_T_go 1 (c1 := (190, [some (.inr (.inr (some (1, 0)))), some (.inl k_), some (.inl m_), some (.inl f_), some (.inl a_), some (.inl d_), some (.inl (40 * m_ + a_)), none, none], [.inl 1, .inl (S0_.2.2.1 26 0 vx39_.toNat)], sm_pI S0_ 1 0 6 ((S0_.1 1 0 6) - 1))) rfl ?_
        refine sm_T_bin (w := ((S0_.2.2.1 26 0 vx39_.toNat) / 2)) rfl (bi_shr (k := 1) (by decide) (by omega) (by omega)) ?_
        refine sm_T_go 1 (c1 := (192, [some (.inr (.inr (some (1, 0)))), some (.inl k_), some (.inl m_), some (.inl f_), some (.inl a_), some (.inl d_), some (.inl (40 * m_ + a_)), none, none], [.inl 1, .inl ((S0_.2.2.1 26 0 vx39_.toNat) / 2)], sm_pI S0_ 1 0 6 ((S0_.1 1 0 6) - 1))) rfl ?_
        refine sm_T_bin (w := ((S0_.2.2.1 26 0 vx39_.toNat) / 2) - 1) rfl (bi_sub (by omega) (by omega) (by omega)) ?_
        refine sm_T_go 1 (c1 := (194, [some (.inr (.inr (some (1, 0)))), some (.inl k_), some (.inl m_), some (.inl f_), some (.inl a_), some (.inl d_), some (.inl (40 * m_ + a_)), none, none], [.inr (.inr (some (1, 0))), .inl (((S0_.2.2.1 26 0 vx39_.toNat) / 2) - 1)], sm_pI S0_ 1 0 6 ((S0_.1 1 0 6) - 1))) rfl ?_
        refine sm_T_gr rfl rfl ((hFx5_.2.1 1 0 1 rfl).trans hd_) ?_
        have bx41_ : 0 ≤ S0_.1 3 dd_ 1 ∧ S0_.1 3 dd_ 1 ≤ 320 := hI_.1 3 dd_ 1 rfl
        refine sm_T_go 1 (c1 := (200, [some (.inr (.inr (some (1, 0)))), some (.inl k_), some (.inl m_), some (.inl f_), some (.inl a_), some (.inl d_), some (.inl (40 * m_ + a_)), none, none], [.inl (S0_.1 3 dd_ 1), .inl (((S0_.2.2.1 26 0 vx39_.toNat) / 2) - 1)], sm_pI S0_ 1 0 6 ((S0_.1 1 0 6) - 1))) rfl ?_
        refine sm_T_bin (w := ((S0_.2.2.1 26 0 vx39_.toNat) / 2) - (S0_.1 3 dd_ 1) - 1) rfl (bi_sub (by omega) (by omega) (by omega)) ?_
        refine sm_T_go 6 (c1 := (213, [some (.inr (.inr (some (1, 0)))), some (.inl k_), some (.inl m_), some (.inl f_), some (.inl a_), some (.inl d_), some (.inl (40 * m_ + a_)), some (.inl (((S0_.2.2.1 26 0 vx39_.toNat) / 2) - (S0_.1 3 dd_ 1) - 1)), none], [.inl 8, .inl ((S0_.1 1 0 6) - 1), .inr (.inr (some (27, 0)))], sm_pI S0_ 1 0 6 ((S0_.1 1 0 6) - 1))) rfl ?_
        refine sm_T_bin (w := 8 * (S0_.1 1 0 6) - 8) rfl (bi_mul (by omega) (by omega) (by omega)) ?_
        refine sm_T_go 1 (c1 := (215, [some (.inr (.inr (some (1, 0)))), some (.inl k_), some (.inl m_), some (.inl f_), some (.inl a_), some (.inl d_), some (.inl (40 * m_ + a_)), some (.inl (((S0_.2.2.1 26 0 vx39_.toNat) / 2) - (S0_.1 3 dd_ 1) - 1)), none], [.inr (.inr (some (1, 0))), .inl (8 * (S0_.1 1 0 6) - 8), .inr (.inr (some (27, 0)))], sm_pI S0_ 1 0 6 ((S0_.1 1 0 6) - 1))) rfl ?_
        refine sm_T_gr rfl rfl ((hFx5_.2.1 1 0 1 rfl).trans hd_) ?_
        refine sm_T_go 6 (c1 := (231, [some (.inr (.inr (some (1, 0)))), some (.inl k_), some (.inl m_), some (.inl f_), some (.inl a_), some (.inl d_), some (.inl (40 * m_ + a_)), some (.inl (((S0_.2.2.1 26 0 vx39_.toNat) / 2) - (S0_.1 3 dd_ 1) - 1)), none], [.inl ((S0_.1 1 0 6) - 1), .inr (.inr (some (28, 0))), .inl (((S0_.2.2.1 26 0 vx39_.toNat) / 2) - (S0_.1 3 dd_ 1) - 1), .inr (.inr (some (46, (0 + dd_)))), .inl (8 * (S0_.1 1 0 6) - 8), .inr (.inr (some (27, 0)))], sm_pI S0_ 1 0 6 ((S0_.1 1 0 6) - 1))) rfl ?_
        refine sm_T_iald (n := 512) rfl rfl (by omega) (by omega) ?_
        have bx42_ : 0 ≤ S0_.2.2.1 28 0 ((S0_.1 1 0 6) - 1).toNat ∧ S0_.2.2.1 28 0 ((S0_.1 1 0 6) - 1).toNat ≤ 8 := hI_.2 28 0 _
        refine sm_T_go 0 (c1 := (232, [some (.inr (.inr (some (1, 0)))), some (.inl k_), some (.inl m_), some (.inl f_), some (.inl a_), some (.inl d_), some (.inl (40 * m_ + a_)), some (.inl (((S0_.2.2.1 26 0 vx39_.toNat) / 2) - (S0_.1 3 dd_ 1) - 1)), none], [.inl (S0_.2.2.1 28 0 ((S0_.1 1 0 6) - 1).toNat), .inl (((S0_.2.2.1 26 0 vx39_.toNat) / 2) - (S0_.1 3 dd_ 1) - 1), .inr (.inr (some (46, (0 + dd_)))), .inl (8 * (S0_.1 1 0 6) - 8), .inr (.inr (some (27, 0)))], sm_pI S0_ 1 0 6 ((S0_.1 1 0 6) - 1))) rfl ?_
        refine sm_T_nt (u := none) (S1 := sm_acI (sm_pI S0_ 1 0 6 ((S0_.1 1 0 6) - 1)) 27 0 46 (0 + dd_) (8 * (S0_.1 1 0 6) - 8).toNat (((S0_.2.2.1 26 0 vx39_.toNat) / 2) - (S0_.1 3 dd_ 1) - 1).toNat (S0_.2.2.1 28 0 ((S0_.1 1 0 6) - 1).toNat).toNat) rfl rfl (nt_acI (sc := sc_) (n := 4096) (n1 := 6) rfl rfl (by omega) (by omega) (by omega) (by omega) (by omega)) ?_
        have hIx43_ : gi (sm_acI (sm_pI S0_ 1 0 6 ((S0_.1 1 0 6) - 1)) 27 0 46 (0 + dd_) (8 * (S0_.1 1 0 6) - 8).toNat (((S0_.2.2.1 26 0 vx39_.toNat) / 2) - (S0_.1 3 dd_ 1) - 1).toNat (S0_.2.2.1 28 0 ((S0_.1 1 0 6) - 1).toNat).toNat) := gi_ac hIx4_ (by decide) (by decide)
        have hFx44_ : ai_fr (sx_W vw_38) S0_ (sm_acI (sm_pI S0_ 1 0 6 ((S0_.1 1 0 6) - 1)) 27 0 46 (0 + dd_) (8 * (S0_.1 1 0 6) - 8).toNat (((S0_.2.2.1 26 0 vx39_.toNat) / 2) - (S0_.1 3 dd_ 1) - 1).toNat (S0_.2.2.1 28 0 ((S0_.1 1 0 6) - 1).toNat).toNat) := ai_fr_tr hFx5_ (fr_ac rfl)
        have hDx45_ : idf dd_ S0_ (sm_acI (sm_pI S0_ 1 0 6 ((S0_.1 1 0 6) - 1)) 27 0 46 (0 + dd_) (8 * (S0_.1 1 0 6) - 8).toNat (((S0_.2.2.1 26 0 vx39_.toNat) / 2) - (S0_.1 3 dd_ 1) - 1).toNat (S0_.2.2.1 28 0 ((S0_.1 1 0 6) - 1).toNat).toNat) := idf_ac hDx6_ (Or.inr rfl)
        refine sm_T_go 1 (c1 := (293, [some (.inr (.inr (some (1, 0)))), some (.inl k_), some (.inl m_), some (.inl f_), some (.inl a_), some (.inl d_), some (.inl (40 * m_ + a_)), some (.inl (((S0_.2.2.1 26 0 vx39_.toNat) / 2) - (S0_.1 3 dd_ 1) - 1)), none], [], sm_acI (sm_pI S0_ 1 0 6 ((S0_.1 1 0 6) - 1)) 27 0 46 (0 + dd_) (8 * (S0_.1 1 0 6) - 8).toNat (((S0_.2.2.1 26 0 vx39_.toNat) / 2) - (S0_.1 3 dd_ 1) - 1).toNat (S0_.2.2.1 28 0 ((S0_.1 1 0 6) - 1).toNat).toNat)) rfl ?_
        refine sm_T_rv rfl ⟨_, _, rfl, rfl, hIx43_, hFx44_, ?_⟩
        refine ⟨hDx45_, ?_⟩
        rw [er]
        first | (have f26_ : ((sm_acI (sm_pI S0_ 1 0 6 ((S0_.1 1 0 6) - 1)) 27 0 46 (0 + dd_) (8 * (S0_.1 1 0 6) - 8).toNat (((S0_.2.2.1 26 0 vx39_.toNat) / 2) - (S0_.1 3 dd_ 1) - 1).toNat (S0_.2.2.1 28 0 ((S0_.1 1 0 6) - 1).toNat).toNat)).2.2.1 26 0 = sm_cp (S0_.2.2.1 27 0) (S0_.2.2.1 26 0) (8 * l_.length) (8 * (40 * ff_ + aa_)) 8 := (by rw [← ec, show 8 * l_.length = (8 * S0_.1 1 0 6 - 8).toNat by omega]; exact sm_acI_at); have hl1_ : rwv (S0_.2.2.1 27 0) (8 * l_.length) x_ := x8_.2.2.2.1 hok_; refine ⟨⟨cgl_fr (w_ := ([(1, 6)], [26], [])) x1_ (ai_fr_tr (ai_fr_pI rfl) (fr_ac rfl)) rfl rfl rfl rfl rfl rfl rfl rfl, x2_, x3_, x4_, x5_, x6_, cfr_st x7_ x5_ (by omega) hO_ xl_ (by rw [f26_]; exact rwv_cp hl1_ xl_) (fun j_ q1_ => by rw [f26_, sm_cp_o q1_]), ⟨by show S0_.1 1 0 6 - 1 = (l_.length : Int); omega, svl_pop x8_.2 (fun j_ => congrFun (sm_acI_ne (by omega)) j_) (fun j_ => congrFun (sm_acI_ne (by omega)) j_)⟩, cxe_fr (w_ := ([(1, 6)], [26], [])) x9_ (ai_fr_tr (ai_fr_pI rfl) (fr_ac rfl)) rfl rfl rfl rfl⟩, fun j_ q1_ q2_ => by rw [f26_, sm_cp_o (by omega)]⟩) | (have f26_ : ((sm_acI (sm_pI S0_ 1 0 6 ((S0_.1 1 0 6) - 1)) 27 0 46 (0 + dd_) (8 * (S0_.1 1 0 6) - 8).toNat (((S0_.2.2.1 26 0 vx39_.toNat) / 2) - (S0_.1 3 dd_ 1) - 1).toNat (S0_.2.2.1 28 0 ((S0_.1 1 0 6) - 1).toNat).toNat)).2.2.1 26 0 = sm_cp (S0_.2.2.1 27 0) (S0_.2.2.1 26 0) (8 * l_.length) (8 * (40 * P_ aa_ + d_.toNat)) 8 := (by rw [← ec, show 8 * l_.length = (8 * S0_.1 1 0 6 - 8).toNat by omega]; exact sm_acI_at); have hl1_ : rwv (S0_.2.2.1 27 0) (8 * l_.length) x_ := x8_.2.2.2.1 hok_; refine ⟨⟨cgl_fr (w_ := ([(1, 6)], [26], [])) x1_ (ai_fr_tr (ai_fr_pI rfl) (fr_ac rfl)) rfl rfl rfl rfl rfl rfl rfl rfl, x2_, x3_, x4_, x5_, x6_, cfr_ag (p_ := P_ aa_) x7_ x5_ (by omega) hO_ (by omega) xl_ yP_.1 (by rw [f26_]; exact rwv_cp hl1_ xl_) (fun j_ q1_ => by rw [f26_, sm_cp_o q1_]), ⟨by show S0_.1 1 0 6 - 1 = (l_.length : Int); omega, svl_pop x8_.2 (fun j_ => congrFun (sm_acI_ne (by omega)) j_) (fun j_ => congrFun (sm_acI_ne (by omega)) j_)⟩, cxe_fr (w_ := ([(1, 6)], [26], [])) x9_ (ai_fr_tr (ai_fr_pI rfl) (fr_ac rfl)) rfl rfl rfl rfl⟩, fun j_ q1_ q2_ => by rw [f26_, sm_cp_o (by omega)]⟩) | (have f26_ : ∀ j_, ((sm_acI (sm_pI S0_ 1 0 6 ((S0_.1 1 0 6) - 1)) 27 0 46 (0 + dd_) (8 * (S0_.1 1 0 6) - 8).toNat (((S0_.2.2.1 26 0 vx39_.toNat) / 2) - (S0_.1 3 dd_ 1) - 1).toNat (S0_.2.2.1 28 0 ((S0_.1 1 0 6) - 1).toNat).toNat)).2.2.1 26 0 j_ = S0_.2.2.1 26 0 j_ := (fun j_ => congrFun (sm_acI_ne (by omega)) j_); exact ⟨⟨cgl_fr (w_ := ([(1, 6)], [46], [])) x1_ (ai_fr_tr (ai_fr_pI rfl) (fr_ac rfl)) rfl rfl rfl rfl rfl rfl rfl rfl, x2_, x3_, x4_, x5_, x6_, cfr_cg x7_ f26_, ⟨by show S0_.1 1 0 6 - 1 = (l_.length : Int); omega, svl_pop x8_.2 (fun j_ => congrFun (sm_acI_ne (by omega)) j_) (fun j_ => congrFun (sm_acI_ne (by omega)) j_)⟩, ⟨x9_.1, x9_.2.1, nxb_cp x9_.2.2 rfl sm_acI_at (x_ := x_) (by rw [show (8 * S0_.1 1 0 6 - 8).toNat = 8 * l_.length by omega]; exact x8_.2.2.2.1 hok_) (by omega) (fun z9_ hz9_ => by have q9_ := hxl_ z9_ hz9_; unfold lz at q9_; rw [cgl_n x1_ hok_]; exact q9_)⟩⟩, fun j_ q1_ q2_ => f26_ j_⟩)
    · have cx2_ : ¬ (k_ ≠ 13) := of_decide_eq_false cx2_
      have hk_ : k_ = 13 := by omega
      obtain ⟨aM_, hO_, w1_, w8_, r6_, er⟩ := e_st13 (show e_st I_ A_ mm_ 13 aa_ d_ s_ = some r_ by rw [← hk_]; exact he_)
      refine sm_T_go 2 (c1 := (50, [some (.inr (.inr (some (1, 0)))), some (.inl k_), some (.inl m_), some (.inl f_), some (.inl a_), some (.inl d_), some (.inl (40 * m_ + a_)), some (.inl 0), none], [], S0_)) rfl ?_
      refine (vl_38 k_ m_ f_ a_ d_ tb_ tn_ A_ mm_ ff_ aa_ dd_ F_ I_ s_ r_ fc0_ S0_ hI0_ hd_ hk0_ hd0_ hm1_ hf1_ ha1_ her_ hA_ hx_ hok_ he_ hlw_ hRF_ _) (40 * m_ + a_) 0 S0_ hI_ hF_ ⟨?_, ?_, ?_, ?_, ?_, ?_, ?_, ?_, ?_, ?_, trivial⟩ (Nat.lt_succ_self _)
      · exact hk_
      · omega
      · (intro k9_ z9_ e9_; simp [r_bt] at e9_)
      · (intro j9_ q_; rfl)
      · omega
      · exact x3_
      · exact ⟨rfl, fun j9_ => rfl, fun j9_ => rfl, x9_.1⟩
      · exact x1_
      · exact x9_.2
      · exact hD_
  · have cx1_ : ¬ (k_ ≠ 15) := of_decide_eq_false cx1_
    have hk_ : k_ = 15 := by omega
    obtain ⟨aM_, c200_, hE_, hO_, er⟩ := e_st15 (show e_st I_ A_ mm_ 15 aa_ d_ s_ = some r_ by rw [← hk_]; exact he_)
    refine sm_T_go 4 (c1 := (22, [some (.inr (.inr (some (1, 0)))), some (.inl k_), some (.inl m_), some (.inl f_), some (.inl a_), some (.inl d_), some (.inl (40 * m_ + a_)), none, none], [.inl a_, .inl f_, .inr (.inr (some (26, 0)))], S0_)) rfl ?_
    refine sm_T_cal (d1 := 0) (Q1 := vq_35 f_ a_ S0_) rfl rfl (by decide) (vc_35 f_ a_ S0_ hI_ (by omega) (by omega)) (fun u_ Sx46_ px49_ => ?_)
    obtain ⟨rfl, vx51_, rfl, px49_⟩ := px49_
    have e22_ := px49_
    have ec : vx51_.toNat = 8 * (40 * ff_ + aa_) := by omega
    have bx52_ : 0 ≤ S0_.1 1 0 3 ∧ S0_.1 1 0 3 ≤ 201 := hI_.1 1 0 3 rfl
    refine sm_T_go 2 (c1 := (29, [some (.inr (.inr (some (1, 0)))), some (.inl k_), some (.inl m_), some (.inl f_), some (.inl a_), some (.inl d_), some (.inl (40 * m_ + a_)), none, none], [.inl (S0_.1 1 0 3), .inl vx51_, .inr (.inr (some (26, 0)))], S0_)) rfl ?_
    refine sm_T_iast (n := 64320) rfl rfl (by omega) (by omega) ?_
    have hIx53_ : gi (sm_aI S0_ 26 0 vx51_.toNat (S0_.1 1 0 3)) := gi_aI hI_ (show 0 ≤ (S0_.1 1 0 3) ∧ (S0_.1 1 0 3) ≤ 2025 from ⟨by omega, by omega⟩)
    have hFx54_ : ai_fr (sx_W vw_38) S0_ (sm_aI S0_ 26 0 vx51_.toNat (S0_.1 1 0 3)) := ai_fr_tr hF_ (ai_fr_aI rfl)
    have hDx55_ : idf dd_ S0_ (sm_aI S0_ 26 0 vx51_.toNat (S0_.1 1 0 3)) := idf_aI hD_ (Or.inl (by decide))
    refine sm_T_go 4 (c1 := (36, [some (.inr (.inr (some (1, 0)))), some (.inl k_), some (.inl m_), some (.inl f_), some (.inl a_), some (.inl d_), some (.inl (40 * m_ + a_)), none, none], [.inl 1, .inl (S0_.1 1 0 3), .inr (.inr (some (1, 0)))], sm_aI S0_ 26 0 vx51_.toNat (S0_.1 1 0 3))) rfl ?_
    refine sm_T_bin (w := (S0_.1 1 0 3) + 1) rfl (bi_add (by omega) (by omega) (by omega)) ?_
    have hIx56_ : gi (sm_pI (sm_aI S0_ 26 0 vx51_.toNat (S0_.1 1 0 3)) 1 0 3 ((S0_.1 1 0 3) + 1)) := gi_pI hIx53_ (show 0 ≤ (S0_.1 1 0 3) + 1 ∧ (S0_.1 1 0 3) + 1 ≤ 201 from ⟨by omega, by omega⟩)
    have hFx57_ : ai_fr (sx_W vw_38) S0_ (sm_pI (sm_aI S0_ 26 0 vx51_.toNat (S0_.1 1 0 3)) 1 0 3 ((S0_.1 1 0 3) + 1)) := ai_fr_tr hFx54_ (ai_fr_pI rfl)
    have hDx58_ : idf dd_ S0_ (sm_pI (sm_aI S0_ 26 0 vx51_.toNat (S0_.1 1 0 3)) 1 0 3 ((S0_.1 1 0 3) + 1)) := idf_pI hDx55_ (Or.inl (by decide))
    refine sm_T_go 1 (c1 := (40, [some (.inr (.inr (some (1, 0)))), some (.inl k_), some (.inl m_), some (.inl f_), some (.inl a_), some (.inl d_), some (.inl (40 * m_ + a_)), none, none], [], sm_pI (sm_aI S0_ 26 0 vx51_.toNat (S0_.1 1 0 3)) 1 0 3 ((S0_.1 1 0 3) + 1))) rfl ?_
    refine sm_T_rv rfl ⟨_, _, rfl, rfl, hIx56_, hFx57_, ?_⟩
    refine ⟨hDx58_, ?_⟩
    rw [er]
    have g26_ : ∀ j_, ((sm_pI (sm_aI S0_ 26 0 vx51_.toNat (S0_.1 1 0 3)) 1 0 3 ((S0_.1 1 0 3) + 1))).2.2.1 26 0 j_ = if j_ = 8 * (40 * ff_ + aa_) then (s_.1.2.2 : Int) else S0_.2.2.1 26 0 j_ := fun j_ => by (try simp only [rd_eq, rd_ne, rf_eq, rf_nk, rf_nt, rd_fa, rd_af, rd_fl, rd_al, rd_lf, rd_la, rd_leq, rd_lne, rd_fr, rd_ar, ne_eq, Nat.reduceEqDiff, not_false_eq_true]); rw [ec, x3_]
    refine ⟨⟨cgl_fr (w_ := ([(1, 3)], [26], [])) x1_ (ai_fr_tr (ai_fr_aI rfl) (ai_fr_pI rfl)) rfl rfl rfl rfl rfl rfl rfl rfl, x2_, ?_, by show s_.1.2.2 + 1 ≤ 201; omega, x5_, by show fc0_ ≤ s_.1.2.2 + 1; omega, cfr_bg x7_ x5_ x6_ (by omega) hE_ hO_ g26_, x8_, cxe_fr (w_ := ([(1, 3)], [26], [])) x9_ (ai_fr_tr (ai_fr_aI rfl) (ai_fr_pI rfl)) rfl rfl rfl rfl⟩, fun j_ h1_ h2_ => ?_⟩
    · rw [rf_eq, x3_]; push_cast; rfl
    · rw [g26_, if_neg (by omega)]
