/-! the reference: next values; written by wip/p55/gen/vg -/

/-! next values, second pass -/
theorem rg_p2 {b_ : Nat → Int} {n_ T_ p_ q_ r_ : Nat} {S_ : sm_S} {x_ : Int} (ht_ : rtab b_ n_ T_ S_) (hg_ : rg b_ n_ T_ (.inr p_) S_) (hk_ : lx_kd b_ n_ p_ ≠ 0) (ha_ : p_ad b_ n_ p_ = .inr q_) (hk2_ : lx_kd b_ n_ q_ ≠ 0) (ha2_ : p_ad b_ n_ q_ = .inr r_) (hx_ : x_ = S_.1 13 0 9 + 2) : rg b_ n_ T_ (.inr r_) (sm_pI S_ 13 0 9 x_) ∧ S_.1 13 0 9 + 2 ≤ (T_ : Int) := by
  obtain ⟨w1_, w2_⟩ := rg_pp (x_ := S_.1 13 0 9 + 1) ht_ hg_ hk_ ha_ rfl
  have ht1_ : rtab b_ n_ T_ (sm_pI S_ 13 0 9 (S_.1 13 0 9 + 1)) := rtab_fr (w_ := ([(13, 9)], [], [])) ht_ (ai_fr_pI rfl) rfl rfl rfl rfl rfl
  obtain ⟨w3_, w4_⟩ := rg_pp (x_ := S_.1 13 0 9 + 2) ht1_ w1_ hk2_ ha2_ (by rw [rf_eq]; omega)
  rw [rf_eq] at w4_
  refine ⟨⟨hg_.1, ?_⟩, by omega⟩
  obtain ⟨i_, h1_, h2_⟩ := w3_.2
  refine ⟨i_, ?_, h2_⟩
  rw [rf_eq] at h1_ ⊢
  omega
theorem rg_p3 {b_ : Nat → Int} {n_ T_ p_ q_ r_ u_ : Nat} {S_ : sm_S} {x_ : Int} (ht_ : rtab b_ n_ T_ S_) (hg_ : rg b_ n_ T_ (.inr p_) S_) (hk_ : lx_kd b_ n_ p_ ≠ 0) (ha_ : p_ad b_ n_ p_ = .inr q_) (hk2_ : lx_kd b_ n_ q_ ≠ 0) (ha2_ : p_ad b_ n_ q_ = .inr r_) (hk3_ : lx_kd b_ n_ r_ ≠ 0) (ha3_ : p_ad b_ n_ r_ = .inr u_) (hx_ : x_ = S_.1 13 0 9 + 3) : rg b_ n_ T_ (.inr u_) (sm_pI S_ 13 0 9 x_) ∧ S_.1 13 0 9 + 3 ≤ (T_ : Int) := by
  obtain ⟨w1_, w2_⟩ := rg_p2 (x_ := S_.1 13 0 9 + 2) ht_ hg_ hk_ ha_ hk2_ ha2_ rfl
  have ht1_ : rtab b_ n_ T_ (sm_pI S_ 13 0 9 (S_.1 13 0 9 + 2)) := rtab_fr (w_ := ([(13, 9)], [], [])) ht_ (ai_fr_pI rfl) rfl rfl rfl rfl rfl
  obtain ⟨w3_, w4_⟩ := rg_pp (x_ := S_.1 13 0 9 + 3) ht1_ w1_ hk3_ ha3_ (by rw [rf_eq]; omega)
  rw [rf_eq] at w4_
  refine ⟨⟨hg_.1, ?_⟩, by omega⟩
  obtain ⟨i_, h1_, h2_⟩ := w3_.2
  refine ⟨i_, ?_, h2_⟩
  rw [rf_eq] at h1_ ⊢
  omega
theorem rwv_lz {st_ : Nat → Int} {p_ k_ N_ : Nat} {v_ : List Int} (h_ : rwv st_ p_ v_) (hl_ : lwl N_ v_) (hk_ : k_ < v_.length) : 0 ≤ st_ (p_ + k_) ∧ st_ (p_ + k_) < 2 * (N_ : Int) := by
  rw [h_ k_ v_[k_] (List.getElem?_eq_getElem hk_)]
  exact hl_ _ (List.getElem_mem hk_)
theorem re1_pI {b_ : Nat → Int} {n_ T_ m_ k_ : Nat} {A_ : pA} {S_ : sm_S} {x_ : Int} (h_ : re1 b_ n_ T_ A_ m_ S_) : re1 b_ n_ T_ A_ m_ (sm_pI S_ 13 0 k_ x_) := h_
/-! M_.makeNext -/
def vw_347 : sx_Wl := ([(13, 9), (13, 10), (13, 11), (13, 32), (13, 33), (13, 34), (13, 37)], [136, 137, 138, 139, 140, 141, 142, 143, 151], [])
def vq_347 (b_ : Nat → Int) (n_ : Nat) (T_ : Nat) (F_ : Nat) (I_ : Nat) (A_ : pA) (B_ : pA) (X_ : Nat → gQ → gE → Option (gQ × gE)) (M_ : Nat) (fr_ : Nat) (q0_ : gQ) (E_ : gE) (O_ : gO) (p_ : Nat) (s_ : Nat) (p1_ : Nat) (p2_ : Nat) (xr : pR) (y_ : Nat) (rb : Nat) (S0_ : sm_S) (u_ : Option sm_V) (S1_ : sm_S) : Prop := u_ = none ∧ gi S1_ ∧ ai_fr (sx_W vw_347) S0_ S1_ ∧ ((rg b_ n_ T_ (.inr y_) S1_ ∧ ∃ G_ v9_, ev F_ I_ B_ X_ M_ (q0_, E_, O_, []) xr.2.2 = some ((G_, q0_.2), E_, O_, [v9_]) ∧ h_tp xr.2.1 = (v9_.length : Int) ∧ (1 ≤ v9_.length ∧ v9_.length ≤ 8) ∧ rgl F_ G_ S1_) ∧ imq (S1_.1 13 0 37 - S1_.1 13 0 38 ≤ 1000) (rnS S1_))
set_option maxHeartbeats 1500000 in
theorem vl_347 {sc_ : Nat × (Nat → Int)} (b_ : Nat → Int) (n_ : Nat) (T_ : Nat) (F_ : Nat) (I_ : Nat) (A_ : pA) (B_ : pA) (X_ : Nat → gQ → gE → Option (gQ × gE)) (M_ : Nat) (fr_ : Nat) (q0_ : gQ) (E_ : gE) (O_ : gO) (p_ : Nat) (s_ : Nat) (p1_ : Nat) (p2_ : Nat) (xr : pR) (y_ : Nat) (rb : Nat) (S0_ : sm_S) (ht_ : rtab b_ n_ T_ S0_) (hx_ : rg b_ n_ T_ (.inr p_) S0_) (hm1_ : (S0_.1 13 0 27) = 1) (hen_ : r_e1 b_ n_ T_ B_ M_ fr_ S0_) (hA_ : a_ok b_ n_ A_ M_) (hxx_ : a_ex A_ B_ M_) (hX_ : ∀ d_ q_ e_ z_, X_ d_ q_ e_ = some z_ → q_.1.length ≤ z_.1.1.length) (hte_ : ten B_ M_ (A_.1 M_) E_ O_) (hev_ : rev fr_ (A_.1 M_) E_ O_ (q0_.1.length ≤ 1001) S0_) (hg_ : rgl F_ q0_.1 S0_) (hk_ : lx_kd b_ n_ p_ = 1) (hfn_ : p_fn b_ n_ A_ M_ p_ = (s_ : Int)) (ha1_ : p_ad b_ n_ p_ = .inr p1_) (hk256_ : lx_kd b_ n_ p1_ = 256) (ha2_ : p_ad b_ n_ p1_ = .inr p2_) (hxr_ : p_ex b_ n_ false (p_pd b_ n_ A_ M_) [] p2_ = .inr xr) (h59_ : p_nd b_ n_ 59 xr.1 = .inr y_) (hrb_ : S0_.2.2.1 150 0 (40 * fr_ + s_) = (rb : Int)) (hrn_ : rnS S0_) (hlw_ : lwS F_ (q0_, E_, O_, [])) (hXw_ : lwX F_ I_ X_) (hRF_ : 1 + I_ + q0_.2.1 ≤ F_) (hwd_ : h_tp xr.2.1 = B_.2.2.2.1 (40 * M_ + s_)) : ∀ nn_ : Nat, (∀ (nv_ : Int) (kx_ : Int) (k_ : Int) (S_ : sm_S), gi S_ → ai_fr (sx_W vw_347) S0_ S_ → ((0 ≤ k_ ∧ nv_ = (s_ : Int) ∧ kx_ = 40 * (M_ : Int) + s_ ∧ s_ < 40) ∧ (rg b_ n_ T_ (.inr xr.1) S_) ∧ (∃ G_ v9_, ev F_ I_ B_ X_ M_ (q0_, E_, O_, []) xr.2.2 = some ((G_, q0_.2), E_, O_, [v9_]) ∧ h_tp xr.2.1 = (v9_.length : Int) ∧ (1 ≤ v9_.length ∧ v9_.length ≤ 8) ∧ rgl F_ G_ S_) ∧ (imq (S_.1 13 0 37 - S_.1 13 0 38 ≤ 1000) (rnS S_ ∧ ∀ j9_ : Nat, (j9_ : Int) < B_.2.2.2.1 (40 * M_ + s_) → 0 ≤ S_.2.2.1 139 0 j9_ ∧ S_.2.2.1 139 0 j9_ < 2 * S_.1 13 0 37)) ∧ True) → ((9 - k_).toNat) < nn_ → sm_T (mt_P sc_) 9 347 (39, [some (.inr (.inr (some (13, 0)))), some (.inl nv_), some (.inl kx_), some (.inl k_)], [], S_) (fun ro9_ => ∃ u_ S1_, ro9_ = (.inl u_, S1_, 0) ∧ vq_347 b_ n_ T_ F_ I_ A_ B_ X_ M_ fr_ q0_ E_ O_ p_ s_ p1_ p2_ xr y_ rb S0_ u_ S1_)) := by
  intro nn_
  induction nn_ with
  | zero => exact fun _ _ _ _ _ _ _ h_ => absurd h_ (Nat.not_lt_zero _)
  | succ nn_ ih_ =>
    rintro nv_ kx_ k_ S_ hI_ hF_ ⟨h0_, h1_, h2_, h3_, -⟩ hm_
    obtain ⟨G_, v9_, z1_, z2_, z3_, z4_⟩ := h2_
    have wE_ : S_.2.2.1 129 0 kx_.toNat = B_.2.2.2.1 (40 * M_ + s_) := by have f1_ := fn_ex (p_ := p_) hxx_ (Nat.le_refl M_) hfn_; have sB_ : s_ < B_.1 M_ := Nat.lt_of_lt_of_le f1_.2 hxx_.1; rw [fr_arr (t := 129) (i := 0) hF_ rfl, show kx_.toNat = 40 * M_ + s_ by omega, ((hen_.2.2.2 M_ (Nat.le_refl _)).2 s_ sB_).2.2.1]
    have ht1_ := rtab_fr ht_ hF_ rfl rfl rfl rfl rfl
    have M15_ := hA_.1
    have wB_ : S_.2.2.1 129 0 kx_.toNat ≤ 8 := by have f1_ := fn_ex (p_ := p_) hxx_ (Nat.le_refl M_) hfn_; have sB_ : s_ < B_.1 M_ := Nat.lt_of_lt_of_le f1_.2 hxx_.1; rw [fr_arr (t := 129) (i := 0) hF_ rfl, show kx_.toNat = 40 * M_ + s_ by omega, ((hen_.2.2.2 M_ (Nat.le_refl _)).2 s_ sB_).2.2.1]; exact ((hen_.1.2 M_ (Nat.le_refl _)).2 s_ sB_).2.2.1.2
    have f9_ : S_.1 13 0 29 = (fr_ : Int) := (hF_.1 13 0 29 rfl).trans hen_.2.2.1.1
    have fb_ := hen_.2.2.1.2
    refine sm_T_go 4 (c1 := (45, [some (.inr (.inr (some (13, 0)))), some (.inl nv_), some (.inl kx_), some (.inl k_)], [.inl kx_, .inr (.inr (some (129, 0))), .inl k_], S_)) rfl ?_
    refine sm_T_iald (n := 640) rfl rfl (by omega) (by omega) ?_
    have bx1_ : 0 ≤ S_.2.2.1 129 0 kx_.toNat ∧ S_.2.2.1 129 0 kx_.toNat ≤ 8 := hI_.2 129 0 _
    refine sm_T_br (a := 3) (z := 36) rfl (fun cx2_ => ?_) (fun cx2_ => ?_)
    · have cx2_ : (S_.2.2.1 129 0 kx_.toNat) ≤ k_ := of_decide_eq_true cx2_
      refine sm_T_go 2 (c1 := (85, [some (.inr (.inr (some (13, 0)))), some (.inl nv_), some (.inl kx_), some (.inl k_)], [.inl 59, .inr (.inr (some (13, 0)))], S_)) rfl ?_
      refine sm_T_cal (d1 := 3) (Q1 := vq_300 59 b_ n_ T_ (.inr xr.1) S_) rfl rfl (by decide) (vc_300 59 b_ n_ T_ (.inr xr.1) S_ hI_ (by exact ht1_) (by exact h1_) (by decide)) (fun u_ Sx3_ px6_ => ?_)
      obtain ⟨rfl, hIx4_, hFx5_, px6_⟩ := px6_
      have hFx7_ : ai_fr (sx_W vw_347) S0_ Sx3_ := ai_fr_tr hF_ (fr_le hFx5_ rfl)
      have g85_ := px6_
      rw [pb_r rfl, h59_] at g85_
      have r85_ := rgl_fr z4_ hFx5_ rfl rfl rfl rfl rfl rfl
      have n85_ : imq (Sx3_.1 13 0 37 - Sx3_.1 13 0 38 ≤ 1000) (rnS Sx3_) := fun q9_ => rnS_fr (h3_ (by rw [hFx5_.1 13 0 37 rfl, hFx5_.1 13 0 38 rfl] at q9_; exact q9_)).1 hFx5_ rfl rfl rfl rfl
      refine sm_T_rv rfl ⟨_, _, rfl, rfl, hIx4_, hFx7_, ?_⟩
      exact ⟨⟨g85_, G_, v9_, z1_, z2_, z3_, r85_⟩, n85_⟩
    · have cx2_ : ¬ ((S_.2.2.1 129 0 kx_.toNat) ≤ k_) := of_decide_eq_false cx2_
      have bx8_ : 0 ≤ S_.1 13 0 29 ∧ S_.1 13 0 29 ≤ 16 := hI_.1 13 0 29 rfl
      refine sm_T_go 7 (c1 := (63, [some (.inr (.inr (some (13, 0)))), some (.inl nv_), some (.inl kx_), some (.inl k_)], [.inl (S_.1 13 0 29), .inl 40, .inr (.inr (some (150, 0))), .inr (.inr (some (151, 0)))], S_)) rfl ?_
      refine sm_T_bin (w := 40 * (S_.1 13 0 29)) rfl (bi_mul (by omega) (by omega) (by omega)) ?_
      refine sm_T_go 1 (c1 := (65, [some (.inr (.inr (some (13, 0)))), some (.inl nv_), some (.inl kx_), some (.inl k_)], [.inl nv_, .inl (40 * (S_.1 13 0 29)), .inr (.inr (some (150, 0))), .inr (.inr (some (151, 0)))], S_)) rfl ?_
      refine sm_T_bin (w := 40 * (S_.1 13 0 29) + nv_) rfl (bi_add (by omega) (by omega) (by omega)) ?_
      refine sm_T_iald (n := 640) rfl rfl (by omega) (by omega) ?_
      have bx9_ : 0 ≤ S_.2.2.1 150 0 (40 * (S_.1 13 0 29) + nv_).toNat ∧ S_.2.2.1 150 0 (40 * (S_.1 13 0 29) + nv_).toNat ≤ 6 := hI_.2 150 0 _
      refine sm_T_go 1 (c1 := (68, [some (.inr (.inr (some (13, 0)))), some (.inl nv_), some (.inl kx_), some (.inl k_)], [.inl k_, .inl (S_.2.2.1 150 0 (40 * (S_.1 13 0 29) + nv_).toNat), .inr (.inr (some (151, 0)))], S_)) rfl ?_
      refine sm_T_bin (w := (S_.2.2.1 150 0 (40 * (S_.1 13 0 29) + nv_).toNat) + k_) rfl (bi_add (by omega) (by omega) (by omega)) ?_
      refine sm_T_go 3 (c1 := (74, [some (.inr (.inr (some (13, 0)))), some (.inl nv_), some (.inl kx_), some (.inl k_)], [.inl k_, .inr (.inr (some (139, 0))), .inl ((S_.2.2.1 150 0 (40 * (S_.1 13 0 29) + nv_).toNat) + k_), .inr (.inr (some (151, 0)))], S_)) rfl ?_
      refine sm_T_iald (n := 8192) rfl rfl (by omega) (by omega) ?_
      have bx10_ : 0 ≤ S_.2.2.1 139 0 k_.toNat ∧ S_.2.2.1 139 0 k_.toNat ≤ 2047 := hI_.2 139 0 _
      refine sm_T_iast (n := 1024) rfl rfl (by omega) (by omega) ?_
      have hIx11_ : gi (sm_aI S_ 151 0 ((S_.2.2.1 150 0 (40 * (S_.1 13 0 29) + nv_).toNat) + k_).toNat (S_.2.2.1 139 0 k_.toNat)) := gi_aI hI_ (show 0 ≤ (S_.2.2.1 139 0 k_.toNat) ∧ (S_.2.2.1 139 0 k_.toNat) ≤ 2047 from ⟨by omega, by omega⟩)
      have hFx12_ : ai_fr (sx_W vw_347) S0_ (sm_aI S_ 151 0 ((S_.2.2.1 150 0 (40 * (S_.1 13 0 29) + nv_).toNat) + k_).toNat (S_.2.2.1 139 0 k_.toNat)) := ai_fr_tr hF_ (ai_fr_aI rfl)
      refine sm_T_inc (a := 3) (z := 1) (v := k_) (w := k_ + 1) rfl rfl (by omega) (by omega) (by omega) ?_
      refine sm_T_go 1 (c1 := (39, [some (.inr (.inr (some (13, 0)))), some (.inl nv_), some (.inl kx_), some (.inl (k_ + 1))], [], sm_aI S_ 151 0 ((S_.2.2.1 150 0 (40 * (S_.1 13 0 29) + nv_).toNat) + k_).toNat (S_.2.2.1 139 0 k_.toNat))) rfl ?_
      refine ih_ nv_ kx_ (k_ + 1) (sm_aI S_ 151 0 ((S_.2.2.1 150 0 (40 * (S_.1 13 0 29) + nv_).toNat) + k_).toNat (S_.2.2.1 139 0 k_.toNat)) hIx11_ hFx12_ ⟨?_, ?_, ?_, ?_, trivial⟩ ?_
      · omega
      · exact h1_
      · exact ⟨G_, v9_, z1_, z2_, z3_, rgl_fr (w_ := ([], [151], [])) z4_ (ai_fr_aI rfl) rfl rfl rfl rfl rfl rfl⟩
      · intro q9_
        obtain ⟨y1_, y2_⟩ := h3_ q9_
        refine ⟨⟨y1_.1, fun k9_ hk9_ => ?_⟩, fun j9_ hj9_ => ?_⟩
        · rw [rd_eq]; split; (exact y2_ k_.toNat (by omega)); exact y1_.2 k9_ hk9_
        · rw [rd_ne (by decide)]; exact y2_ j9_ hj9_
      · omega
set_option maxHeartbeats 1500000 in
theorem vc_347 {sc_ : Nat × (Nat → Int)} (b_ : Nat → Int) (n_ : Nat) (T_ : Nat) (F_ : Nat) (I_ : Nat) (A_ : pA) (B_ : pA) (X_ : Nat → gQ → gE → Option (gQ × gE)) (M_ : Nat) (fr_ : Nat) (q0_ : gQ) (E_ : gE) (O_ : gO) (p_ : Nat) (s_ : Nat) (p1_ : Nat) (p2_ : Nat) (xr : pR) (y_ : Nat) (rb : Nat) (S0_ : sm_S) (hI_ : gi S0_) (ht_ : rtab b_ n_ T_ S0_) (hx_ : rg b_ n_ T_ (.inr p_) S0_) (hm1_ : (S0_.1 13 0 27) = 1) (hen_ : r_e1 b_ n_ T_ B_ M_ fr_ S0_) (hA_ : a_ok b_ n_ A_ M_) (hxx_ : a_ex A_ B_ M_) (hX_ : ∀ d_ q_ e_ z_, X_ d_ q_ e_ = some z_ → q_.1.length ≤ z_.1.1.length) (hte_ : ten B_ M_ (A_.1 M_) E_ O_) (hev_ : rev fr_ (A_.1 M_) E_ O_ (q0_.1.length ≤ 1001) S0_) (hg_ : rgl F_ q0_.1 S0_) (hk_ : lx_kd b_ n_ p_ = 1) (hfn_ : p_fn b_ n_ A_ M_ p_ = (s_ : Int)) (ha1_ : p_ad b_ n_ p_ = .inr p1_) (hk256_ : lx_kd b_ n_ p1_ = 256) (ha2_ : p_ad b_ n_ p1_ = .inr p2_) (hxr_ : p_ex b_ n_ false (p_pd b_ n_ A_ M_) [] p2_ = .inr xr) (h59_ : p_nd b_ n_ 59 xr.1 = .inr y_) (hrb_ : S0_.2.2.1 150 0 (40 * fr_ + s_) = (rb : Int)) (hrn_ : rnS S0_) (hlw_ : lwS F_ (q0_, E_, O_, [])) (hXw_ : lwX F_ I_ X_) (hRF_ : 1 + I_ + q0_.2.1 ≤ F_) (hwd_ : h_tp xr.2.1 = B_.2.2.2.1 (40 * M_ + s_)) : sm_T (mt_P sc_) 9 347 (0, [some (.inr (.inr (some (13, 0)))), none, none, none], [], S0_) (fun ro9_ => ∃ u_ S1_, ro9_ = (.inl u_, S1_, 0) ∧ vq_347 b_ n_ T_ F_ I_ A_ B_ X_ M_ fr_ q0_ E_ O_ p_ s_ p1_ p2_ xr y_ rb S0_ u_ S1_) := by
  have hF_ : ai_fr (sx_W vw_347) S0_ S0_ := ai_fr_rf
  obtain ⟨i_, hi_⟩ := id hx_.2
  have hi9_ := hi_.2.1
  have hT_ := ht_.2.1
  have rt1_ := rp_rtk ht_ hi_.2 hk_
  have f1_ := fn_ex (p_ := p_) hxx_ (Nat.le_refl M_) hfn_
  have M15_ := hA_.1
  have A40_ := (hA_.2 M_ (Nat.le_refl _)).1
  have bx1_ : 0 ≤ S0_.1 13 0 28 ∧ S0_.1 13 0 28 ≤ 15 := hI_.1 13 0 28 rfl
  have bx2_ : 0 ≤ S0_.1 13 0 9 ∧ S0_.1 13 0 9 ≤ 1280 := hI_.1 13 0 9 rfl
  refine sm_T_go 5 (c1 := (9, [some (.inr (.inr (some (13, 0)))), none, none, none], [.inl (S0_.1 13 0 9), .inl (S0_.1 13 0 28), .inr (.inr (some (13, 0)))], S0_)) rfl ?_
  refine sm_T_cal (d1 := 1) (Q1 := vq_302 (S0_.1 13 0 28) (S0_.1 13 0 9) b_ n_ T_ B_ M_ p_ S0_) rfl rfl (by decide) (vc_302 (S0_.1 13 0 28) (S0_.1 13 0 9) b_ n_ T_ B_ M_ p_ S0_ hI_ (by exact ht_) (by exact ⟨hen_.2.1, hen_.1.1⟩) (by exact hen_.2.2.2 M_ (Nat.le_refl _)) (by exact (hen_.1.2 M_ (Nat.le_refl _)).1) (by rw [hi_.1]; exact rt1_.1)) (fun u_ Sx3_ px6_ => ?_)
  obtain ⟨rfl, vx8_, rfl, px6_⟩ := px6_
  have e9_ := px6_.trans f1_.1
  have kx0_ : (40 * S0_.1 13 0 28 + vx8_).toNat = 40 * M_ + s_ := by have q9_ := hen_.2.1; omega
  have rp := rg_p2 (x_ := S0_.1 13 0 9 + 2) ht_ hx_ (by omega) ha1_ (by omega) ha2_ rfl
  have rp2_ := rp.2
  have t33_ : rtab b_ n_ T_ (sm_pI S0_ 13 0 9 (S0_.1 13 0 9 + 2)) := rtab_fr (w_ := ([(13, 9)], [], [])) ht_ (ai_fr_pI rfl) rfl rfl rfl rfl rfl
  refine sm_T_go 4 (c1 := (19, [some (.inr (.inr (some (13, 0)))), some (.inl vx8_), none, none], [.inl (S0_.1 13 0 28), .inl 40], S0_)) rfl ?_
  refine sm_T_bin (w := 40 * (S0_.1 13 0 28)) rfl (bi_mul (by omega) (by omega) (by omega)) ?_
  refine sm_T_go 1 (c1 := (21, [some (.inr (.inr (some (13, 0)))), some (.inl vx8_), none, none], [.inl vx8_, .inl (40 * (S0_.1 13 0 28))], S0_)) rfl ?_
  refine sm_T_bin (w := 40 * (S0_.1 13 0 28) + vx8_) rfl (bi_add (by omega) (by omega) (by omega)) ?_
  refine sm_T_go 5 (c1 := (29, [some (.inr (.inr (some (13, 0)))), some (.inl vx8_), some (.inl (40 * (S0_.1 13 0 28) + vx8_)), none], [.inl 2, .inl (S0_.1 13 0 9), .inr (.inr (some (13, 0)))], S0_)) rfl ?_
  refine sm_T_bin (w := (S0_.1 13 0 9) + 2) rfl (bi_add (by omega) (by omega) (by omega)) ?_
  have hIx9_ : gi (sm_pI S0_ 13 0 9 ((S0_.1 13 0 9) + 2)) := gi_pI hI_ (show 0 ≤ (S0_.1 13 0 9) + 2 ∧ (S0_.1 13 0 9) + 2 ≤ 1280 from ⟨by omega, by omega⟩)
  have hFx10_ : ai_fr (sx_W vw_347) S0_ (sm_pI S0_ 13 0 9 ((S0_.1 13 0 9) + 2)) := ai_fr_tr hF_ (ai_fr_pI rfl)
  refine sm_T_go 2 (c1 := (34, [some (.inr (.inr (some (13, 0)))), some (.inl vx8_), some (.inl (40 * (S0_.1 13 0 28) + vx8_)), none], [.inr (.inr (some (13, 0)))], sm_pI S0_ 13 0 9 ((S0_.1 13 0 9) + 2))) rfl ?_
  refine sm_T_cal (d1 := 8) (Q1 := vq_321g b_ n_ T_ F_ I_ B_ X_ M_ (q0_, E_, O_, []) (p_pd b_ n_ A_ M_) (A_.1 M_) fr_ p2_ xr (sm_pI S0_ 13 0 9 ((S0_.1 13 0 9) + 2))) rfl rfl (by decide) (vc_321g b_ n_ T_ F_ I_ B_ X_ M_ (q0_, E_, O_, []) (p_pd b_ n_ A_ M_) (A_.1 M_) fr_ p2_ xr (sm_pI S0_ 13 0 9 ((S0_.1 13 0 9) + 2)) hIx9_ (by exact t33_) (by exact pd_ok hA_) (by (intro p9_ r9_ h9_; exact pd_ex hA_ hxx_ h9_)) (by exact hX_) (by exact hen_) (by exact hte_) (by exact hev_) (by exact rp.1) (by exact hm1_) (by exact ⟨rfl, rgl_fr (w_ := ([(13, 9)], [], [])) hg_ (ai_fr_pI rfl) rfl rfl rfl rfl rfl rfl⟩) (by exact hxr_)) (fun u_ Sx11_ px14_ => ?_)
  obtain ⟨rfl, hIx12_, hFx13_, px14_⟩ := px14_
  have hFx15_ : ai_fr (sx_W vw_347) S0_ Sx11_ := ai_fr_tr hFx10_ (fr_le hFx13_ rfl)
  obtain ⟨g34_, G1_, v1_, x1_, x2_, x3_, x4_, x5_, x6_⟩ := px14_
  have gl34_ : q0_.1.length ≤ G1_.length := ev_le hX_ x1_
  have rb34_ := rgl_b x5_
  have H3_ : imq (Sx11_.1 13 0 37 - Sx11_.1 13 0 38 ≤ 1000) (rnS Sx11_ ∧ ∀ j9_ : Nat, (j9_ : Int) < B_.2.2.2.1 (40 * M_ + s_) → 0 ≤ Sx11_.2.2.1 139 0 j9_ ∧ Sx11_.2.2.1 139 0 j9_ < 2 * Sx11_.1 13 0 37) := by (intro q9_; have l9_ : G1_.length ≤ 1000 := rb34_.2.2.2.2.mp q9_; have n9_ := rgl_n x5_ (by omega); have m9_ := rgl_n hg_ (by omega); have W9_ := ev_w hXw_ x1_ (by show F_ + G1_.length ≤ 1023; omega) hRF_ hlw_; refine ⟨rnS_up hrn_ (hFx13_.1 13 0 52 rfl) (hFx13_.1 13 0 53 rfl) ((fr_arr (t := 151) hFx13_ rfl).trans rfl) (by omega), fun j9_ h9_ => ?_⟩; have e9_ := rwv_lz (x6_ (by omega)) (lwV_c.mp W9_.2.2.2).1 (k_ := j9_) (by omega); rw [Nat.zero_add] at e9_; rw [n9_]; exact e9_)
  refine sm_T_go 2 (c1 := (39, [some (.inr (.inr (some (13, 0)))), some (.inl vx8_), some (.inl (40 * (S0_.1 13 0 28) + vx8_)), some (.inl 0)], [], Sx11_)) rfl ?_
  refine (vl_347 b_ n_ T_ F_ I_ A_ B_ X_ M_ fr_ q0_ E_ O_ p_ s_ p1_ p2_ xr y_ rb S0_ ht_ hx_ hm1_ hen_ hA_ hxx_ hX_ hte_ hev_ hg_ hk_ hfn_ ha1_ hk256_ ha2_ hxr_ h59_ hrb_ hrn_ hlw_ hXw_ hRF_ hwd_ _) vx8_ (40 * (S0_.1 13 0 28) + vx8_) 0 Sx11_ hIx12_ hFx15_ ⟨?_, ?_, ?_, ?_, trivial⟩ (Nat.lt_succ_self _)
  · (have q9_ := hen_.2.1); omega
  · exact g34_
  · exact ⟨G1_, v1_, x1_, x2_, x3_, x5_⟩
  · exact H3_
