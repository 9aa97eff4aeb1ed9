/-! the reference: expressions; written by wip/p55/gen/vg -/

/-! where an_ expression ends -/
theorem dn_B3 {b_ : Nat → Int} {n_ p_ : Nat} {md_ : Bool} {s_ : pO} {r_ : pR} (e_ : p_B3 b_ n_ md_ p_ s_ = .inr (.inr r_)) : s_.1 = [] ∧ r_ = (p_, s_.2.1, s_.2.2) := by
  obtain ⟨so_, sg_, sc_⟩ := s_
  cases so_ with
  | nil => cases e_; exact ⟨rfl, rfl⟩
  | cons a_ l_ =>
    obtain ⟨k1_, q1_⟩ := a_
    rw [pB3_g] at e_
    split at e_
    · split at e_
      · obtain ⟨q_, h3_, h4_⟩ := pb_inr e_; cases h4_
      · cases e_
    · split at e_
      · obtain ⟨q_, h3_, h4_⟩ := pb_inr e_; cases h4_
      · cases e_
theorem dn_B2 {b_ : Nat → Int} {n_ p_ : Nat} {md_ : Bool} {s_ : pO} {r_ : pR} (hs_ : s_ok md_ 1 s_) (hc_ : s_.2.2.length + s_.1.length ≤ 3 * p_) (e_ : p_B2 b_ n_ md_ p_ s_ = .inr (.inr r_)) : r_.1 = p_ ∧ r_.2.1.length = 1 ∧ h_ok r_.2.1 ∧ r_.2.2.length ≤ 3 * p_ := by
  unfold p_B2 at e_
  split at e_
  · obtain ⟨s2_, h1_, h2_⟩ := pb_inr e_
    split at h2_
    · cases h2_
    · split at h2_
      · cases h2_
      · obtain ⟨q_, h3_, h4_⟩ := pb_inr h2_; cases h4_
  · obtain ⟨s2_, h1_, h2_⟩ := pb_inr e_
    have k_ := p_sa_ok s_.1 s_.2.1 s_.2.2 s2_ hs_ h1_
    obtain ⟨h3_, h4_⟩ := dn_B3 h2_
    have k1_ := k_.1.2.2.1
    have k2_ := k_.2.1
    rw [h3_] at k1_ k2_
    subst h4_
    exact ⟨rfl, k1_, k_.1.2.2.2, by show s2_.2.2.length ≤ 3 * p_; simp only [List.length_nil] at k2_; omega⟩
theorem dn_A {b_ : Nat → Int} {n_ p_ : Nat} {md_ t_ : Bool} {pr_ : pPr} {o_ : List (Int × Nat)} {g_ c_ : List Int} {r_ : pR} (e_ : p_sA b_ n_ md_ pr_ t_ p_ o_ g_ c_ = .inr (.inr r_)) : False := by
  unfold p_sA at e_
  split at e_
  · obtain ⟨q_, h3_, h4_⟩ := pb_inr e_; cases h4_
  · split at e_
    · split at e_
      · cases e_
      · obtain ⟨q_, h3_, h4_⟩ := pb_inr e_; cases h4_
    · obtain ⟨q_, h3_, h4_⟩ := pb_inr e_; cases h4_
theorem dn_st {b_ : Nat → Int} {n_ : Nat} {md_ : Bool} {pr_ : pPr} {x_ : pX} {r_ : pR} (hx_ : x_ok b_ n_ md_ x_) (e_ : p_st b_ n_ md_ pr_ x_ = .inr (.inr r_)) : x_.1 ≠ 0 ∧ r_.1 = x_.2.2.1 ∧ r_.2.1.length = 1 ∧ h_ok r_.2.1 ∧ r_.2.2.length ≤ 3 * r_.1 := by
  unfold p_st at e_
  split at e_
  · exact (dn_A e_).elim
  · rename_i g_
    have h0_ : x_.1 = 1 := by have := hx_.1; omega
    have hs_ : s_ok md_ 1 (x_.2.2.2.1, x_.2.2.2.2.1, x_.2.2.2.2.2) := h0_ ▸ hx_.2.1
    have hc_ : x_.2.2.2.2.2.length + x_.2.2.2.1.length ≤ 3 * x_.2.2.1 := Nat.le_trans (Nat.le_add_right _ _) hx_.2.2.2.2
    refine ⟨g_, ?_⟩
    unfold p_sB at e_
    split at e_
    · rename_i hl_
      obtain ⟨s2_, h1_, h2_⟩ := pb_inr e_
      have k_ := p_se_ok (by split <;> omega) x_.2.2.2.1 x_.2.2.2.2.1 x_.2.2.2.2.2 s2_ hs_ h1_
      unfold p_B1 at h2_
      split at h2_
      · obtain ⟨q_, h3_, h4_⟩ := pb_inr h2_; cases h4_
      · have k2_ := dn_B2 k_.1 (Nat.le_trans k_.2.2.1 hc_) h2_
        exact ⟨k2_.1, k2_.2.1, k2_.2.2.1, by rw [k2_.1]; exact k2_.2.2.2⟩
    · have k2_ := dn_B2 hs_ hc_ e_
      exact ⟨k2_.1, k2_.2.1, k2_.2.2.1, by rw [k2_.1]; exact k2_.2.2.2⟩
theorem xr_ok {b_ : Nat → Int} {n_ : Nat} {md_ : Bool} {pr_ : pPr} (hn_ : n_ ≤ 1280) (hpr_ : pr_ok b_ n_ pr_) : ∀ (f_ : Nat) (x_ : pX) (r_ : pR), x_ok b_ n_ md_ x_ → p_xr b_ n_ md_ pr_ f_ x_ = some (.inr r_) → x_.2.2.1 ≤ r_.1 ∧ (x_.1 = 0 → x_.2.2.1 < r_.1) ∧ r_.1 ≤ n_ ∧ lx_kd b_ n_ r_.1 ≠ -1 ∧ r_.2.1.length = 1 ∧ h_ok r_.2.1 ∧ r_.2.2.length ≤ 3 * r_.1
  | 0, x_, r_, _, h_ => by cases h_
  | f_ + 1, x_, r_, hx_, h_ => by
    rw [p_xr] at h_
    cases hs_ : p_st b_ n_ md_ pr_ x_ with
    | inl e_ => rw [hs_] at h_; cases h_
    | inr z_ =>
      cases z_ with
      | inl y_ =>
        rw [hs_] at h_
        have k_ := xr_ok hn_ hpr_ f_ y_ r_ (x_st hn_ hpr_ hx_ hs_) h_
        have lt_ := p_st_lt hpr_ hx_ hs_
        exact ⟨by omega, fun _ => by omega, k_.2.2⟩
      | inr r2_ =>
        rw [hs_] at h_
        cases h_
        have k_ := dn_st hx_ hs_
        exact ⟨by omega, fun z_ => absurd z_ k_.1, by rw [k_.2.1]; exact hx_.2.2.1, by rw [k_.2.1]; exact hx_.2.2.2.1, k_.2.2⟩
theorem pex_ok {b_ : Nat → Int} {n_ p_ : Nat} {md_ : Bool} {pr_ : pPr} {c_ : List Int} {r_ : pR} (hn_ : n_ ≤ 1280) (hpr_ : pr_ok b_ n_ pr_) (hp_ : p_ ≤ n_) (hk_ : lx_kd b_ n_ p_ ≠ -1) (hc_ : c_.length ≤ 3 * p_) (e_ : p_ex b_ n_ md_ pr_ c_ p_ = .inr r_) : p_ < r_.1 ∧ r_.1 ≤ n_ ∧ lx_kd b_ n_ r_.1 ≠ -1 ∧ r_.2.1.length = 1 ∧ h_ok r_.2.1 ∧ r_.2.2.length ≤ 3 * r_.1 := by
  have h1_ := p_ex_x (md_ := md_) hn_ hpr_ hp_ hk_ hc_
  rw [e_] at h1_
  obtain ⟨f_, h2_⟩ := h1_
  have k_ := xr_ok hn_ hpr_ f_ _ r_ (x_ok_0 hp_ hk_ hc_) h2_
  exact ⟨k_.2.1 rfl, k_.2.2⟩
theorem xx_t {b_ : Nat → Int} {n_ p_ : Nat} {md_ t_ : Bool} {pr_ : pPr} {o_ : List (Int × Nat)} {g_ c_ : List Int} {R_ : pE pR} (h_ : p_xx b_ n_ md_ pr_ (1, t_, p_, o_, g_, c_) R_) : p_xx b_ n_ md_ pr_ (1, false, p_, o_, g_, c_) R_ := by
  obtain ⟨f_, h_⟩ := h_
  refine ⟨f_, ?_⟩
  cases f_ with
  | zero => cases h_
  | succ f_ => exact h_
theorem xo_t {b_ : Nat → Int} {n_ p_ : Nat} {md_ t_ : Bool} {o_ : List (Int × Nat)} {g_ c_ : List Int} (h_ : x_ok b_ n_ md_ (1, t_, p_, o_, g_, c_)) : x_ok b_ n_ md_ (1, false, p_, o_, g_, c_) :=
  ⟨h_.1, h_.2.1, h_.2.2.1, h_.2.2.2.1, Nat.le_trans (Nat.add_le_add_left (Nat.zero_le _) _) h_.2.2.2.2⟩
/-- between the_ steps of_ an_ expression -/
def ri (b_ : Nat → Int) (n_ T_ : Nat) (mo_ : Int) (pr_ : pPr) (R_ : pE pR) (k_ : Int) (S_ : sm_S) : Prop := (∃ e_, R_ = .inl e_ ∧ rwr mo_ e_ S_) ∨ (∃ t_ p_ o_ g_ c_, k_ = 0 ∧ rx b_ n_ T_ mo_ t_ 0 p_ o_ g_ S_ ∧ x_ok b_ n_ (mdo mo_) (0, t_, p_, o_, g_, c_) ∧ p_xx b_ n_ (mdo mo_) pr_ (0, t_, p_, o_, g_, c_) R_) ∨ (∃ p_ o_ g_ c_, k_ = 1 ∧ rx b_ n_ T_ mo_ false 1 p_ o_ g_ S_ ∧ x_ok b_ n_ (mdo mo_) (1, false, p_, o_, g_, c_) ∧ p_xx b_ n_ (mdo mo_) pr_ (1, false, p_, o_, g_, c_) R_) ∨ (∃ r_, k_ = 2 ∧ R_ = .inr r_ ∧ rx b_ n_ T_ mo_ false 1 r_.1 [] r_.2.1 S_ ∧ r_.2.1.length = 1)
theorem ri_st {b_ : Nat → Int} {n_ T_ : Nat} {mo_ k_ : Int} {pr_ : pPr} {R_ : pE pR} {S_ : sm_S} {x_ : pX} (hn_ : n_ ≤ 1280) (hpr_ : pr_ok b_ n_ pr_) (hx_ : x_ok b_ n_ (mdo mo_) x_) (hR_ : p_xx b_ n_ (mdo mo_) pr_ x_ R_) (hq_ : rq b_ n_ T_ mo_ (p_st b_ n_ (mdo mo_) pr_ x_) k_ S_) : ri b_ n_ T_ mo_ pr_ R_ k_ S_ := by
  cases hs_ : p_st b_ n_ (mdo mo_) pr_ x_ with
  | inl e_ => rw [hs_] at hq_; exact Or.inl ⟨e_, p_er hR_ hs_, hq_⟩
  | inr z_ =>
    cases z_ with
    | inl y_ =>
      rw [hs_] at hq_
      have k1_ := p_go hn_ hpr_ hx_ hR_ hs_
      obtain ⟨ph_, t_, p_, o_, g_, c_⟩ := y_
      have k2_ : ph_ ≤ 1 := k1_.1.1
      rcases Nat.lt_or_ge ph_ 1 with z_ | z_
      · have z_ : ph_ = 0 := by omega
        subst z_
        exact Or.inr (Or.inl ⟨t_, p_, o_, g_, c_, hq_.2, hq_.1, k1_.1, k1_.2⟩)
      · have z_ : ph_ = 1 := by omega
        subst z_
        obtain ⟨q1_, ⟨w_, q2_, q3_⟩, q4_⟩ := hq_.1
        refine Or.inr (Or.inr (Or.inl ⟨p_, o_, g_, c_, hq_.2, ⟨q1_, ⟨w_, q2_, ?_⟩, q4_⟩, xo_t k1_.1, xx_t k1_.2⟩))
        rcases q3_ with q3_ | q3_
        · exact absurd q3_.1 (show ¬ (1 : Nat) = 0 by decide)
        · exact Or.inr q3_
    | inr r_ =>
      rw [hs_] at hq_
      have k1_ := dn_st hx_ hs_
      exact Or.inr (Or.inr (Or.inr ⟨r_, hq_.2, p_dn hR_ hs_, hq_.1, k1_.2.2.1⟩))
def r_ms (k_ : Int) (S_ : sm_S) : Nat := if S_.1 13 0 10 ≠ 0 ∨ k_ = 2 then 0 else (1301 - S_.2.2.1 120 0 (S_.1 13 0 9).toNat).toNat
theorem rms_x {b_ : Nat → Int} {n_ T_ p_ : Nat} {S_ : sm_S} {k_ : Int} (ht_ : rtab b_ n_ T_ S_) (hg_ : rg b_ n_ T_ (.inr p_) S_) (hk_ : k_ ≠ 2) : r_ms k_ S_ = 1301 - p_ ∧ p_ ≤ 1280 := by
  obtain ⟨i_, h1_, h2_⟩ := hg_.2
  have h3_ := rp_at ht_ h2_
  have hn_ := ht_.1
  unfold r_ms
  rw [if_neg (by rintro (z_ | z_); exact z_ hg_.1; exact hk_ z_), show (S_.1 13 0 9).toNat = i_ by omega, h3_.2.1]
  have h4_ := h3_.2.2.2.1
  omega
theorem rms_0 {S_ : sm_S} {k_ : Int} (h_ : S_.1 13 0 10 ≠ 0 ∨ k_ = 2) : r_ms k_ S_ = 0 := if_pos h_
theorem ri_ms {b_ : Nat → Int} {n_ T_ : Nat} {mo_ k_ : Int} {pr_ : pPr} {S_ : sm_S} {x_ : pX} (ht_ : rtab b_ n_ T_ S_) (hpr_ : pr_ok b_ n_ pr_) (hx_ : x_ok b_ n_ (mdo mo_) x_) (hq_ : rq b_ n_ T_ mo_ (p_st b_ n_ (mdo mo_) pr_ x_) k_ S_) : r_ms k_ S_ < 1301 - x_.2.2.1 := by
  have hn_ := ht_.1
  have hp_ := hx_.2.2.1
  cases hs_ : p_st b_ n_ (mdo mo_) pr_ x_ with
  | inl e_ => rw [hs_] at hq_; rw [rms_0 (Or.inl (by rw [hq_.1]; exact hq_.2.2.1))]; omega
  | inr z_ =>
    cases z_ with
    | inl y_ =>
      rw [hs_] at hq_
      have k1_ := p_st_lt hpr_ hx_ hs_
      have k2_ := x_st hn_ hpr_ hx_ hs_
      have k3_ := rms_x (k_ := k_) ht_ hq_.1.1 (by rw [hq_.2]; have := k2_.1; omega)
      have k4_ := k2_.2.2.1
      omega
    | inr r_ => rw [hs_] at hq_; rw [rms_0 (Or.inr hq_.2)]; omega
theorem ren_fr {w_ : sx_Wl} {b_ : Nat → Int} {n_ T_ M_ K_ : Nat} {mo_ : Int} {A_ : pA} {f_ : Nat → Nat} {S_ S'_ : sm_S} (h_ : r_en b_ n_ T_ mo_ A_ M_ K_ f_ S_) (g_ : ai_fr (sx_W w_) S_ S'_) (h28_ : (sx_W w_).1 13 28 = false) (h80_ : (sx_W w_).1 13 80 = false) (h0_ : (sx_W w_).2.1 126 = false) (h1_ : (sx_W w_).2.1 127 = false) (h2_ : (sx_W w_).2.1 128 = false) (h3_ : (sx_W w_).2.1 129 = false) (h4_ : (sx_W w_).2.1 130 = false) (h5_ : (sx_W w_).2.1 131 = false) (h6_ : (sx_W w_).2.1 177 = false) : r_en b_ n_ T_ mo_ A_ M_ K_ f_ S'_ := by
  refine ⟨fun z_ => ⟨(h_.1 z_).1, (g_.1 13 0 28 h28_).trans (h_.1 z_).2.1, fun m_ hm_ => re1_fr ((h_.1 z_).2.2 m_ hm_) g_ h0_ h1_ h2_ h3_ h4_ h5_⟩, fun z_ => ?_⟩
  have k_ := h_.2 z_
  unfold inr_ at k_ ⊢
  rw [g_.1 13 0 80 h80_, fr_arr g_ h6_]
  exact k_
theorem rq_op {b_ : Nat → Int} {n_ T_ : Nat} {mo_ v_ k_ : Int} {pr_ : pPr} {t_ : Bool} {p_ : Nat} {o_ : List (Int × Nat)} {g_ c_ : List Int} {S_ : sm_S} (h_ : (∀ e_, p_st b_ n_ (mdo mo_) pr_ (0, t_, p_, o_, g_, c_) = .inl e_ → rwr mo_ e_ S_) ∧ ∀ y_, p_st b_ n_ (mdo mo_) pr_ (0, t_, p_, o_, g_, c_) = .inr (.inl y_) → rx b_ n_ T_ mo_ y_.2.1 y_.1 y_.2.2.1 y_.2.2.2.1 y_.2.2.2.2.1 S_ ∧ v_ = (y_.1 : Int)) (hk_ : k_ = if v_ = 0 then 0 else 1) (hn_ : n_ ≤ 1280) (hpr_ : pr_ok b_ n_ pr_) (hx_ : x_ok b_ n_ (mdo mo_) (0, t_, p_, o_, g_, c_)) : rq b_ n_ T_ mo_ (p_st b_ n_ (mdo mo_) pr_ (0, t_, p_, o_, g_, c_)) k_ S_ := by
  cases hs_ : p_st b_ n_ (mdo mo_) pr_ (0, t_, p_, o_, g_, c_) with
  | inl e_ => exact h_.1 e_ hs_
  | inr z_ =>
    cases z_ with
    | inl y_ =>
      have h2_ := h_.2 y_ hs_
      have k2_ := (x_st hn_ hpr_ hx_ hs_).1
      refine ⟨h2_.1, ?_⟩
      rw [hk_]
      split <;> omega
    | inr r_ => exact (dn_A (show p_sA b_ n_ (mdo mo_) pr_ t_ p_ o_ g_ c_ = .inr (.inr r_) from hs_)).elim
/-! M_.expression -/
def vw_321 : sx_Wl := ([(13, 9), (13, 10), (13, 11), (13, 32), (13, 33), (13, 34)], [136, 137, 138, 139], [])
def vq_321 (b_ : Nat → Int) (n_ : Nat) (T_ : Nat) (mo_ : Int) (x_ : pE Nat) (c_ : List Int) (A_ : pA) (M_ : Nat) (K_ : Nat) (f_ : Nat → Nat) (S0_ : sm_S) (u_ : Option sm_V) (S1_ : sm_S) : Prop := u_ = none ∧ gi S1_ ∧ ai_fr (sx_W vw_321) S0_ S1_ ∧ (rg b_ n_ T_ (pb (pb x_ fun p_ => p_ex b_ n_ (mdo mo_) (p_pm b_ n_ (mdo mo_) A_ M_ K_ f_) c_ p_) fun r_ => .inr r_.1) S1_ ∧ ∀ r_, (pb x_ fun p_ => p_ex b_ n_ (mdo mo_) (p_pm b_ n_ (mdo mo_) A_ M_ K_ f_) c_ p_) = .inr r_ → vs mo_ r_.2.1 S1_ ∧ r_.2.1.length = 1)
set_option maxHeartbeats 1500000 in
theorem vl_321 {sc_ : Nat × (Nat → Int)} (b_ : Nat → Int) (n_ : Nat) (T_ : Nat) (mo_ : Int) (x_ : pE Nat) (c_ : List Int) (A_ : pA) (M_ : Nat) (K_ : Nat) (f_ : Nat → Nat) (S0_ : sm_S) (ht_ : rtab b_ n_ T_ S0_) (hx_ : rg b_ n_ T_ x_ S0_) (hmo_ : mo_ = 0 ∨ mo_ = 2) (hm1_ : (S0_.1 13 0 27) = mo_) (hen_ : ∀ p_, x_ = .inr p_ → c_.length ≤ 3 * p_ ∧ r_en b_ n_ T_ mo_ A_ M_ K_ f_ S0_) (hprk : pr_ok b_ n_ (p_pm b_ n_ (mdo mo_) A_ M_ K_ f_)) : ∀ nn_ : Nat, (∀ (k_ : Int) (S_ : sm_S), gi S_ → ai_fr (sx_W vw_321) S0_ S_ → ((ri b_ n_ T_ mo_ (p_pm b_ n_ (mdo mo_) A_ M_ K_ f_) (pb x_ fun p_ => p_ex b_ n_ (mdo mo_) (p_pm b_ n_ (mdo mo_) A_ M_ K_ f_) c_ p_) k_ S_) ∧ (∀ e_, x_ = .inl e_ → (S_.1 13 0 10) ≠ 0) ∧ True) → (r_ms k_ S_) < nn_ → sm_T (mt_P sc_) 7 321 (17, [some (.inr (.inr (some (13, 0)))), some (.inl k_)], [], S_) (fun r_ => ∃ u_ S1_, r_ = (.inl u_, S1_, 0) ∧ vq_321 b_ n_ T_ mo_ x_ c_ A_ M_ K_ f_ S0_ u_ S1_)) := by
  intro nn_
  induction nn_ with
  | zero => exact fun _ _ _ _ _ h_ => absurd h_ (Nat.not_lt_zero _)
  | succ nn_ ih_ =>
    rintro k_ S_ hI_ hF_ ⟨h1_, h2_, -⟩ hm_
    have ht1_ := rtab_fr ht_ hF_ rfl rfl rfl rfl rfl
    have hn1_ := ht_.1
    refine sm_T_go 1 (c1 := (18, [some (.inr (.inr (some (13, 0)))), some (.inl k_)], [.inr (.inr (some (13, 0)))], S_)) rfl ?_
    refine sm_T_cal (d1 := 0) (Q1 := vq_292  S_) rfl rfl (by decide) (vc_292  S_ hI_ ) (fun u_ Sx1_ px4_ => ?_)
    obtain ⟨rfl, vx6_, rfl, px4_⟩ := px4_
    have e18_ := px4_
    refine sm_T_b0 (a := 0) (z := 36) rfl (fun cx7_ => ?_) (fun cx7_ => ?_)
    · have cx7_ : vx6_ = 0 := of_decide_eq_true cx7_
      have hz_ := wr_if e18_ (by omega)
      obtain ⟨e9_, he9_, hw9_⟩ : ∃ e_, (pb x_ fun p_ => p_ex b_ n_ (mdo mo_) (p_pm b_ n_ (mdo mo_) A_ M_ K_ f_) c_ p_) = .inl e_ ∧ rwr mo_ e_ S_ := by rcases h1_ with z_ | ⟨t_, p_, o_, g_, c_, z1_, z2_, z3_⟩ | ⟨p_, o_, g_, c_, z1_, z2_, z3_⟩ | ⟨r_, z1_, z2_, z3_, z4_⟩; exact z_; (exact absurd z2_.1.1 hz_); (exact absurd z2_.1.1 hz_); (exact absurd z3_.1.1 hz_)
      refine sm_T_rv rfl ⟨_, _, rfl, rfl, hI_, hF_, ?_⟩
      first | (rw [he9_]; exact ⟨⟨hw9_.1, hw9_.2.1, hw9_.2.2.1⟩, fun r_ hr_ => by cases hr_⟩) | (rw [hr9_]; exact ⟨hx9_.1, fun r_ hr_ => by cases hr_; exact ⟨hx9_.2.2.2.1, hl9_⟩⟩)
    · have cx7_ : ¬ (vx6_ = 0) := of_decide_eq_false cx7_
      have hz_ := rt_if e18_ (by omega)
      obtain ⟨p9_, hp9_⟩ : ∃ p_, x_ = .inr p_ := by cases hx9_ : x_ with | inl e_ => exact absurd hz_ (h2_ e_ hx9_) | inr p_ => exact ⟨p_, rfl⟩
      refine sm_T_go 2 (c1 := (26, [some (.inr (.inr (some (13, 0)))), some (.inl k_)], [.inl 2, .inl k_], S_)) rfl ?_
      refine sm_T_br (a := 3) (z := 31) rfl (fun cx8_ => ?_) (fun cx8_ => ?_)
      · have cx8_ : 2 ≤ k_ := of_decide_eq_true cx8_
        obtain ⟨r9_, z1_, hr9_, hx9_, hl9_⟩ : ∃ r_, k_ = 2 ∧ (pb x_ fun p_ => p_ex b_ n_ (mdo mo_) (p_pm b_ n_ (mdo mo_) A_ M_ K_ f_) c_ p_) = .inr r_ ∧ rx b_ n_ T_ mo_ false 1 r_.1 [] r_.2.1 S_ ∧ r_.2.1.length = 1 := by rcases h1_ with ⟨e_, z1_, z2_⟩ | ⟨t_, p_, o_, g_, c_, z1_, z2_, z3_⟩ | ⟨p_, o_, g_, c_, z1_, z2_, z3_⟩ | z_; (exact absurd (z2_.1.symm.trans hz_) z2_.2.2.1); (exfalso; omega); (exfalso; omega); exact z_
        refine sm_T_rv rfl ⟨_, _, rfl, rfl, hI_, hF_, ?_⟩
        first | (rw [he9_]; exact ⟨⟨hw9_.1, hw9_.2.1, hw9_.2.2.1⟩, fun r_ hr_ => by cases hr_⟩) | (rw [hr9_]; exact ⟨hx9_.1, fun r_ hr_ => by cases hr_; exact ⟨hx9_.2.2.2.1, hl9_⟩⟩)
      · have cx8_ : ¬ (2 ≤ k_) := of_decide_eq_false cx8_
        refine sm_T_go 1 (c1 := (30, [some (.inr (.inr (some (13, 0)))), some (.inl k_)], [.inl k_], S_)) rfl ?_
        refine sm_T_b0 (a := 1) (z := 18) rfl (fun cx9_ => ?_) (fun cx9_ => ?_)
        · have cx9_ : k_ ≠ 0 := of_decide_eq_true cx9_
          obtain ⟨p1_, o1_, g1_, c1_, k1_, x1_, ok1_, r1_⟩ : ∃ p_ o_ g_ c9_, k_ = 1 ∧ rx b_ n_ T_ mo_ false 1 p_ o_ g_ S_ ∧ x_ok b_ n_ (mdo mo_) (1, false, p_, o_, g_, c9_) ∧ p_xx b_ n_ (mdo mo_) (p_pm b_ n_ (mdo mo_) A_ M_ K_ f_) (1, false, p_, o_, g_, c9_) (pb x_ fun p_ => p_ex b_ n_ (mdo mo_) (p_pm b_ n_ (mdo mo_) A_ M_ K_ f_) c_ p_) := by rcases h1_ with ⟨e_, z1_, z2_⟩ | ⟨t_, p_, o_, g_, c_, z1_, z2_, z3_⟩ | z_ | ⟨r_, z1_, z2_, z3_, z4_⟩; (exact absurd (z2_.1.symm.trans hz_) z2_.2.2.1); (exfalso; omega); exact z_; (exfalso; omega)
          refine sm_T_go 2 (c1 := (50, [some (.inr (.inr (some (13, 0)))), some (.inl k_)], [.inl 0, .inr (.inr (some (13, 0)))], S_)) rfl ?_
          refine sm_T_cal (d1 := 6) (Q1 := vq_320 0 b_ n_ T_ mo_ p1_ o1_ g1_ c1_ A_ M_ K_ f_ S_) rfl rfl (by decide) (vc_320 0 b_ n_ T_ mo_ p1_ o1_ g1_ c1_ A_ M_ K_ f_ S_ hI_ (by rfl) (by exact ht1_) (by exact x1_) (by exact ok1_) (by exact hmo_)) (fun u_ Sx10_ px13_ => ?_)
          obtain ⟨vx15_, rfl, hIx11_, hFx12_, px13_⟩ := px13_
          have hFx14_ : ai_fr (sx_W vw_321) S0_ Sx10_ := ai_fr_tr hF_ (fr_le hFx12_ rfl)
          have e50_ := px13_
          have t50_ := rtab_fr ht1_ hFx12_ rfl rfl rfl rfl rfl
          refine sm_T_go 2 (c1 := (17, [some (.inr (.inr (some (13, 0)))), some (.inl vx15_)], [], Sx10_)) rfl ?_
          refine ih_ vx15_ Sx10_ hIx11_ hFx14_ ⟨?_, ?_, trivial⟩ ?_
          · first | (exact ri_st hn1_ hprk ok1_ r1_ e50_) | (exact ri_st hn1_ hprk ok1_ r1_ (rq_op e34_ (by first | (rw [if_pos (by omega)]) | (rw [if_neg (by omega)])) hn1_ hprk ok1_))
          · intro e_ he_
            rw [hp9_] at he_
            cases he_
          · first | (have q1_ := ri_ms t50_ hprk ok1_ e50_; have q2_ := rms_x (k_ := k_) ht1_ x1_.1 (by omega); have q3_ := q2_.1; have q4_ : r_ms _ _ < 1301 - p1_ := q1_; omega) | (have q1_ := ri_ms t34_ hprk ok1_ (rq_op e34_ (by first | (rw [if_pos (by omega)]) | (rw [if_neg (by omega)])) hn1_ hprk ok1_); have q2_ := rms_x (k_ := k_) ht1_ x1_.1 (by omega); have q3_ := q2_.1; have q4_ : r_ms _ _ < 1301 - p1_ := q1_; omega)
        · have cx9_ : ¬ (k_ ≠ 0) := of_decide_eq_false cx9_
          obtain ⟨t1_, p1_, o1_, g1_, c1_, k1_, x1_, ok1_, r1_⟩ : ∃ t_ p_ o_ g_ c9_, k_ = 0 ∧ rx b_ n_ T_ mo_ t_ 0 p_ o_ g_ S_ ∧ x_ok b_ n_ (mdo mo_) (0, t_, p_, o_, g_, c9_) ∧ p_xx b_ n_ (mdo mo_) (p_pm b_ n_ (mdo mo_) A_ M_ K_ f_) (0, t_, p_, o_, g_, c9_) (pb x_ fun p_ => p_ex b_ n_ (mdo mo_) (p_pm b_ n_ (mdo mo_) A_ M_ K_ f_) c_ p_) := by rcases h1_ with ⟨e_, z1_, z2_⟩ | z_ | ⟨p_, o_, g_, c_, z1_, z2_, z3_⟩ | ⟨r_, z1_, z2_, z3_, z4_⟩; (exact absurd (z2_.1.symm.trans hz_) z2_.2.2.1); exact z_; (exfalso; omega); (exfalso; omega)
          have en1_ : r_en b_ n_ T_ mo_ A_ M_ K_ f_ S_ := ren_fr (hen_ p9_ hp9_).2 hF_ rfl rfl rfl rfl rfl rfl rfl rfl rfl
          refine sm_T_go 1 (c1 := (34, [some (.inr (.inr (some (13, 0)))), some (.inl k_)], [.inr (.inr (some (13, 0)))], S_)) rfl ?_
          refine sm_T_cal (d1 := 6) (Q1 := vq_319 b_ n_ T_ mo_ t1_ p1_ o1_ g1_ c1_ A_ M_ K_ f_ S_) rfl rfl (by decide) (vc_319 b_ n_ T_ mo_ t1_ p1_ o1_ g1_ c1_ A_ M_ K_ f_ S_ hI_ (by exact ht1_) (by exact x1_) (by exact ok1_) (by exact hmo_) (by exact en1_) (by exact hprk)) (fun u_ Sx16_ px19_ => ?_)
          obtain ⟨vx21_, rfl, hIx17_, hFx18_, px19_⟩ := px19_
          have hFx20_ : ai_fr (sx_W vw_321) S0_ Sx16_ := ai_fr_tr hF_ (fr_le hFx18_ rfl)
          have e34_ := px19_
          have t34_ := rtab_fr ht1_ hFx18_ rfl rfl rfl rfl rfl
          refine sm_T_b0 (a := 0) (z := 7) rfl (fun cx22_ => ?_) (fun cx22_ => ?_)
          · have cx22_ : vx21_ = 0 := of_decide_eq_true cx22_
            refine sm_T_go 4 (c1 := (17, [some (.inr (.inr (some (13, 0)))), some (.inl 0)], [], Sx16_)) rfl ?_
            refine ih_ 0 Sx16_ hIx17_ hFx20_ ⟨?_, ?_, trivial⟩ ?_
            · first | (exact ri_st hn1_ hprk ok1_ r1_ e50_) | (exact ri_st hn1_ hprk ok1_ r1_ (rq_op e34_ (by first | (rw [if_pos (by omega)]) | (rw [if_neg (by omega)])) hn1_ hprk ok1_))
            · intro e_ he_
              rw [hp9_] at he_
              cases he_
            · first | (have q1_ := ri_ms t50_ hprk ok1_ e50_; have q2_ := rms_x (k_ := k_) ht1_ x1_.1 (by omega); have q3_ := q2_.1; have q4_ : r_ms _ _ < 1301 - p1_ := q1_; omega) | (have q1_ := ri_ms t34_ hprk ok1_ (rq_op e34_ (by first | (rw [if_pos (by omega)]) | (rw [if_neg (by omega)])) hn1_ hprk ok1_); have q2_ := rms_x (k_ := k_) ht1_ x1_.1 (by omega); have q3_ := q2_.1; have q4_ : r_ms _ _ < 1301 - p1_ := q1_; omega)
          · have cx22_ : ¬ (vx21_ = 0) := of_decide_eq_false cx22_
            refine sm_T_go 4 (c1 := (17, [some (.inr (.inr (some (13, 0)))), some (.inl 1)], [], Sx16_)) rfl ?_
            refine ih_ 1 Sx16_ hIx17_ hFx20_ ⟨?_, ?_, trivial⟩ ?_
            · first | (exact ri_st hn1_ hprk ok1_ r1_ e50_) | (exact ri_st hn1_ hprk ok1_ r1_ (rq_op e34_ (by first | (rw [if_pos (by omega)]) | (rw [if_neg (by omega)])) hn1_ hprk ok1_))
            · intro e_ he_
              rw [hp9_] at he_
              cases he_
            · first | (have q1_ := ri_ms t50_ hprk ok1_ e50_; have q2_ := rms_x (k_ := k_) ht1_ x1_.1 (by omega); have q3_ := q2_.1; have q4_ : r_ms _ _ < 1301 - p1_ := q1_; omega) | (have q1_ := ri_ms t34_ hprk ok1_ (rq_op e34_ (by first | (rw [if_pos (by omega)]) | (rw [if_neg (by omega)])) hn1_ hprk ok1_); have q2_ := rms_x (k_ := k_) ht1_ x1_.1 (by omega); have q3_ := q2_.1; have q4_ : r_ms _ _ < 1301 - p1_ := q1_; omega)
set_option maxHeartbeats 1500000 in
theorem vc_321 {sc_ : Nat × (Nat → Int)} (b_ : Nat → Int) (n_ : Nat) (T_ : Nat) (mo_ : Int) (x_ : pE Nat) (c_ : List Int) (A_ : pA) (M_ : Nat) (K_ : Nat) (f_ : Nat → Nat) (S0_ : sm_S) (hI_ : gi S0_) (ht_ : rtab b_ n_ T_ S0_) (hx_ : rg b_ n_ T_ x_ S0_) (hmo_ : mo_ = 0 ∨ mo_ = 2) (hm1_ : (S0_.1 13 0 27) = mo_) (hen_ : ∀ p_, x_ = .inr p_ → c_.length ≤ 3 * p_ ∧ r_en b_ n_ T_ mo_ A_ M_ K_ f_ S0_) (hprk : pr_ok b_ n_ (p_pm b_ n_ (mdo mo_) A_ M_ K_ f_)) : sm_T (mt_P sc_) 7 321 (0, [some (.inr (.inr (some (13, 0)))), none], [], S0_) (fun r_ => ∃ u_ S1_, r_ = (.inl u_, S1_, 0) ∧ vq_321 b_ n_ T_ mo_ x_ c_ A_ M_ K_ f_ S0_ u_ S1_) := by
  have hF_ : ai_fr (sx_W vw_321) S0_ S0_ := ai_fr_rf
  have hIx1_ : gi (sm_pI S0_ 13 0 32 0) := gi_pI hI_ (show 0 ≤ 0 ∧ 0 ≤ 1023 from ⟨by omega, by omega⟩)
  have hFx2_ : ai_fr (sx_W vw_321) S0_ (sm_pI S0_ 13 0 32 0) := ai_fr_tr hF_ (ai_fr_pI rfl)
  have hIx3_ : gi (sm_pI (sm_pI S0_ 13 0 32 0) 13 0 33 0) := gi_pI hIx1_ (show 0 ≤ 0 ∧ 0 ≤ 60 from ⟨by omega, by omega⟩)
  have hFx4_ : ai_fr (sx_W vw_321) S0_ (sm_pI (sm_pI S0_ 13 0 32 0) 13 0 33 0) := ai_fr_tr hFx2_ (ai_fr_pI rfl)
  have hIx5_ : gi (sm_pI (sm_pI (sm_pI S0_ 13 0 32 0) 13 0 33 0) 13 0 34 0) := gi_pI hIx3_ (show 0 ≤ 0 ∧ 0 ≤ 1023 from ⟨by omega, by omega⟩)
  have hFx6_ : ai_fr (sx_W vw_321) S0_ (sm_pI (sm_pI (sm_pI S0_ 13 0 32 0) 13 0 33 0) 13 0 34 0) := ai_fr_tr hFx4_ (ai_fr_pI rfl)
  refine sm_T_go 11 (c1 := (17, [some (.inr (.inr (some (13, 0)))), some (.inl 0)], [], sm_pI (sm_pI (sm_pI S0_ 13 0 32 0) 13 0 33 0) 13 0 34 0)) rfl ?_
  refine (vl_321 b_ n_ T_ mo_ x_ c_ A_ M_ K_ f_ S0_ ht_ hx_ hmo_ hm1_ hen_ hprk _) 0 (sm_pI (sm_pI (sm_pI S0_ 13 0 32 0) 13 0 33 0) 13 0 34 0) hIx5_ hFx6_ ⟨?_, ?_, trivial⟩ (Nat.lt_succ_self _)
  · cases hx9_ : x_ with
    | inl e_ => rw [hx9_] at hx_; exact Or.inl ⟨e_, rfl, hx_.1, hx_.2.1, hx_.2.2, by show (0 : Int) ≤ 800; decide, hm1_⟩
    | inr p_ =>
      rw [hx9_] at hx_
      obtain ⟨h1_, h2_⟩ := hen_ p_ hx9_
      obtain ⟨i9_, z1_, z2_⟩ := hx_.2
      have z3_ := rp_at ht_ z2_
      have z4_ := z3_.2.2.2.1
      exact Or.inr (Or.inl ⟨false, p_, [], [], c_, rfl, ⟨hx_, ⟨[], ⟨rfl, trivial, trivial⟩, Or.inl ⟨rfl, Or.inl ⟨rfl, rfl⟩⟩⟩, rfl, ⟨rfl, fun _ => trivial, fun _ => trivial⟩, hm1_⟩, x_ok_0 z4_ z2_.2.2.1 h1_, p_ex_x ht_.1 hprk z4_ z2_.2.2.1 h1_⟩)
  · intro e_ he_
    rw [he_] at hx_
    exact fun z_ => hx_.2.2 (hx_.1.symm.trans z_)
