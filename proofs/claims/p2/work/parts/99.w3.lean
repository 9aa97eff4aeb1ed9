/-! the parser stays well formed; written by wip/p55/gen/vg -/

/-! states of_ the_ parser stay well formed -/
theorem p_ad_ok {b_ : Nat → Int} {n_ p_ q_ : Nat} (hp_ : p_ ≤ n_) (hk_ : lx_kd b_ n_ p_ ≠ 0) (h_ : p_ad b_ n_ p_ = .inr q_) : q_ = lx_nx b_ n_ p_ ∧ p_ < q_ ∧ q_ ≤ n_ ∧ lx_kd b_ n_ q_ ≠ -1 := by
  have hlt_ : p_ < n_ := by
    by_cases g_ : n_ ≤ p_
    · exact absurd (show lx_kd b_ n_ p_ = 0 by unfold lx_kd; exact if_pos g_) hk_
    · omega
  unfold p_ad at h_
  split at h_
  · cases h_
  · rename_i g_
    cases h_
    have h1_ := lx_en_lt (b_ := b_) hlt_
    have h2_ := lx_en_le (b := b_) hp_
    have h3_ := lx_k_le (b := b_) h2_.2
    refine ⟨rfl, ?_, ?_, g_⟩
    · unfold lx_nx; omega
    · unfold lx_nx; omega
theorem p_ti_ok {md_ t_ : Bool} {x_ : Int} {h_ c_ : List Int} (hh_ : h_ok (x_ :: h_)) : (p_ti md_ t_ (x_ :: h_) c_).1.length = h_.length + 1 ∧ h_ok (p_ti md_ t_ (x_ :: h_) c_).1 ∧ (p_ti md_ t_ (x_ :: h_) c_).2.length ≤ c_.length + (if t_ = true then 1 else 0) := by
  unfold p_ti p_tn
  by_cases g_ : t_ = true
  · rw [if_pos g_, if_pos g_]
    by_cases g1_ : md_ = true
    · rw [if_pos g1_]
      have h1_ := h_ok_c.mp hh_
      refine ⟨by simp, h_ok_c.mpr ⟨(i_by h1_.1 (by decide)).2.1, h1_.2⟩, by simp⟩
    · rw [if_neg g1_]
      exact ⟨by simp, hh_, by simp⟩
  · rw [if_neg g_, if_neg g_]
    exact ⟨by simp, hh_, by simp⟩
def x_ok (b_ : Nat → Int) (n_ : Nat) (md_ : Bool) (x_ : pX) : Prop := x_.1 ≤ 1 ∧ s_ok md_ x_.1 (x_.2.2.2.1, x_.2.2.2.2.1, x_.2.2.2.2.2) ∧ x_.2.2.1 ≤ n_ ∧ lx_kd b_ n_ x_.2.2.1 ≠ -1 ∧ x_.2.2.2.2.2.length + x_.2.2.2.1.length + (if x_.2.1 = true then 1 else 0) ≤ 3 * x_.2.2.1
theorem x_B3 {b_ : Nat → Int} {n_ p_ : Nat} {md_ : Bool} {s_ : pO} {x_ : pX} (hp_ : p_ ≤ n_) (hs_ : s_ok md_ 1 s_) (ht_ : o_tp s_.1 < 1 ∧ o_tp s_.1 ≠ -4) (hc_ : s_.2.2.length + s_.1.length ≤ 3 * p_) (e_ : p_B3 b_ n_ md_ p_ s_ = .inr (.inl x_)) : x_ok b_ n_ md_ x_ := by
  obtain ⟨o_, h_, c_⟩ := s_
  obtain ⟨s1_, s2_, s3_, s4_⟩ := hs_
  cases o_ with
  | nil => cases e_
  | cons y_ o_ =>
    obtain ⟨k_, q_⟩ := y_
    have ht1_ : k_ < 1 ∧ k_ ≠ -4 := ht_
    have s10_ := s1_.1
    have s20_ : (if k_ < 0 then 1 else 0) + o_mk o_ ≤ 60 := s2_
    have s30_ : h_.length = ((if k_ = -4 then 2 else if k_ = -3 then 1 else if k_ < 0 then 0 else 1) + o_hl o_) + 1 := s3_
    have hc0_ : c_.length + (o_.length + 1) ≤ 3 * p_ := hc_
    have e_ : (if k_ = -3 then (if lx_kd b_ n_ p_ = 58 then pb (p_ad b_ n_ p_) fun r_ => (.inr (.inl (0, false, r_, (-4, q_) :: o_, h_, c_)) : pE (pX ⊕ pR)) else .inl (2, p_)) else (if lx_kd b_ n_ p_ = 41 then pb (p_ad b_ n_ p_) fun r_ => .inr (.inl (1, false, r_, o_, (p_ti md_ (decide (k_ = -2)) h_ c_).1, (p_ti md_ (decide (k_ = -2)) h_ c_).2)) else .inl (2, p_))) = .inr (.inl x_) := e_
    by_cases g_ : k_ = -3
    · rw [if_pos g_] at e_
      split at e_
      · rename_i g1_
        cases ha_ : p_ad b_ n_ p_ with
        | inl z_ => rw [ha_] at e_; cases e_
        | inr r_ =>
          rw [ha_] at e_
          cases e_
          have h1_ := p_ad_ok hp_ (by omega) ha_
          have hmd_ : md_ = false := by
            rcases s10_ with z_ | z_ | z_ | z_
            · exfalso; have z_ : k_ = -1 := z_; omega
            · exfalso; have z_ : k_ = -2 := z_; omega
            · exact z_.1
            · exfalso; have z_ : 1 ≤ k_ := z_.1; omega
          refine ⟨Nat.zero_le _, ⟨⟨Or.inr (Or.inr (Or.inl ⟨hmd_, Or.inr rfl⟩)), s1_.2.1, s1_.2.2⟩, ?_, ?_, s4_⟩, h1_.2.2.1, h1_.2.2.2, ?_⟩
          · show (if (-4 : Int) < 0 then 1 else 0) + o_mk o_ ≤ 60
            rw [if_pos (by decide)]
            rw [if_pos (by omega)] at s20_
            exact s20_
          · show h_.length = (2 + o_hl o_) + 0
            rw [if_neg (by omega), if_pos g_] at s30_
            omega
          · show c_.length + (o_.length + 1) + 0 ≤ 3 * r_
            omega
      · cases e_
    · rw [if_neg g_] at e_
      split at e_
      · rename_i g1_
        cases ha_ : p_ad b_ n_ p_ with
        | inl z_ => rw [ha_] at e_; cases e_
        | inr r_ =>
          rw [ha_] at e_
          cases e_
          have h1_ := p_ad_ok hp_ (by omega) ha_
          have hk_ : k_ = -1 ∨ k_ = -2 := by
            rcases s10_ with z_ | z_ | z_ | z_
            · exact Or.inl z_
            · exact Or.inr z_
            · exfalso
              rcases z_.2 with z_ | z_
              · exact g_ z_
              · exact ht1_.2 z_
            · exfalso; have z_ : 1 ≤ k_ := z_.1; omega
          rw [if_neg (by omega), if_neg g_, if_pos (by omega)] at s30_
          rw [if_pos (by omega)] at s20_
          cases h_ with
          | nil => exfalso; simp only [List.length_nil] at s30_; omega
          | cons y_ h_ =>
            have h2_ := p_ti_ok (md_ := md_) (t_ := decide (k_ = -2)) (c_ := c_) s4_
            refine ⟨Nat.le_refl _, ⟨s1_.2.2, ?_, ?_, h2_.2.1⟩, h1_.2.2.1, h1_.2.2.2, ?_⟩
            · show o_mk o_ ≤ 60
              omega
            · show (p_ti md_ (decide (k_ = -2)) (y_ :: h_) c_).1.length = o_hl o_ + 1
              simp only [List.length_cons] at s30_
              omega
            · show (p_ti md_ (decide (k_ = -2)) (y_ :: h_) c_).2.length + o_.length + 0 ≤ 3 * r_
              have h3_ := h2_.2.2
              split at h3_ <;> omega
      · cases e_
theorem x_B2 {b_ : Nat → Int} {n_ p_ : Nat} {md_ : Bool} {s_ : pO} {x_ : pX} (hn_ : n_ ≤ 1280) (hp_ : p_ ≤ n_) (hs_ : s_ok md_ 1 s_) (hc_ : s_.2.2.length + s_.1.length ≤ 3 * p_) (e_ : p_B2 b_ n_ md_ p_ s_ = .inr (.inl x_)) : x_ok b_ n_ md_ x_ := by
  unfold p_B2 at e_
  split at e_
  · rename_i g_
    cases h1_ : p_se md_ 1 s_.1 s_.2.1 s_.2.2 with
    | inl z_ => rw [h1_] at e_; cases e_
    | inr u_ =>
      rw [h1_] at e_
      have h2_ := p_se_ok (by decide) s_.1 s_.2.1 s_.2.2 u_ hs_ h1_
      have e_ : (if o_mk u_.1 = 60 then (.inl (3, p_) : pE (pX ⊕ pR)) else if h_tp u_.2.1 ≠ 1 then .inl (13, p_) else pb (p_ad b_ n_ p_) fun q_ => .inr (.inl (0, false, q_, (-3, p_) :: u_.1, u_.2.1, u_.2.2))) = .inr (.inl x_) := e_
      split at e_
      · cases e_
      · rename_i g1_
        split at e_
        · cases e_
        · cases ha_ : p_ad b_ n_ p_ with
          | inl z_ => rw [ha_] at e_; cases e_
          | inr r_ =>
            rw [ha_] at e_
            cases e_
            have h3_ := p_ad_ok hp_ (by omega) ha_
            obtain ⟨⟨t1_, t2_, t3_, t4_⟩, h5_, h6_, h7_⟩ := h2_
            refine ⟨Nat.zero_le _, ⟨⟨Or.inr (Or.inr (Or.inl ⟨g_.1, Or.inl rfl⟩)), by show p_ ≤ 1280; omega, t1_⟩, ?_, ?_, t4_⟩, h3_.2.2.1, h3_.2.2.2, ?_⟩
            · show (if (-3 : Int) < 0 then 1 else 0) + o_mk u_.1 ≤ 60
              rw [if_pos (by decide)]
              omega
            · show u_.2.1.length = (1 + o_hl u_.1) + 0
              omega
            · show u_.2.2.length + (u_.1.length + 1) + 0 ≤ 3 * r_
              omega
  · cases h1_ : p_sa md_ s_.1 s_.2.1 s_.2.2 with
    | inl z_ => rw [h1_] at e_; cases e_
    | inr u_ =>
      rw [h1_] at e_
      have h2_ := p_sa_ok s_.1 s_.2.1 s_.2.2 u_ hs_ h1_
      exact x_B3 hp_ h2_.1 h2_.2.2 (by omega) e_
theorem x_sB {b_ : Nat → Int} {n_ p_ : Nat} {md_ : Bool} {o_ : List (Int × Nat)} {h_ c_ : List Int} {x_ : pX} (hn_ : n_ ≤ 1280) (hp_ : p_ ≤ n_) (hs_ : s_ok md_ 1 (o_, h_, c_)) (hc_ : c_.length + o_.length ≤ 3 * p_) (e_ : p_sB b_ n_ md_ p_ o_ h_ c_ = .inr (.inl x_)) : x_ok b_ n_ md_ x_ := by
  unfold p_sB at e_
  have hb_ := p_lv_b (md_ := md_) (k_ := lx_kd b_ n_ p_)
  generalize hl_ : p_lv md_ (lx_kd b_ n_ p_) = lv_ at e_ hb_
  split at e_
  · rename_i g_
    cases h1_ : p_se md_ (if lv_ = 4 then 5 else lv_) o_ h_ c_ with
    | inl z_ => rw [h1_] at e_; cases e_
    | inr u_ =>
      rw [h1_] at e_
      have h2_ := p_se_ok (by split <;> omega) o_ h_ c_ u_ hs_ h1_
      have e_ : p_B1 b_ n_ md_ p_ lv_ u_ = .inr (.inl x_) := e_
      unfold p_B1 at e_
      split at e_
      · rename_i g1_
        cases ha_ : p_ad b_ n_ p_ with
        | inl z_ => rw [ha_] at e_; cases e_
        | inr r_ =>
          rw [ha_] at e_
          cases e_
          have h3_ := p_ad_ok hp_ (by intro h0_; rw [h0_] at hl_; unfold p_lv at hl_; repeat' split at hl_ <;> omega) ha_
          obtain ⟨⟨t1_, t2_, t3_, t4_⟩, h5_, h6_, h7_⟩ := h2_
          refine ⟨Nat.zero_le _, ⟨⟨Or.inr (Or.inr (Or.inr ⟨by show 1 ≤ lv_; omega, by show lv_ ≤ 5; omega, hb_.2.2, ?_⟩)), by show p_ ≤ 1280; omega, t1_⟩, ?_, ?_, t4_⟩, h3_.2.2.1, h3_.2.2.2, ?_⟩
          · show o_tp u_.1 < lv_
            have t5_ := o_tp5 t1_
            split at h7_
            · rename_i g2_
              rcases g1_.2 with g3_ | g3_
              · exact absurd g2_ g3_
              · omega
            · exact h7_
          · show (if lv_ < 0 then 1 else 0) + o_mk u_.1 ≤ 60
            rw [if_neg (by omega)]
            omega
          · show u_.2.1.length = ((if lv_ = -4 then 2 else if lv_ = -3 then 1 else if lv_ < 0 then 0 else 1) + o_hl u_.1) + 0
            rw [if_neg (by omega), if_neg (by omega), if_neg (by omega)]
            omega
          · show u_.2.2.length + (u_.1.length + 1) + 0 ≤ 3 * r_
            omega
      · exact x_B2 hn_ hp_ h2_.1 (by omega) e_
  · exact x_B2 hn_ hp_ hs_ hc_ e_
def pr_ok (b_ : Nat → Int) (n_ : Nat) (pr_ : pPr) : Prop := ∀ p_ r_, p_ ≤ n_ → lx_kd b_ n_ p_ ≠ -1 → pr_ p_ = .inr r_ → p_ < r_.1 ∧ r_.1 ≤ n_ ∧ lx_kd b_ n_ r_.1 ≠ -1 ∧ (0 ≤ r_.2.1 ∧ r_.2.1 ≤ 255) ∧ r_.2.2.length ≤ 3 * (r_.1 - p_)
theorem x_sA {b_ : Nat → Int} {n_ p_ : Nat} {md_ t_ : Bool} {pr_ : pPr} {o_ : List (Int × Nat)} {h_ c_ : List Int} {x_ : pX} (hn_ : n_ ≤ 1280) (hpr_ : pr_ok b_ n_ pr_) (hp_ : p_ ≤ n_) (hk_ : lx_kd b_ n_ p_ ≠ -1) (hs_ : s_ok md_ 0 (o_, h_, c_)) (hc_ : c_.length + o_.length + (if t_ = true then 1 else 0) ≤ 3 * p_) (e_ : p_sA b_ n_ md_ pr_ t_ p_ o_ h_ c_ = .inr (.inl x_)) : x_ok b_ n_ md_ x_ := by
  obtain ⟨s1_, s2_, s3_, s4_⟩ := hs_
  unfold p_sA at e_
  split at e_
  · rename_i g_
    cases ha_ : p_ad b_ n_ p_ with
    | inl z_ => rw [ha_] at e_; cases e_
    | inr r_ =>
      rw [ha_] at e_
      cases e_
      have h3_ := p_ad_ok hp_ (by omega) ha_
      refine ⟨Nat.zero_le _, ⟨s1_, s2_, s3_, s4_⟩, h3_.2.2.1, h3_.2.2.2, ?_⟩
      show c_.length + o_.length + (if (!t_) = true then 1 else 0) ≤ 3 * r_
      split <;> split at hc_ <;> omega
  · split at e_
    · rename_i g0_ g_
      split at e_
      · cases e_
      · rename_i g1_
        cases ha_ : p_ad b_ n_ p_ with
        | inl z_ => rw [ha_] at e_; cases e_
        | inr r_ =>
          rw [ha_] at e_
          cases e_
          have h3_ := p_ad_ok hp_ (by omega) ha_
          have ht_ : (if t_ = true then (-2 : Int) else -1) = -1 ∨ (if t_ = true then (-2 : Int) else -1) = -2 := by split <;> simp
          have s20_ : o_mk o_ ≤ 60 := s2_
          have s30_ : h_.length = o_hl o_ + 0 := s3_
          refine ⟨Nat.zero_le _, ⟨⟨by rcases ht_ with z_ | z_; (exact Or.inl z_); (exact Or.inr (Or.inl z_)), by show p_ ≤ 1280; omega, s1_⟩, ?_, ?_, s4_⟩, h3_.2.2.1, h3_.2.2.2, ?_⟩
          · show (if (if t_ = true then (-2 : Int) else -1) < 0 then 1 else 0) + o_mk o_ ≤ 60
            rw [if_pos (by omega)]
            omega
          · show h_.length = ((if (if t_ = true then (-2 : Int) else -1) = -4 then 2 else if (if t_ = true then (-2 : Int) else -1) = -3 then 1 else if (if t_ = true then (-2 : Int) else -1) < 0 then 0 else 1) + o_hl o_) + 0
            rw [if_neg (by omega), if_neg (by omega), if_pos (by omega)]
            omega
          · show c_.length + (o_.length + 1) + 0 ≤ 3 * r_
            split at hc_ <;> omega
    · cases ha_ : pr_ p_ with
      | inl z_ => rw [ha_] at e_; cases e_
      | inr r_ =>
        rw [ha_] at e_
        cases e_
        have h3_ := hpr_ p_ r_ hp_ hk_ ha_
        have h4_ : h_ok (r_.2.1 :: h_) := h_ok_c.mpr ⟨h3_.2.2.2.1, s4_⟩
        have h2_ := p_ti_ok (md_ := md_) (t_ := t_) (c_ := r_.2.2 ++ c_) h4_
        have s30_ : h_.length = o_hl o_ + 0 := s3_
        refine ⟨Nat.le_refl _, ⟨s1_, s2_, ?_, h2_.2.1⟩, h3_.2.1, h3_.2.2.1, ?_⟩
        · show (p_ti md_ t_ (r_.2.1 :: h_) (r_.2.2 ++ c_)).1.length = o_hl o_ + 1
          omega
        · show (p_ti md_ t_ (r_.2.1 :: h_) (r_.2.2 ++ c_)).2.length + o_.length + 0 ≤ 3 * r_.1
          have h5_ := h2_.2.2
          have h6_ := h3_.2.2.2.2
          rw [List.length_append] at h5_
          have h7_ := h3_.1
          by_cases gt_ : t_ = true
          · rw [if_pos gt_] at hc_ h5_; omega
          · rw [if_neg gt_] at hc_ h5_; omega
theorem x_st {b_ : Nat → Int} {n_ : Nat} {md_ : Bool} {pr_ : pPr} {x_ y_ : pX} (hn_ : n_ ≤ 1280) (hpr_ : pr_ok b_ n_ pr_) (hx_ : x_ok b_ n_ md_ x_) (e_ : p_st b_ n_ md_ pr_ x_ = .inr (.inl y_)) : x_ok b_ n_ md_ y_ := by
  obtain ⟨h0_, h1_, h2_, h3_, h4_⟩ := hx_
  unfold p_st at e_
  split at e_
  · rename_i g_
    rw [g_] at h1_
    exact x_sA hn_ hpr_ h2_ h3_ h1_ h4_ e_
  · have g_ : x_.1 = 1 := by omega
    rw [g_] at h1_
    exact x_sB hn_ h2_ h1_ (by omega) e_
/-- one_ step on_ the_ way_ to_ R_ -/
theorem p_go {b_ : Nat → Int} {n_ : Nat} {md_ : Bool} {pr_ : pPr} {x_ y_ : pX} {R_ : pE pR} (hn_ : n_ ≤ 1280) (hpr_ : pr_ok b_ n_ pr_) (hx_ : x_ok b_ n_ md_ x_) (h_ : p_xx b_ n_ md_ pr_ x_ R_) (e_ : p_st b_ n_ md_ pr_ x_ = .inr (.inl y_)) : x_ok b_ n_ md_ y_ ∧ p_xx b_ n_ md_ pr_ y_ R_ := by
  have h1_ := p_xy h_
  rw [e_] at h1_
  exact ⟨x_st hn_ hpr_ hx_ e_, h1_⟩
theorem p_er {b_ : Nat → Int} {n_ : Nat} {md_ : Bool} {pr_ : pPr} {x_ : pX} {z_ : Int × Nat} {R_ : pE pR} (h_ : p_xx b_ n_ md_ pr_ x_ R_) (e_ : p_st b_ n_ md_ pr_ x_ = .inl z_) : R_ = .inl z_ := by
  have h1_ := p_xy h_
  rw [e_] at h1_
  exact h1_
theorem p_dn {b_ : Nat → Int} {n_ : Nat} {md_ : Bool} {pr_ : pPr} {x_ : pX} {r_ : pR} {R_ : pE pR} (h_ : p_xx b_ n_ md_ pr_ x_ R_) (e_ : p_st b_ n_ md_ pr_ x_ = .inr (.inr r_)) : R_ = .inr r_ := by
  have h1_ := p_xy h_
  rw [e_] at h1_
  exact h1_

