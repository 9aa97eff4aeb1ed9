/-! the reference: right or wrong; written by wip/p55/gen/vg -/

/-! the_ reference: tokens in rows, right or wrong -/
def r_st (k_ : Int) : Int := if k_ = 0 then 5 else r_so k_
def r_nb (k_ v_ : Int) : Int := if k_ = 0 then 0 else r_nu k_ v_
def rtab (b_ : Nat → Int) (n_ T_ : Nat) (S_ : sm_S) : Prop := n_ ≤ 1280 ∧ T_ ≤ 1280 ∧ tkt b_ n_ T_ S_ ∧ S_.2.2.1 119 0 T_ = 5 ∧ S_.2.2.1 120 0 T_ = (n_ : Int) ∧ S_.2.2.1 121 0 T_ = 0 ∧ ((lxp b_ n_ T_ = n_ ∧ ∀ i_, i_ < T_ → lx_kd b_ n_ (lxp b_ n_ i_) ≠ -1) ∨ (0 < T_ ∧ lx_kd b_ n_ (lxp b_ n_ (T_ - 1)) = -1)) ∧ (∀ k_, -128 ≤ b_ k_ ∧ b_ k_ ≤ 127)
theorem rtab_fr {w_ : sx_Wl} {S_ S'_ : sm_S} {b_ : Nat → Int} {n_ T_ : Nat} (x_ : rtab b_ n_ T_ S_) (g_ : ai_fr (sx_W w_) S_ S'_) (h0_ : (sx_W w_).2.1 119 = false) (h1_ : (sx_W w_).2.1 120 = false) (h2_ : (sx_W w_).2.1 121 = false) (h3_ : (sx_W w_).2.1 122 = false) (h4_ : (sx_W w_).2.1 123 = false) : rtab b_ n_ T_ S'_ := by
  unfold rtab tkt rrow at x_ ⊢
  rw [fr_arr g_ h0_, fr_arr g_ h1_, fr_arr g_ h2_, fr_arr g_ h4_, fr_arl g_ h3_]
  exact x_
/-- token i_ stands at p_, and it_ is_ right to_ be_ there -/
def rp (b_ : Nat → Int) (n_ T_ i_ p_ : Nat) : Prop := i_ ≤ T_ ∧ p_ = lxp b_ n_ i_ ∧ lx_kd b_ n_ p_ ≠ -1 ∧ (i_ = T_ → lxp b_ n_ T_ = n_)
def rg (b_ : Nat → Int) (n_ T_ : Nat) (x_ : pE Nat) (S_ : sm_S) : Prop := match x_ with
  | .inl e_ => S_.1 13 0 10 = e_.1 ∧ S_.1 13 0 11 = (e_.2 : Int) ∧ e_.1 ≠ 0
  | .inr p_ => S_.1 13 0 10 = 0 ∧ ∃ i_ : Nat, S_.1 13 0 9 = (i_ : Int) ∧ rp b_ n_ T_ i_ p_
theorem rg_fr {w_ : sx_Wl} {S_ S'_ : sm_S} {b_ : Nat → Int} {n_ T_ : Nat} {x_ : pE Nat} (h_ : rg b_ n_ T_ x_ S_) (g_ : ai_fr (sx_W w_) S_ S'_) (h0_ : (sx_W w_).1 13 9 = false) (h1_ : (sx_W w_).1 13 10 = false) (h2_ : (sx_W w_).1 13 11 = false) : rg b_ n_ T_ x_ S'_ := by
  unfold rg at h_ ⊢
  rw [g_.1 13 0 9 h0_, g_.1 13 0 10 h1_, g_.1 13 0 11 h2_]
  exact h_
theorem lx_kd_n {b_ : Nat → Int} {n_ : Nat} : lx_kd b_ n_ n_ = 0 := by
  unfold lx_kd
  exact if_pos (Nat.le_refl _)
theorem lx_kd_0 {b_ : Nat → Int} {n_ p_ : Nat} (hp_ : p_ < n_) : lx_kd b_ n_ p_ ≠ 0 := by
  unfold lx_kd
  rw [if_neg (by omega)]
  have h1_ := lx_wk_7 (lx_pk b_ p_ (lx_ne b_ n_ p_ - p_))
  split
  · split <;> omega
  · split
    · split <;> decide
    · split
      · decide
      · assumption
theorem lx_kd_r {b_ : Nat → Int} {n_ p_ : Nat} (hk_ : lx_kd b_ n_ p_ ≠ -1) : 0 ≤ lx_kd b_ n_ p_ ∧ (lx_kd b_ n_ p_ ≤ 9 ∨ 33 ≤ lx_kd b_ n_ p_) := by
  unfold lx_kd at hk_ ⊢
  have h1_ := lx_wk_7 (lx_pk b_ p_ (lx_ne b_ n_ p_ - p_))
  have h2_ := lx_sk_b (b := b_) (n := n_) (p := p_)
  split
  · omega
  · rename_i g_
    rw [if_neg g_] at hk_
    split
    · rename_i g1_
      rw [if_pos g1_] at hk_
      split
      · omega
      · rename_i g2_
        rw [if_neg g2_] at hk_
        exact absurd rfl hk_
    · rename_i g1_
      rw [if_neg g1_] at hk_
      split
      · rename_i g2_
        rw [if_pos g2_] at hk_
        split
        · omega
        · rename_i g3_
          rw [if_neg g3_] at hk_
          exact absurd rfl hk_
      · rename_i g2_
        rw [if_neg g2_] at hk_
        split
        · rename_i g3_
          rw [if_pos g3_] at hk_
          exact absurd rfl hk_
        · omega
/-- what the_ rows say_ of_ a_ token -/
theorem rp_at {b_ : Nat → Int} {n_ T_ i_ p_ : Nat} {S_ : sm_S} (h_ : rtab b_ n_ T_ S_) (r_ : rp b_ n_ T_ i_ p_) : S_.2.2.1 119 0 i_ = r_st (lx_kd b_ n_ p_) ∧ S_.2.2.1 120 0 i_ = (p_ : Int) ∧ S_.2.2.1 121 0 i_ = r_nb (lx_kd b_ n_ p_) (lx_vl b_ n_ p_) ∧ p_ ≤ n_ ∧ (i_ < T_ ↔ p_ < n_) ∧ (lx_kd b_ n_ p_ = 1 → S_.2.2.2 122 0 i_ = rk1 b_ p_ (lx_sz b_ n_ p_) ∧ S_.2.2.1 123 0 i_ = rk2 b_ p_ (lx_sz b_ n_ p_)) := by
  obtain ⟨h1_, h2_, h3_, h4_, h5_, h6_, h7_, h8_⟩ := h_
  obtain ⟨r1_, r2_, r3_, r4_⟩ := r_
  by_cases e_ : i_ = T_
  · have hp_ : p_ = n_ := by rw [r2_, e_]; exact r4_ e_
    rw [hp_, lx_kd_n, e_]
    refine ⟨h4_, h5_, h6_, Nat.le_refl _, ⟨fun z_ => absurd z_ (Nat.lt_irrefl _), fun z_ => absurd z_ (Nat.lt_irrefl _)⟩, fun z_ => absurd z_ (by decide)⟩
  · obtain ⟨t1_, t2_⟩ := h3_.1 i_ (by omega)
    rw [← r2_] at t1_ t2_
    have hk_ := lx_kd_0 (b_ := b_) t1_
    unfold r_st r_nb
    rw [if_neg hk_, if_neg hk_]
    exact ⟨t2_.2.1, t2_.1, t2_.2.2.1 r3_, by omega, ⟨fun _ => t1_, fun _ => by omega⟩, t2_.2.2.2⟩
/-- the_ next token, right or bad_ -/
theorem rp_nx {b_ : Nat → Int} {n_ T_ i_ p_ : Nat} {S_ : sm_S} (h_ : rtab b_ n_ T_ S_) (r_ : rp b_ n_ T_ i_ p_) (hk_ : lx_kd b_ n_ p_ ≠ 0) : i_ + 1 ≤ T_ ∧ S_.2.2.1 120 0 (i_ + 1) = (lx_nx b_ n_ p_ : Nat) ∧ (S_.2.2.1 119 0 (i_ + 1) = 4 ↔ lx_kd b_ n_ (lx_nx b_ n_ p_) = -1) ∧ (lx_kd b_ n_ (lx_nx b_ n_ p_) ≠ -1 → rp b_ n_ T_ (i_ + 1) (lx_nx b_ n_ p_)) := by
  have ra_ := rp_at h_ r_
  have hlt_ : p_ < n_ := by
    by_cases g_ : p_ < n_
    · exact g_
    · exfalso
      apply hk_
      rw [show p_ = n_ by have := ra_.2.2.2.1; omega]
      exact lx_kd_n
  have hi_ := ra_.2.2.2.2.1.mpr hlt_
  have hl_ : lxp b_ n_ (i_ + 1) = lx_nx b_ n_ p_ := by show lx_nx b_ n_ (lxp b_ n_ i_) = _; rw [← r_.2.1]
  obtain ⟨h1_, h2_, h3_, h4_, h5_, h6_, h7_, h8_⟩ := h_
  by_cases e_ : i_ + 1 = T_
  · have hT_ : lxp b_ n_ T_ = n_ := by
      rcases h7_ with z_ | z_
      · exact z_.1
      · exfalso
        have : T_ - 1 = i_ := by omega
        rw [this, ← r_.2.1] at z_
        exact r_.2.2.1 z_.2
    have hn_ : lx_nx b_ n_ p_ = n_ := by rw [← hl_, e_, hT_]
    rw [hn_, e_, lx_kd_n]
    refine ⟨Nat.le_refl _, h5_, ⟨fun z_ => by rw [h4_] at z_; exact absurd z_ (by decide), fun z_ => absurd z_ (by decide)⟩, fun _ => ⟨Nat.le_refl _, hT_.symm, by rw [lx_kd_n]; decide, fun _ => hT_⟩⟩
  · obtain ⟨t1_, t2_⟩ := h3_.1 (i_ + 1) (by omega)
    rw [hl_] at t1_ t2_
    refine ⟨by omega, t2_.1, ?_, fun z_ => ⟨by omega, hl_.symm, z_, fun q_ => absurd q_ e_⟩⟩
    rw [t2_.2.1]
    unfold r_so
    constructor
    · intro z_
      by_cases g_ : lx_kd b_ n_ (lx_nx b_ n_ p_) = -1
      · exact g_
      · rw [if_neg g_] at z_
        repeat' split at z_
        all_goals omega
    · intro z_
      rw [if_pos z_]
theorem r_st_3 {k_ : Int} (h_ : 0 ≤ k_ ∧ (k_ ≤ 9 ∨ 33 ≤ k_)) : (r_st k_ = 3 ↔ 33 ≤ k_) ∧ (r_st k_ = 1 ↔ k_ = 1) ∧ (r_st k_ = 2 ↔ k_ = 2) ∧ (r_st k_ = 6 ↔ 3 ≤ k_ ∧ k_ ≤ 9) ∧ (r_st k_ = 5 ↔ k_ = 0) ∧ r_st k_ ≠ 4 := by
  unfold r_st r_so
  by_cases g_ : k_ = 0
  · rw [if_pos g_]; omega
  · rw [if_neg g_, if_neg (by omega)]
    by_cases g1_ : k_ = 1
    · rw [if_pos g1_]; omega
    · rw [if_neg g1_]
      by_cases g2_ : k_ = 2
      · rw [if_pos g2_]; omega
      · rw [if_neg g2_]
        by_cases g3_ : k_ ≤ 9
        · rw [if_pos g3_]; omega
        · rw [if_neg g3_]; omega
theorem r_nb_s {k_ v_ : Int} (h_ : 33 ≤ k_) : r_nb k_ v_ = k_ := by
  unfold r_nb r_nu
  rw [if_neg (by omega), if_neg (by omega), if_neg (by omega), if_neg (by omega)]
theorem r_nb_2 {v_ : Int} : r_nb 2 v_ = v_ := rfl
theorem r_nb_w {k_ v_ : Int} (h_ : 3 ≤ k_ ∧ k_ ≤ 9) : r_nb k_ v_ = k_ - 2 := by
  unfold r_nb r_nu
  rw [if_neg (by omega), if_neg (by omega), if_neg (by omega), if_pos h_.2]

