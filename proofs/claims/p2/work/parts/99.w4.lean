/-! the class reader, what it holds; written by wip/p55/gen/vg -/

/-! what the_ class's reader holds -/
theorem i_or_lo {x_ y_ : Int} {s_ : Nat} (hx0_ : 0 ≤ x_) (hx_ : x_ < 2 ^ s_) (hy0_ : 0 ≤ y_) (hs_ : x_ + y_ ≤ 2147483647) (hd_ : ((2 : Int) ^ s_) ∣ y_) : i_or x_ y_ = x_ + y_ := by
  have h1_ : i_or x_ y_ = ((x_.toNat ||| y_.toNat : Nat) : Int) := bt_or_nat hx0_ (by omega) hy0_ (by omega)
  have h2_ : i_or y_ x_ = ((y_.toNat ||| x_.toNat : Nat) : Int) := bt_or_nat hy0_ (by omega) hx0_ (by omega)
  have h3_ := i_or_add hy0_ hx0_ hx_ (by omega) hd_
  rw [h1_, Nat.or_comm, ← h2_, h3_]
  omega
/-- a_ word of_ code -/
def cw (k_ a_ d_ : Int) : Int := k_ + 32 * a_ + 2048 * d_
theorem cw_or {k_ a_ d_ : Int} (hk_ : 0 ≤ k_ ∧ k_ < 32) (ha_ : 0 ≤ a_ ∧ a_ < 64) (hd_ : 0 ≤ d_ ∧ d_ ≤ 999999) : i_or (i_or k_ (32 * a_)) (2048 * d_) = cw k_ a_ d_ := by
  have h1_ : i_or k_ (32 * a_) = k_ + 32 * a_ := i_or_lo (s_ := 5) hk_.1 hk_.2 (by omega) (by omega) ⟨a_, by omega⟩
  have h2_ : i_or (k_ + 32 * a_) (2048 * d_) = k_ + 32 * a_ + 2048 * d_ := i_or_lo (s_ := 11) (by omega) (by omega) (by omega) (by omega) ⟨d_, by omega⟩
  rw [h1_, h2_]
  rfl
/-- operators, held values and code -/
def xs (md_ : Bool) (o_ : List (Int × Nat)) (g_ c_ : List Int) (S_ : sm_S) : Prop := S_.1 7 0 14 = (o_.length : Int) ∧ S_.1 7 0 16 = (g_.length : Int) ∧ stk (S_.2.2.1 82 0) (o_.map fun x_ => x_.1) ∧ stk (S_.2.2.1 83 0) (o_.map fun x_ => (x_.2 : Int)) ∧ stk (S_.2.2.1 84 0) g_ ∧ (S_.2.1 7 0 11 = none ↔ md_ = false) ∧ (md_ = false → S_.1 7 0 2 = (c_.length : Int) ∧ stk (S_.2.2.1 74 0) c_)
def xr (md_ : Bool) (o_ : List (Int × Nat)) (g_ c_ : List Int) (S_ : sm_S) : Prop := xs md_ o_ g_ c_ S_ ∧ S_.1 7 0 17 = (o_mk o_ : Int)
theorem xs_n {md_ : Bool} {o_ : List (Int × Nat)} {g_ c_ : List Int} {S_ : sm_S} (x_ : xs md_ o_ g_ c_ S_) (h_ : S_.2.1 7 0 11 = none) : md_ = false := x_.2.2.2.2.2.1.mp h_
theorem xs_s {md_ : Bool} {o_ : List (Int × Nat)} {g_ c_ : List Int} {S_ : sm_S} {j_ : Nat} (x_ : xs md_ o_ g_ c_ S_) (h_ : S_.2.1 7 0 11 = some j_) : md_ = true := by
  cases md_ with
  | true => rfl
  | false =>
    have := x_.2.2.2.2.2.1.mpr rfl
    rw [h_] at this
    cases this
theorem xs_tp {md_ : Bool} {o_ : List (Int × Nat)} {g_ c_ : List Int} {S_ : sm_S} (x_ : xs md_ o_ g_ c_ S_) (h_ : 0 < S_.1 7 0 14) : S_.2.2.1 82 0 (S_.1 7 0 14 - 1).toNat = o_tp o_ := by
  cases o_ with
  | nil => exfalso; have := x_.1; simp only [List.length_nil] at this; omega
  | cons y_ o_ =>
    have h1_ := x_.1
    have h2_ := x_.2.2.1.1
    simp only [List.length_cons, List.length_map] at h1_ h2_
    rw [show (S_.1 7 0 14 - 1).toNat = o_.length by omega]
    exact h2_
theorem xs_t0 {md_ : Bool} {o_ : List (Int × Nat)} {g_ c_ : List Int} {S_ : sm_S} (x_ : xs md_ o_ g_ c_ S_) (h_ : ¬ 0 < S_.1 7 0 14) : o_tp o_ = 0 := by
  cases o_ with
  | nil => rfl
  | cons y_ o_ => exfalso; have := x_.1; simp only [List.length_cons] at this; omega
theorem o_tp_c {o_ : List (Int × Nat)} (h_ : o_tp o_ ≠ 0) : ∃ k_ q_ u_, o_ = (k_, q_) :: u_ ∧ o_tp o_ = k_ := by
  cases o_ with
  | nil => exact absurd rfl h_
  | cons y_ o_ => exact ⟨y_.1, y_.2, o_, rfl, rfl⟩
theorem p_se_st {md_ : Bool} {ls_ : Int} {o_ : List (Int × Nat)} {g_ c_ : List Int} (h_ : o_tp o_ < ls_) : p_se md_ ls_ o_ g_ c_ = .inr (o_, g_, c_) := by
  cases o_ with
  | nil => unfold p_se; rfl
  | cons y_ o_ =>
    obtain ⟨k_, q_⟩ := y_
    have h_ : k_ < ls_ := h_
    cases g_ with
    | nil => unfold p_se; rfl
    | cons x_ g_ =>
      cases g_ with
      | nil => unfold p_se; rfl
      | cons y_ g_ => rw [p_se, if_neg (by omega)]
theorem p_se_t {md_ : Bool} {ls_ k_ a_ b_ : Int} {q_ : Nat} {o_ : List (Int × Nat)} {g_ c_ : List Int} (hm_ : md_ = true) (h_ : ls_ ≤ k_) : p_se md_ ls_ ((k_, q_) :: o_) (b_ :: a_ :: g_) c_ = p_se md_ ls_ o_ (p_lo k_ a_ b_ :: g_) c_ := by
  rw [p_se, if_pos h_]
  unfold p_ap
  rw [if_pos hm_]
  rfl
theorem p_se_f {md_ : Bool} {ls_ k_ a_ b_ : Int} {q_ : Nat} {o_ : List (Int × Nat)} {g_ c_ : List Int} (hm_ : md_ = false) (h_ : ls_ ≤ k_) (e_ : a_ = b_) : p_se md_ ls_ ((k_, q_) :: o_) (b_ :: a_ :: g_) c_ = p_se md_ ls_ o_ ((if k_ = 4 then 1 else a_) :: g_) (k_ :: c_) := by
  rw [p_se, if_pos h_]
  unfold p_ap
  rw [if_neg (by rw [hm_]; decide), if_pos e_]
  rfl
theorem p_se_e {md_ : Bool} {ls_ k_ a_ b_ : Int} {q_ : Nat} {o_ : List (Int × Nat)} {g_ c_ : List Int} (hm_ : md_ = false) (h_ : ls_ ≤ k_) (e_ : a_ ≠ b_) : p_se md_ ls_ ((k_, q_) :: o_) (b_ :: a_ :: g_) c_ = .inl (13, q_) := by
  rw [p_se, if_pos h_]
  unfold p_ap
  rw [if_neg (by rw [hm_]; decide), if_neg e_]
  rfl
theorem cw_0 (k_ : Int) : cw k_ 0 0 = k_ := by
  unfold cw
  omega
theorem ct_fr {w_ : sx_Wl} {S_ S'_ : sm_S} {b_ : Nat → Int} {n_ p_ : Nat} (h_ : ct b_ n_ p_ S_) (f_ : ai_fr (sx_W w_) S_ S'_) (h0_ : (sx_W w_).2.1 98 = false) (h1_ : (sx_W w_).1 10 1 = false) (h2_ : (sx_W w_).1 10 2 = false) (h3_ : (sx_W w_).1 10 3 = false) (h4_ : (sx_W w_).1 10 4 = false) (h5_ : (sx_W w_).1 10 5 = false) (h8_ : (sx_W w_).1 10 8 = false) : ct b_ n_ p_ S'_ := by
  unfold ct at h_ ⊢
  rw [fr_arr f_ h0_, f_.1 10 0 1 h1_, f_.1 10 0 2 h2_, f_.1 10 0 3 h3_, f_.1 10 0 4 h4_, f_.1 10 0 5 h5_, f_.1 10 0 8 h8_]
  exact h_
theorem xs_fr {w_ : sx_Wl} {S_ S'_ : sm_S} {md_ : Bool} {o_ : List (Int × Nat)} {g_ c_ : List Int} (x_ : xs md_ o_ g_ c_ S_) (f_ : ai_fr (sx_W w_) S_ S'_) (h0_ : (sx_W w_).1 7 14 = false) (h1_ : (sx_W w_).1 7 16 = false) (h3_ : (sx_W w_).1 7 2 = false) (h4_ : (sx_W w_).2.1 82 = false) (h5_ : (sx_W w_).2.1 83 = false) (h6_ : (sx_W w_).2.1 84 = false) (h7_ : (sx_W w_).2.1 74 = false) (h8_ : (sx_W w_).2.2 7 11 = false) : xs md_ o_ g_ c_ S'_ := by
  unfold xs at x_ ⊢
  rw [f_.1 7 0 14 h0_, f_.1 7 0 16 h1_, f_.1 7 0 2 h3_, fr_arr f_ h4_, fr_arr f_ h5_, fr_arr f_ h6_, fr_arr f_ h7_, f_.2.1 7 0 11 h8_]
  exact x_
theorem xr_fr {w_ : sx_Wl} {S_ S'_ : sm_S} {md_ : Bool} {o_ : List (Int × Nat)} {g_ c_ : List Int} (x_ : xr md_ o_ g_ c_ S_) (f_ : ai_fr (sx_W w_) S_ S'_) (h0_ : (sx_W w_).1 7 14 = false) (h1_ : (sx_W w_).1 7 16 = false) (h2_ : (sx_W w_).1 7 17 = false) (h3_ : (sx_W w_).1 7 2 = false) (h4_ : (sx_W w_).2.1 82 = false) (h5_ : (sx_W w_).2.1 83 = false) (h6_ : (sx_W w_).2.1 84 = false) (h7_ : (sx_W w_).2.1 74 = false) (h8_ : (sx_W w_).2.2 7 11 = false) : xr md_ o_ g_ c_ S'_ :=
  ⟨xs_fr x_.1 f_ h0_ h1_ h3_ h4_ h5_ h6_ h7_ h8_, (f_.1 7 0 17 h2_).trans x_.2⟩
/-- a_ place where a_ name stands -/
def nmp (b_ : Nat → Int) (n_ p_ : Nat) : Prop := p_ ≤ n_ ∧ lx_kd b_ n_ p_ = 1
theorem nmp_sz {b_ : Nat → Int} {n_ p_ : Nat} (h_ : nmp b_ n_ p_) : lx_sz b_ n_ p_ ≤ 12 ∧ p_ + lx_sz b_ n_ p_ ≤ n_ := by
  obtain ⟨h1_, h2_⟩ := h_
  unfold lx_kd at h2_
  unfold lx_sz
  have h3_ := lx_ne_le (b := b_) h1_
  have h4_ := lx_de_le (b := b_) h1_
  by_cases g_ : n_ ≤ p_
  · rw [if_pos g_] at h2_; omega
  · rw [if_neg g_] at h2_ ⊢
    by_cases g1_ : lx_l (b_ p_)
    · rw [if_pos g1_] at h2_ ⊢
      split at h2_ <;> omega
    · rw [if_neg g1_] at h2_ ⊢
      by_cases g2_ : lx_g (b_ p_)
      · rw [if_pos g2_] at h2_
        split at h2_ <;> omega
      · rw [if_neg g2_]
        omega
/-- the_ names of_ a_ row_ -/
def nmr (b_ : Nat → Int) (n_ m_ K_ : Nat) (f_ : Nat → Nat) (S_ : sm_S) : Prop := S_.2.2.1 77 0 m_ = (K_ : Int) ∧ K_ ≤ 40 ∧ m_ ≤ 15 ∧ ∀ s_, s_ < K_ → S_.2.2.1 78 0 (40 * m_ + s_) = (16 * f_ s_ + lx_sz b_ n_ (f_ s_) : Nat) ∧ nmp b_ n_ (f_ s_)
theorem nmr_fr {w_ : sx_Wl} {S_ S'_ : sm_S} {b_ : Nat → Int} {n_ m_ K_ : Nat} {f_ : Nat → Nat} (x_ : nmr b_ n_ m_ K_ f_ S_) (g_ : ai_fr (sx_W w_) S_ S'_) (h0_ : (sx_W w_).2.1 77 = false) (h1_ : (sx_W w_).2.1 78 = false) : nmr b_ n_ m_ K_ f_ S'_ := by
  unfold nmr at x_ ⊢
  rw [fr_arr g_ h0_, fr_arr g_ h1_]
  exact x_
/-! modules: counts of_ names, their places, sorts, widths, details -/
abbrev pA : Type := (Nat → Nat) × (Nat → Nat) × (Nat → Int) × (Nat → Int) × (Nat → Int)
/-- what holds of_ modules that are_ told -/
def a_ok (b_ : Nat → Int) (n_ : Nat) (A_ : pA) (M_ : Nat) : Prop := M_ ≤ 15 ∧ ∀ m_, m_ ≤ M_ → A_.1 m_ ≤ 40 ∧ ∀ s_, s_ < A_.1 m_ → nmp b_ n_ (A_.2.1 (40 * m_ + s_)) ∧ (0 ≤ A_.2.2.1 (40 * m_ + s_) ∧ A_.2.2.1 (40 * m_ + s_) ≤ 5) ∧ (0 ≤ A_.2.2.2.1 (40 * m_ + s_) ∧ A_.2.2.2.1 (40 * m_ + s_) ≤ 8) ∧ (A_.2.2.1 (40 * m_ + s_) ≠ 5 → 1 ≤ A_.2.2.2.1 (40 * m_ + s_)) ∧ (A_.2.2.1 (40 * m_ + s_) = 5 → 0 ≤ A_.2.2.2.2 (40 * m_ + s_) ∧ A_.2.2.2.2 (40 * m_ + s_) < m_) ∧ (0 ≤ A_.2.2.2.2 (40 * m_ + s_) ∧ A_.2.2.2.2 (40 * m_ + s_) ≤ 255)
def er1 (b_ : Nat → Int) (n_ : Nat) (A_ : pA) (m_ : Nat) (S_ : sm_S) : Prop := S_.2.2.1 77 0 m_ = (A_.1 m_ : Int) ∧ ∀ s_, s_ < A_.1 m_ → S_.2.2.1 78 0 (40 * m_ + s_) = (16 * A_.2.1 (40 * m_ + s_) + lx_sz b_ n_ (A_.2.1 (40 * m_ + s_)) : Nat) ∧ S_.2.2.1 79 0 (40 * m_ + s_) = A_.2.2.1 (40 * m_ + s_) ∧ S_.2.2.1 80 0 (40 * m_ + s_) = A_.2.2.2.1 (40 * m_ + s_) ∧ S_.2.2.1 81 0 (40 * m_ + s_) = A_.2.2.2.2 (40 * m_ + s_)
def er (b_ : Nat → Int) (n_ : Nat) (A_ : pA) (M_ : Nat) (S_ : sm_S) : Prop := S_.1 7 0 3 = (M_ : Int) ∧ a_ok b_ n_ A_ M_ ∧ ∀ m_, m_ ≤ M_ → er1 b_ n_ A_ m_ S_
theorem er_nmr {b_ : Nat → Int} {n_ M_ m_ : Nat} {A_ : pA} {S_ : sm_S} (h_ : er b_ n_ A_ M_ S_) (hm_ : m_ ≤ M_) : nmr b_ n_ m_ (A_.1 m_) (fun s_ => A_.2.1 (40 * m_ + s_)) S_ := by
  have h1_ := h_.2.1.2 m_ hm_
  have h2_ := h_.2.2 m_ hm_
  refine ⟨h2_.1, h1_.1, by have := h_.2.1.1; omega, fun s_ hs_ => ⟨(h2_.2 s_ hs_).1, (h1_.2 s_ hs_).1⟩⟩
theorem er_fr {w_ : sx_Wl} {S_ S'_ : sm_S} {b_ : Nat → Int} {n_ M_ : Nat} {A_ : pA} (x_ : er b_ n_ A_ M_ S_) (g_ : ai_fr (sx_W w_) S_ S'_) (h0_ : (sx_W w_).2.1 77 = false) (h1_ : (sx_W w_).2.1 78 = false) (h2_ : (sx_W w_).2.1 79 = false) (h3_ : (sx_W w_).2.1 80 = false) (h4_ : (sx_W w_).2.1 81 = false) (h5_ : (sx_W w_).1 7 3 = false) : er b_ n_ A_ M_ S'_ := by
  refine ⟨(g_.1 7 0 3 h5_).trans x_.1, x_.2.1, fun m_ hm_ => ?_⟩
  have y_ := x_.2.2 m_ hm_
  unfold er1 at y_ ⊢
  rw [fr_arr g_ h0_, fr_arr g_ h1_, fr_arr g_ h2_, fr_arr g_ h3_, fr_arr g_ h4_]
  exact y_
/-! what stands between operators -/
def p_nu (b_ : Nat → Int) (n_ : Nat) (lo_ hi_ : Int) (p_ : Nat) : pE Int := if lx_kd b_ n_ p_ = 2 then (if lx_vl b_ n_ p_ < lo_ ∨ hi_ < lx_vl b_ n_ p_ then .inl (12, p_) else .inr (lx_vl b_ n_ p_)) else .inl (2, p_)
def p_co (b_ : Nat → Int) (n_ p_ : Nat) : pE (Nat × Int × List Int) := pb (p_ad b_ n_ p_) fun q_ => if lx_kd b_ n_ q_ = 64 then pb (p_ad b_ n_ q_) fun r_ => pb (p_nu b_ n_ 1 8 r_) fun w_ => pb (p_ad b_ n_ r_) fun u_ => if lx_vl b_ n_ p_ / 2 ^ w_.toNat = 0 then .inr (u_, w_, [cw 8 w_ (lx_vl b_ n_ p_)]) else .inl (12, p_) else .inl (2, q_)
def p_bi (b_ : Nat → Int) (n_ : Nat) (wd_ : Int) (l_ : List Int) (p_ : Nat) : pE (Nat × Int × List Int) := pb (p_nu b_ n_ 0 (wd_ - 1) p_) fun v_ => pb (p_ad b_ n_ p_) fun q_ => .inr (q_, 1, cw 11 v_ 0 :: l_)
def p_fn (b_ : Nat → Int) (n_ : Nat) (A_ : pA) (m_ p_ : Nat) : Int := p_fd (fun s_ => nm_q b_ n_ (A_.2.1 (40 * m_ + s_)) p_) (A_.1 m_)
def p_pa (b_ : Nat → Int) (n_ : Nat) (A_ : pA) (s_ : Int) (d_ p_ : Nat) : pE (Nat × Int × List Int) :=
  if p_fn b_ n_ A_ d_ p_ = -1 ∨ A_.2.2.1 (40 * d_ + (p_fn b_ n_ A_ d_ p_).toNat) ≠ 1 then .inl (11, p_)
  else pb (p_ad b_ n_ p_) fun q_ => if lx_kd b_ n_ q_ = 46 then pb (p_ad b_ n_ q_) fun r_ => p_bi b_ n_ (A_.2.2.2.1 (40 * d_ + (p_fn b_ n_ A_ d_ p_).toNat)) [cw 10 s_ (p_fn b_ n_ A_ d_ p_)] r_
    else .inr (q_, A_.2.2.2.1 (40 * d_ + (p_fn b_ n_ A_ d_ p_).toNat), [cw 10 s_ (p_fn b_ n_ A_ d_ p_)])
def p_na (b_ : Nat → Int) (n_ : Nat) (A_ : pA) (M_ p_ : Nat) : pE (Nat × Int × List Int) :=
  if p_fn b_ n_ A_ M_ p_ = -1 then .inl (11, p_)
  else pb (p_ad b_ n_ p_) fun q_ => if lx_kd b_ n_ q_ = 46 then pb (p_ad b_ n_ q_) fun r_ =>
      if lx_kd b_ n_ r_ = 1 then (if A_.2.2.1 (40 * M_ + (p_fn b_ n_ A_ M_ p_).toNat) = 5 then p_pa b_ n_ A_ (p_fn b_ n_ A_ M_ p_) (A_.2.2.2.2 (40 * M_ + (p_fn b_ n_ A_ M_ p_).toNat)).toNat r_ else .inl (11, p_))
      else if lx_kd b_ n_ r_ = 2 then (if A_.2.2.1 (40 * M_ + (p_fn b_ n_ A_ M_ p_).toNat) = 5 then .inl (11, p_) else p_bi b_ n_ (A_.2.2.2.1 (40 * M_ + (p_fn b_ n_ A_ M_ p_).toNat)) [cw 9 (p_fn b_ n_ A_ M_ p_) 0] r_)
      else .inl (2, r_)
    else if A_.2.2.1 (40 * M_ + (p_fn b_ n_ A_ M_ p_).toNat) = 5 then .inl (11, p_) else .inr (q_, A_.2.2.2.1 (40 * M_ + (p_fn b_ n_ A_ M_ p_).toNat), [cw 9 (p_fn b_ n_ A_ M_ p_) 0])
def p_pd (b_ : Nat → Int) (n_ : Nat) (A_ : pA) (M_ : Nat) : pPr := fun p_ => if lx_kd b_ n_ p_ = 2 then p_co b_ n_ p_ else if lx_kd b_ n_ p_ = 1 then p_na b_ n_ A_ M_ p_ else .inl (2, p_)
def p_pl (b_ : Nat → Int) (n_ K_ : Nat) (f_ : Nat → Nat) : pPr := fun p_ => if lx_kd b_ n_ p_ = 1 then (if p_fd (fun s_ => nm_q b_ n_ (f_ s_) p_) K_ = -1 then .inl (11, p_) else pb (p_ad b_ n_ p_) fun q_ => .inr (q_, if p_fd (fun s_ => nm_q b_ n_ (f_ s_) p_) K_ = 0 then 170 else if p_fd (fun s_ => nm_q b_ n_ (f_ s_) p_) K_ = 1 then 204 else 240, [])) else .inl (2, p_)
theorem pb_inr {α β : Type} {x_ : pE α} {f_ : α → pE β} {r_ : β} (h_ : pb x_ f_ = .inr r_) : ∃ a_, x_ = .inr a_ ∧ f_ a_ = .inr r_ := by
  cases x_ with
  | inl e_ => cases h_
  | inr a_ => exact ⟨a_, rfl, h_⟩
theorem p_nu_ok {b_ : Nat → Int} {n_ p_ : Nat} {lo_ hi_ v_ : Int} (h_ : p_nu b_ n_ lo_ hi_ p_ = .inr v_) : lx_kd b_ n_ p_ = 2 ∧ v_ = lx_vl b_ n_ p_ ∧ lo_ ≤ v_ ∧ v_ ≤ hi_ := by
  unfold p_nu at h_
  split at h_
  · rename_i g_
    split at h_
    · cases h_
    · cases h_
      exact ⟨g_, rfl, by omega, by omega⟩
  · cases h_
theorem p_bi_ok {b_ : Nat → Int} {n_ p_ : Nat} {wd_ : Int} {l_ : List Int} {r_ : Nat × Int × List Int} (hp_ : p_ ≤ n_) (h_ : p_bi b_ n_ wd_ l_ p_ = .inr r_) : p_ < r_.1 ∧ r_.1 ≤ n_ ∧ lx_kd b_ n_ r_.1 ≠ -1 ∧ r_.2.1 = 1 ∧ r_.2.2.length = l_.length + 1 := by
  obtain ⟨v_, h1_, h_⟩ := pb_inr h_
  obtain ⟨q_, h2_, h_⟩ := pb_inr h_
  cases h_
  have h3_ := p_nu_ok h1_
  have h4_ := p_ad_ok hp_ (by omega) h2_
  exact ⟨h4_.2.1, h4_.2.2.1, h4_.2.2.2, rfl, rfl⟩
theorem p_co_ok {b_ : Nat → Int} {n_ p_ : Nat} {r_ : Nat × Int × List Int} (hp_ : p_ ≤ n_) (hk_ : lx_kd b_ n_ p_ = 2) (h_ : p_co b_ n_ p_ = .inr r_) : p_ < r_.1 ∧ r_.1 ≤ n_ ∧ lx_kd b_ n_ r_.1 ≠ -1 ∧ (0 ≤ r_.2.1 ∧ r_.2.1 ≤ 255) ∧ r_.2.2.length ≤ 3 * (r_.1 - p_) := by
  obtain ⟨q_, h1_, h_⟩ := pb_inr h_
  have k1_ := p_ad_ok hp_ (by omega) h1_
  split at h_
  · rename_i g_
    obtain ⟨u_, h2_, h_⟩ := pb_inr h_
    have k2_ := p_ad_ok k1_.2.2.1 (by omega) h2_
    obtain ⟨w_, h3_, h_⟩ := pb_inr h_
    have k3_ := p_nu_ok h3_
    obtain ⟨v_, h4_, h_⟩ := pb_inr h_
    have k4_ := p_ad_ok k2_.2.2.1 (by omega) h4_
    split at h_
    · cases h_
      refine ⟨by show p_ < v_; omega, k4_.2.2.1, k4_.2.2.2, by show 0 ≤ w_ ∧ w_ ≤ 255; omega, by show 1 ≤ 3 * (v_ - p_); omega⟩
    · cases h_
  · cases h_
theorem p_fn_b {b_ : Nat → Int} {n_ : Nat} {A_ : pA} {m_ p_ : Nat} (h_ : p_fn b_ n_ A_ m_ p_ ≠ -1) : ∃ s_ : Nat, p_fn b_ n_ A_ m_ p_ = (s_ : Int) ∧ s_ < A_.1 m_ ∧ (p_fn b_ n_ A_ m_ p_).toNat = s_ ∧ nm_q b_ n_ (A_.2.1 (40 * m_ + s_)) p_ = true := by
  have h1_ := p_fd_b (f_ := fun s_ => nm_q b_ n_ (A_.2.1 (40 * m_ + s_)) p_) (A_.1 m_)
  have h2_ : p_fn b_ n_ A_ m_ p_ = p_fd (fun s_ => nm_q b_ n_ (A_.2.1 (40 * m_ + s_)) p_) (A_.1 m_) := rfl
  obtain ⟨s_, hs_⟩ : ∃ s_ : Nat, p_fn b_ n_ A_ m_ p_ = (s_ : Int) := ⟨(p_fn b_ n_ A_ m_ p_).toNat, by omega⟩
  have h3_ := p_fd_f (h2_.symm.trans hs_)
  exact ⟨s_, hs_, h3_.2, by omega, h3_.1⟩
theorem p_na_ok {b_ : Nat → Int} {n_ M_ p_ : Nat} {A_ : pA} {r_ : Nat × Int × List Int} (hA_ : a_ok b_ n_ A_ M_) (hp_ : p_ ≤ n_) (hk_ : lx_kd b_ n_ p_ = 1) (h_ : p_na b_ n_ A_ M_ p_ = .inr r_) : p_ < r_.1 ∧ r_.1 ≤ n_ ∧ lx_kd b_ n_ r_.1 ≠ -1 ∧ (0 ≤ r_.2.1 ∧ r_.2.1 ≤ 255) ∧ r_.2.2.length ≤ 3 * (r_.1 - p_) := by
  unfold p_na at h_
  split at h_
  · cases h_
  · rename_i g_
    obtain ⟨s_, e1_, e2_, e3_, -⟩ := p_fn_b g_
    have w1_ := (hA_.2 M_ (Nat.le_refl _)).2 s_ e2_
    rw [e3_] at h_
    obtain ⟨q_, h1_, h_⟩ := pb_inr h_
    have k1_ := p_ad_ok hp_ (by omega) h1_
    split at h_
    · rename_i g1_
      obtain ⟨u_, h2_, h_⟩ := pb_inr h_
      have k2_ := p_ad_ok k1_.2.2.1 (by omega) h2_
      split at h_
      · rename_i g2_
        split at h_
        · rename_i g3_
          unfold p_pa at h_
          split at h_
          · cases h_
          · rename_i g4_
            generalize hd_ : (A_.2.2.2.2 (40 * M_ + s_)).toNat = d_ at h_ g4_
            have hdM_ : d_ < M_ := by have := w1_.2.2.2.2.1 g3_; omega
            obtain ⟨s'_, f1_, f2_, f3_, -⟩ := p_fn_b (fun z_ => g4_ (Or.inl z_))
            have w2_ := (hA_.2 d_ (by omega)).2 s'_ f2_
            rw [f3_] at h_
            obtain ⟨v_, h3_, h_⟩ := pb_inr h_
            have k3_ := p_ad_ok k2_.2.2.1 (by omega) h3_
            split at h_
            · rename_i g5_
              obtain ⟨v1_, h4_, h_⟩ := pb_inr h_
              have k4_ := p_ad_ok k3_.2.2.1 (by omega) h4_
              have k5_ := p_bi_ok k4_.2.2.1 h_
              simp only [List.length_cons, List.length_nil] at k5_
              refine ⟨by omega, k5_.2.1, k5_.2.2.1, by omega, by omega⟩
            · cases h_
              refine ⟨by show p_ < v_; omega, k3_.2.2.1, k3_.2.2.2, ?_, by show 1 ≤ 3 * (v_ - p_); omega⟩
              show 0 ≤ A_.2.2.2.1 (40 * d_ + s'_) ∧ A_.2.2.2.1 (40 * d_ + s'_) ≤ 255
              have := w2_.2.2.1
              omega
        · cases h_
      · split at h_
        · split at h_
          · cases h_
          · have k5_ := p_bi_ok k2_.2.2.1 h_
            simp only [List.length_cons, List.length_nil] at k5_
            refine ⟨by omega, k5_.2.1, k5_.2.2.1, by omega, by omega⟩
        · cases h_
    · split at h_
      · cases h_
      · cases h_
        refine ⟨k1_.2.1, k1_.2.2.1, k1_.2.2.2, ?_, by show 1 ≤ 3 * (q_ - p_); omega⟩
        show 0 ≤ A_.2.2.2.1 (40 * M_ + s_) ∧ A_.2.2.2.1 (40 * M_ + s_) ≤ 255
        have := w1_.2.2.1
        omega
theorem pd_ok {b_ : Nat → Int} {n_ M_ : Nat} {A_ : pA} (hA_ : a_ok b_ n_ A_ M_) : pr_ok b_ n_ (p_pd b_ n_ A_ M_) := by
  intro p_ r_ hp_ hk_ h_
  unfold p_pd at h_
  split at h_
  · rename_i g_
    exact p_co_ok hp_ g_ h_
  · split at h_
    · rename_i g_
      exact p_na_ok hA_ hp_ g_ h_
    · cases h_
theorem pl_ok {b_ : Nat → Int} {n_ K_ : Nat} {f_ : Nat → Nat} : pr_ok b_ n_ (p_pl b_ n_ K_ f_) := by
  intro p_ r_ hp_ hk_ h_
  unfold p_pl at h_
  split at h_
  · rename_i g_
    split at h_
    · cases h_
    · obtain ⟨q_, h1_, h_⟩ := pb_inr h_
      have k1_ := p_ad_ok hp_ (by omega) h1_
      cases h_
      refine ⟨k1_.2.1, k1_.2.2.1, k1_.2.2.2, ?_, Nat.zero_le _⟩
      generalize p_fd (fun s_ => nm_q b_ n_ (f_ s_) p_) K_ = v_
      show 0 ≤ (if v_ = 0 then (170 : Int) else if v_ = 1 then 204 else 240) ∧ (if v_ = 0 then (170 : Int) else if v_ = 1 then 204 else 240) ≤ 255
      split
      · decide
      · split <;> decide
  · cases h_
/-! every expression comes to_ something -/
theorem p_st_lt {b_ : Nat → Int} {n_ : Nat} {md_ : Bool} {pr_ : pPr} {x_ y_ : pX} (hpr_ : pr_ok b_ n_ pr_) (hx_ : x_ok b_ n_ md_ x_) (e_ : p_st b_ n_ md_ pr_ x_ = .inr (.inl y_)) : x_.2.2.1 < y_.2.2.1 := by
  obtain ⟨h0_, h1_, h2_, h3_, h4_⟩ := hx_
  obtain ⟨ph_, t_, p_, o_, h_, c_⟩ := x_
  have adv_ : ∀ {q_ : Nat}, lx_kd b_ n_ p_ ≠ 0 → p_ad b_ n_ p_ = .inr q_ → p_ < q_ := fun k_ z_ => (p_ad_ok h2_ k_ z_).2.1
  have cB3_ : ∀ {s_ : pO}, p_B3 b_ n_ md_ p_ s_ = .inr (.inl y_) → p_ < y_.2.2.1 := by
    intro s_ e_
    obtain ⟨so_, sh_, sc_⟩ := s_
    cases so_ with
    | nil => cases e_
    | cons z_ so_ =>
      obtain ⟨k_, q_⟩ := z_
      have e_ : (if k_ = -3 then (if lx_kd b_ n_ p_ = 58 then pb (p_ad b_ n_ p_) fun r_ => (.inr (.inl (0, false, r_, (-4, q_) :: so_, sh_, sc_)) : pE (pX ⊕ pR)) else .inl (2, p_)) else (if lx_kd b_ n_ p_ = 41 then pb (p_ad b_ n_ p_) fun r_ => .inr (.inl (1, false, r_, so_, (p_ti md_ (decide (k_ = -2)) sh_ sc_).1, (p_ti md_ (decide (k_ = -2)) sh_ sc_).2)) else .inl (2, p_))) = .inr (.inl y_) := e_
      split at e_
      · split at e_
        · obtain ⟨r_, a1_, a2_⟩ := pb_inr e_
          cases a2_
          exact adv_ (by omega) a1_
        · cases e_
      · split at e_
        · obtain ⟨r_, a1_, a2_⟩ := pb_inr e_
          cases a2_
          exact adv_ (by omega) a1_
        · cases e_
  have cB2_ : ∀ {s_ : pO}, p_B2 b_ n_ md_ p_ s_ = .inr (.inl y_) → p_ < y_.2.2.1 := by
    intro s_ e_
    unfold p_B2 at e_
    split at e_
    · rename_i g_
      obtain ⟨u_, a1_, e_⟩ := pb_inr e_
      split at e_
      · cases e_
      · split at e_
        · cases e_
        · obtain ⟨r_, a1_, a2_⟩ := pb_inr e_
          cases a2_
          exact adv_ (by omega) a1_
    · obtain ⟨u_, a1_, e_⟩ := pb_inr e_
      exact cB3_ e_
  unfold p_st at e_
  show p_ < y_.2.2.1
  split at e_
  · unfold p_sA at e_
    split at e_
    · obtain ⟨r_, a1_, a2_⟩ := pb_inr e_
      cases a2_
      rename_i g_
      exact adv_ (by intro z_; have g_ : lx_kd b_ n_ p_ = 33 := g_; omega) a1_
    · split at e_
      · rename_i g_
        split at e_
        · cases e_
        · obtain ⟨r_, a1_, a2_⟩ := pb_inr e_
          cases a2_
          exact adv_ (by intro z_; have g_ : lx_kd b_ n_ p_ = 40 := g_; omega) a1_
      · obtain ⟨r_, a1_, a2_⟩ := pb_inr e_
        cases a2_
        exact (hpr_ p_ r_ h2_ h3_ a1_).1
  · unfold p_sB at e_
    split at e_
    · rename_i g0_ g_
      obtain ⟨u_, a1_, e_⟩ := pb_inr e_
      unfold p_B1 at e_
      split at e_
      · obtain ⟨r_, a1_, a2_⟩ := pb_inr e_
        cases a2_
        refine adv_ ?_ a1_
        intro z_
        have g_ : 0 < p_lv md_ (lx_kd b_ n_ p_) := g_
        rw [z_] at g_
        unfold p_lv at g_
        repeat' split at g_ <;> omega
      · exact cB2_ e_
    · exact cB2_ e_
theorem p_tot {b_ : Nat → Int} {n_ : Nat} {md_ : Bool} {pr_ : pPr} (hn_ : n_ ≤ 1280) (hpr_ : pr_ok b_ n_ pr_) : ∀ (f_ : Nat) (x_ : pX), n_ < x_.2.2.1 + f_ → x_ok b_ n_ md_ x_ → ∃ R_, p_xr b_ n_ md_ pr_ f_ x_ = some R_
  | 0, x_, hf_, hx_ => by
    exfalso
    have := hx_.2.2.1
    omega
  | f_ + 1, x_, hf_, hx_ => by
    cases hs_ : p_st b_ n_ md_ pr_ x_ with
    | inl e_ => exact ⟨.inl e_, by rw [p_xr, hs_]⟩
    | inr z_ =>
      cases z_ with
      | inr r_ => exact ⟨.inr r_, by rw [p_xr, hs_]⟩
      | inl y_ =>
        have h1_ := x_st hn_ hpr_ hx_ hs_
        have h2_ := p_st_lt hpr_ hx_ hs_
        obtain ⟨R_, hR_⟩ := p_tot hn_ hpr_ f_ y_ (by omega) h1_
        exact ⟨R_, by rw [p_xr, hs_]; exact hR_⟩
/-- an_ expression from a_ place on_: where it_ ends, what is_ held, the_ code -/
def p_ex (b_ : Nat → Int) (n_ : Nat) (md_ : Bool) (pr_ : pPr) (c_ : List Int) (p_ : Nat) : pE pR := (p_xr b_ n_ md_ pr_ (n_ + 1) (0, false, p_, [], [], c_)).getD (.inl (0, 0))
theorem x_ok_0 {b_ : Nat → Int} {n_ p_ : Nat} {md_ : Bool} {c_ : List Int} (hp_ : p_ ≤ n_) (hk_ : lx_kd b_ n_ p_ ≠ -1) (hc_ : c_.length ≤ 3 * p_) : x_ok b_ n_ md_ (0, false, p_, [], [], c_) :=
  ⟨Nat.zero_le _, ⟨trivial, Nat.zero_le _, rfl, fun x_ hx_ => by cases hx_⟩, hp_, hk_, by show c_.length + 0 + 0 ≤ 3 * p_; exact hc_⟩
theorem p_ex_x {b_ : Nat → Int} {n_ p_ : Nat} {md_ : Bool} {pr_ : pPr} {c_ : List Int} (hn_ : n_ ≤ 1280) (hpr_ : pr_ok b_ n_ pr_) (hp_ : p_ ≤ n_) (hk_ : lx_kd b_ n_ p_ ≠ -1) (hc_ : c_.length ≤ 3 * p_) : p_xx b_ n_ md_ pr_ (0, false, p_, [], [], c_) (p_ex b_ n_ md_ pr_ c_ p_) := by
  obtain ⟨R_, hR_⟩ := p_tot (md_ := md_) hn_ hpr_ (n_ + 1) (0, false, p_, [], [], c_) (by show n_ < p_ + (n_ + 1); omega) (x_ok_0 hp_ hk_ hc_)
  refine ⟨n_ + 1, ?_⟩
  unfold p_ex
  rw [hR_]
  rfl

