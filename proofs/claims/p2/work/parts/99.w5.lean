/-! steps of the parser; written by wip/p55/gen/vg -/

/-! steps of_ the_ parser, one_ by one_ -/
theorem o_ok_lt {md_ : Bool} {k_ : Int} {q_ : Nat} {o_ : List (Int × Nat)} (h_ : o_ok md_ ((k_, q_) :: o_)) (hk_ : 1 ≤ k_) : o_tp o_ < k_ ∧ k_ ≤ 5 := by
  rcases h_.1 with z_ | z_ | z_ | z_
  · exfalso; have z_ : k_ = -1 := z_; omega
  · exfalso; have z_ : k_ = -2 := z_; omega
  · exfalso
    rcases z_.2 with z_ | z_
    · have z_ : k_ = -3 := z_; omega
    · have z_ : k_ = -4 := z_; omega
  · exact ⟨z_.2.2.2, z_.2.1⟩
theorem p_ad_c {b_ : Nat → Int} {n_ q_ : Nat} {S_ : sm_S} (h_ : ct b_ n_ (lx_k b_ n_ (lx_en b_ n_ q_)) S_) : p_ad b_ n_ q_ = .inr (lx_nx b_ n_ q_) := by
  unfold p_ad
  exact if_neg h_.2.2.2.2.1
theorem p_ad_x {b_ : Nat → Int} {n_ q_ : Nat} (h_ : lx_kd b_ n_ (lx_k b_ n_ (lx_en b_ n_ q_)) = -1) : p_ad b_ n_ q_ = .inl (1, lx_nx b_ n_ q_) := by
  unfold p_ad
  exact if_pos h_
theorem pA_b {b_ : Nat → Int} {n_ : Nat} {md_ t_ : Bool} {pr_ : pPr} {q_ : Nat} {o_ : List (Int × Nat)} {g_ c_ : List Int} (h_ : lx_kd b_ n_ q_ = 33) : p_st b_ n_ md_ pr_ (0, t_, q_, o_, g_, c_) = pb (p_ad b_ n_ q_) fun r_ => .inr (.inl (0, !t_, r_, o_, g_, c_)) := by
  show p_sA b_ n_ md_ pr_ t_ q_ o_ g_ c_ = _
  unfold p_sA
  exact if_pos h_
theorem pA_x {b_ : Nat → Int} {n_ : Nat} {md_ t_ : Bool} {pr_ : pPr} {q_ : Nat} {o_ : List (Int × Nat)} {g_ c_ : List Int} (h_ : lx_kd b_ n_ q_ = 40) (h1_ : o_mk o_ = 60) : p_st b_ n_ md_ pr_ (0, t_, q_, o_, g_, c_) = .inl (3, q_) := by
  show p_sA b_ n_ md_ pr_ t_ q_ o_ g_ c_ = _
  unfold p_sA
  rw [if_neg (by omega), if_pos h_, if_pos h1_]
theorem pA_o {b_ : Nat → Int} {n_ : Nat} {md_ t_ : Bool} {pr_ : pPr} {q_ : Nat} {o_ : List (Int × Nat)} {g_ c_ : List Int} (h_ : lx_kd b_ n_ q_ = 40) (h1_ : o_mk o_ ≠ 60) : p_st b_ n_ md_ pr_ (0, t_, q_, o_, g_, c_) = pb (p_ad b_ n_ q_) fun r_ => .inr (.inl (0, false, r_, (if t_ = true then -2 else -1, q_) :: o_, g_, c_)) := by
  show p_sA b_ n_ md_ pr_ t_ q_ o_ g_ c_ = _
  unfold p_sA
  rw [if_neg (by omega), if_pos h_, if_neg h1_]
theorem pA_p {b_ : Nat → Int} {n_ : Nat} {md_ t_ : Bool} {pr_ : pPr} {q_ : Nat} {o_ : List (Int × Nat)} {g_ c_ : List Int} (h_ : lx_kd b_ n_ q_ ≠ 33) (h1_ : lx_kd b_ n_ q_ ≠ 40) : p_st b_ n_ md_ pr_ (0, t_, q_, o_, g_, c_) = pb (pr_ q_) fun r_ => .inr (.inl (1, false, r_.1, o_, (p_ti md_ t_ (r_.2.1 :: g_) (r_.2.2 ++ c_)).1, (p_ti md_ t_ (r_.2.1 :: g_) (r_.2.2 ++ c_)).2)) := by
  show p_sA b_ n_ md_ pr_ t_ q_ o_ g_ c_ = _
  unfold p_sA
  rw [if_neg h_, if_neg h1_]
theorem pB_l {b_ : Nat → Int} {n_ : Nat} {md_ t_ : Bool} {pr_ : pPr} {q_ : Nat} {o_ : List (Int × Nat)} {g_ c_ : List Int} (h_ : 0 < p_lv md_ (lx_kd b_ n_ q_)) : p_st b_ n_ md_ pr_ (1, t_, q_, o_, g_, c_) = pb (p_se md_ (if p_lv md_ (lx_kd b_ n_ q_) = 4 then 5 else p_lv md_ (lx_kd b_ n_ q_)) o_ g_ c_) (p_B1 b_ n_ md_ q_ (p_lv md_ (lx_kd b_ n_ q_))) := by
  show p_sB b_ n_ md_ q_ o_ g_ c_ = _
  unfold p_sB
  exact if_pos h_
theorem pB_n {b_ : Nat → Int} {n_ : Nat} {md_ t_ : Bool} {pr_ : pPr} {q_ : Nat} {o_ : List (Int × Nat)} {g_ c_ : List Int} (h_ : ¬ 0 < p_lv md_ (lx_kd b_ n_ q_)) : p_st b_ n_ md_ pr_ (1, t_, q_, o_, g_, c_) = p_B2 b_ n_ md_ q_ (o_, g_, c_) := by
  show p_sB b_ n_ md_ q_ o_ g_ c_ = _
  unfold p_sB
  exact if_neg h_
/-- what an_ unfinished step comes to_ -/
theorem p_yo {b_ : Nat → Int} {n_ : Nat} {md_ : Bool} {pr_ : pPr} {x_ : pX} {s_ : pE (pX ⊕ pR)} {R_ : pE pR} (h_ : p_xx b_ n_ md_ pr_ x_ R_) (e_ : p_st b_ n_ md_ pr_ x_ = s_) : p_yy b_ n_ md_ pr_ s_ R_ := by
  rw [← e_]; exact p_xy h_
theorem er_at {b_ : Nat → Int} {n_ M_ s_ : Nat} {A_ : pA} {S_ : sm_S} {i_ : Int} (h_ : er b_ n_ A_ M_ S_) (hs_ : s_ < A_.1 M_) (hi_ : i_.toNat = 40 * M_ + s_) : S_.2.2.1 79 0 i_.toNat = A_.2.2.1 (40 * M_ + s_) ∧ S_.2.2.1 80 0 i_.toNat = A_.2.2.2.1 (40 * M_ + s_) ∧ S_.2.2.1 81 0 i_.toNat = A_.2.2.2.2 (40 * M_ + s_) := by
  have h1_ := (h_.2.2 M_ (Nat.le_refl _)).2 s_ hs_
  rw [hi_]
  exact h1_.2
theorem p_se_le {md_ : Bool} {ls_ : Int} : ∀ (o_ : List (Int × Nat)) (g_ c_ : List Int) (s_ : pO), p_se md_ ls_ o_ g_ c_ = .inr s_ → s_.1.length ≤ o_.length
  | [], g_, c_, s_, e_ => by
    have : p_se md_ ls_ [] g_ c_ = .inr ([], g_, c_) := by unfold p_se; rfl
    rw [this] at e_
    cases e_
    exact Nat.le_refl _
  | (k_, q_) :: o_, [], c_, s_, e_ => by
    have : p_se md_ ls_ ((k_, q_) :: o_) [] c_ = .inr ((k_, q_) :: o_, [], c_) := by unfold p_se; rfl
    rw [this] at e_
    cases e_
    exact Nat.le_refl _
  | (k_, q_) :: o_, [x_], c_, s_, e_ => by
    have : p_se md_ ls_ ((k_, q_) :: o_) [x_] c_ = .inr ((k_, q_) :: o_, [x_], c_) := by unfold p_se; rfl
    rw [this] at e_
    cases e_
    exact Nat.le_refl _
  | (k_, q_) :: o_, b_ :: a_ :: g_, c_, s_, e_ => by
    rw [p_se] at e_
    split at e_
    · cases hp_ : p_ap md_ k_ q_ a_ b_ c_ with
      | inl z_ => rw [hp_] at e_; cases e_
      | inr r_ =>
        rw [hp_] at e_
        have := p_se_le o_ (r_.1 :: g_) r_.2 s_ e_
        simp only [List.length_cons]
        omega
    · cases e_
      exact Nat.le_refl _
theorem p_sa_st {md_ : Bool} {o_ : List (Int × Nat)} {g_ c_ : List Int} (h_ : o_tp o_ < 1) (h1_ : o_tp o_ ≠ -4) : p_sa md_ o_ g_ c_ = .inr (o_, g_, c_) := by
  cases o_ with
  | nil => rfl
  | cons y_ o_ =>
    obtain ⟨k_, q_⟩ := y_
    have h_ : k_ < 1 := h_
    have h1_ : k_ ≠ -4 := h1_
    exact p_sa_n h1_ (by omega)
theorem p_sa_ch {md_ : Bool} {q_ : Nat} {o_ : List (Int × Nat)} {x_ y_ z_ : Int} {g_ c_ : List Int} (h_ : y_ = x_) : p_sa md_ ((-4, q_) :: o_) (x_ :: y_ :: z_ :: g_) c_ = p_sa md_ o_ (y_ :: g_) (7 :: c_) := by
  rw [p_sa_4, show p_ch q_ (x_ :: y_ :: z_ :: g_) c_ = .inr (y_ :: g_, 7 :: c_) from if_pos h_]
  rfl
theorem p_sa_cx {md_ : Bool} {q_ : Nat} {o_ : List (Int × Nat)} {x_ y_ z_ : Int} {g_ c_ : List Int} (h_ : y_ ≠ x_) : p_sa md_ ((-4, q_) :: o_) (x_ :: y_ :: z_ :: g_) c_ = .inl (13, q_) := by
  rw [p_sa_4, show p_ch q_ (x_ :: y_ :: z_ :: g_) c_ = .inl (13, q_) from if_neg h_]
  rfl
theorem o_tp_0 {md_ : Bool} {o_ : List (Int × Nat)} (h_ : o_ok md_ o_) (h0_ : o_tp o_ = 0) : o_ = [] := by
  cases o_ with
  | nil => rfl
  | cons y_ o_ =>
    exfalso
    have h0_ : y_.1 = 0 := h0_
    have h1_ := h_.1
    omega
theorem s_ok_1 {md_ : Bool} {s_ : pO} (h_ : s_ok md_ 1 s_) : ∃ z_ g_, s_.2.1 = z_ :: g_ := by
  have h1_ := h_.2.2.1
  cases hs_ : s_.2.1 with
  | nil => rw [hs_] at h1_; simp only [List.length_nil] at h1_; omega
  | cons z_ g_ => exact ⟨z_, g_, rfl⟩
theorem o_md {md_ : Bool} {q_ : Nat} {o_ : List (Int × Nat)} (h_ : o_ok md_ ((-4, q_) :: o_)) : md_ = false := by
  rcases h_.1 with z_ | z_ | z_ | z_
  · exfalso; have z_ : (-4 : Int) = -1 := z_; omega
  · exfalso; have z_ : (-4 : Int) = -2 := z_; omega
  · exact z_.1
  · exfalso; have z_ : (1 : Int) ≤ -4 := z_.1; omega
theorem pB3_0 {b_ : Nat → Int} {n_ q_ : Nat} {md_ : Bool} {g_ c_ : List Int} : p_B3 b_ n_ md_ q_ ([], g_, c_) = .inr (.inr (q_, g_, c_)) := rfl
theorem pB3_g {b_ : Nat → Int} {n_ q_ t_ : Nat} {md_ : Bool} {k_ : Int} {o_ : List (Int × Nat)} {g_ c_ : List Int} : p_B3 b_ n_ md_ q_ ((k_, t_) :: o_, g_, c_) = if k_ = -3 then (if lx_kd b_ n_ q_ = 58 then pb (p_ad b_ n_ q_) fun r_ => .inr (.inl (0, false, r_, (-4, t_) :: o_, g_, c_)) else .inl (2, q_)) else (if lx_kd b_ n_ q_ = 41 then pb (p_ad b_ n_ q_) fun r_ => .inr (.inl (1, false, r_, o_, (p_ti md_ (decide (k_ = -2)) g_ c_).1, (p_ti md_ (decide (k_ = -2)) g_ c_).2)) else .inl (2, q_)) := rfl
theorem pB3_q {b_ : Nat → Int} {n_ q_ t_ : Nat} {md_ : Bool} {o_ : List (Int × Nat)} {g_ c_ : List Int} : p_B3 b_ n_ md_ q_ ((-3, t_) :: o_, g_, c_) = if lx_kd b_ n_ q_ = 58 then pb (p_ad b_ n_ q_) fun r_ => .inr (.inl (0, false, r_, (-4, t_) :: o_, g_, c_)) else .inl (2, q_) := by
  rw [pB3_g, if_pos rfl]
theorem pB3_c {b_ : Nat → Int} {n_ q_ t_ : Nat} {md_ : Bool} {k_ : Int} {o_ : List (Int × Nat)} {g_ c_ : List Int} (h_ : k_ ≠ -3) : p_B3 b_ n_ md_ q_ ((k_, t_) :: o_, g_, c_) = if lx_kd b_ n_ q_ = 41 then pb (p_ad b_ n_ q_) fun r_ => .inr (.inl (1, false, r_, o_, (p_ti md_ (decide (k_ = -2)) g_ c_).1, (p_ti md_ (decide (k_ = -2)) g_ c_).2)) else .inl (2, q_) := if_neg h_
theorem pB2_n {b_ : Nat → Int} {n_ q_ : Nat} {md_ : Bool} {s_ : pO} (h_ : ¬ (md_ = false ∧ lx_kd b_ n_ q_ = 63)) : p_B2 b_ n_ md_ q_ s_ = pb (p_sa md_ s_.1 s_.2.1 s_.2.2) (p_B3 b_ n_ md_ q_) := if_neg h_
theorem pB2_q {b_ : Nat → Int} {n_ q_ : Nat} {md_ : Bool} {o_ : List (Int × Nat)} {g_ c_ : List Int} {s_ : pO} (h_ : md_ = false ∧ lx_kd b_ n_ q_ = 63) (e_ : p_se md_ 1 o_ g_ c_ = .inr s_) : p_B2 b_ n_ md_ q_ (o_, g_, c_) = if o_mk s_.1 = 60 then .inl (3, q_) else if h_tp s_.2.1 ≠ 1 then .inl (13, q_) else pb (p_ad b_ n_ q_) fun r_ => .inr (.inl (0, false, r_, (-3, q_) :: s_.1, s_.2.1, s_.2.2)) := by
  unfold p_B2
  rw [if_pos h_]
  show pb (p_se md_ 1 o_ g_ c_) _ = _
  rw [e_]
  rfl
theorem pB2_e {b_ : Nat → Int} {n_ q_ : Nat} {md_ : Bool} {o_ : List (Int × Nat)} {g_ c_ : List Int} {z_ : Int × Nat} (h_ : md_ = false ∧ lx_kd b_ n_ q_ = 63) (e_ : p_se md_ 1 o_ g_ c_ = .inl z_) : p_B2 b_ n_ md_ q_ (o_, g_, c_) = .inl z_ := by
  unfold p_B2
  rw [if_pos h_]
  show pb (p_se md_ 1 o_ g_ c_) _ = _
  rw [e_]
  rfl
variable {b_ : Nat → Int} {n_ M_ p_ q_ r_ s_ d_ : Nat} {A_ : pA} {e_ : Int × Nat}
theorem na_0 (h_ : p_fn b_ n_ A_ M_ p_ = -1) : p_na b_ n_ A_ M_ p_ = .inl (11, p_) := by
  unfold p_na; exact if_pos h_
theorem na_1 (h_ : p_fn b_ n_ A_ M_ p_ = (s_ : Int)) (h1_ : p_ad b_ n_ p_ = .inl e_) : p_na b_ n_ A_ M_ p_ = .inl e_ := by
  unfold p_na; rw [if_neg (by omega), h1_]; rfl
theorem na_2 (h_ : p_fn b_ n_ A_ M_ p_ = (s_ : Int)) (h1_ : p_ad b_ n_ p_ = .inr q_) (h2_ : lx_kd b_ n_ q_ ≠ 46) : p_na b_ n_ A_ M_ p_ = if A_.2.2.1 (40 * M_ + s_) = 5 then .inl (11, p_) else .inr (q_, A_.2.2.2.1 (40 * M_ + s_), [cw 9 s_ 0]) := by
  unfold p_na; rw [if_neg (by omega), h1_, h_, Int.toNat_natCast]; exact if_neg h2_
theorem na_3 (h_ : p_fn b_ n_ A_ M_ p_ = (s_ : Int)) (h1_ : p_ad b_ n_ p_ = .inr q_) (h2_ : lx_kd b_ n_ q_ = 46) (h3_ : p_ad b_ n_ q_ = .inl e_) : p_na b_ n_ A_ M_ p_ = .inl e_ := by
  unfold p_na; rw [if_neg (by omega), h1_, h_, Int.toNat_natCast]; show (if _ then _ else _) = _; rw [if_pos h2_, h3_]; rfl
theorem na_4 (h_ : p_fn b_ n_ A_ M_ p_ = (s_ : Int)) (h1_ : p_ad b_ n_ p_ = .inr q_) (h2_ : lx_kd b_ n_ q_ = 46) (h3_ : p_ad b_ n_ q_ = .inr r_) (h4_ : lx_kd b_ n_ r_ = 1) : p_na b_ n_ A_ M_ p_ = if A_.2.2.1 (40 * M_ + s_) = 5 then p_pa b_ n_ A_ s_ (A_.2.2.2.2 (40 * M_ + s_)).toNat r_ else .inl (11, p_) := by
  unfold p_na; rw [if_neg (by omega), h1_, h_, Int.toNat_natCast]; show (if _ then _ else _) = _; rw [if_pos h2_, h3_]; exact if_pos h4_
theorem na_5 (h_ : p_fn b_ n_ A_ M_ p_ = (s_ : Int)) (h1_ : p_ad b_ n_ p_ = .inr q_) (h2_ : lx_kd b_ n_ q_ = 46) (h3_ : p_ad b_ n_ q_ = .inr r_) (h4_ : lx_kd b_ n_ r_ = 2) : p_na b_ n_ A_ M_ p_ = if A_.2.2.1 (40 * M_ + s_) = 5 then .inl (11, p_) else p_bi b_ n_ (A_.2.2.2.1 (40 * M_ + s_)) [cw 9 s_ 0] r_ := by
  unfold p_na; rw [if_neg (by omega), h1_, h_, Int.toNat_natCast]; show (if _ then _ else _) = _; rw [if_pos h2_, h3_]; show (if _ then _ else _) = _; rw [if_neg (by omega)]; exact if_pos h4_
theorem na_6 (h_ : p_fn b_ n_ A_ M_ p_ = (s_ : Int)) (h1_ : p_ad b_ n_ p_ = .inr q_) (h2_ : lx_kd b_ n_ q_ = 46) (h3_ : p_ad b_ n_ q_ = .inr r_) (h4_ : lx_kd b_ n_ r_ ≠ 1) (h5_ : lx_kd b_ n_ r_ ≠ 2) : p_na b_ n_ A_ M_ p_ = .inl (2, r_) := by
  unfold p_na; rw [if_neg (by omega), h1_, h_, Int.toNat_natCast]; show (if _ then _ else _) = _; rw [if_pos h2_, h3_]; show (if _ then _ else _) = _; rw [if_neg h4_]; exact if_neg h5_
theorem pa_1 {s_ : Int} (h_ : p_fn b_ n_ A_ d_ p_ = -1 ∨ A_.2.2.1 (40 * d_ + (p_fn b_ n_ A_ d_ p_).toNat) ≠ 1) : p_pa b_ n_ A_ s_ d_ p_ = .inl (11, p_) := by
  unfold p_pa; exact if_pos h_
theorem pa_2 {s_ : Int} (h_ : ¬ (p_fn b_ n_ A_ d_ p_ = -1 ∨ A_.2.2.1 (40 * d_ + (p_fn b_ n_ A_ d_ p_).toNat) ≠ 1)) (h1_ : p_ad b_ n_ p_ = .inl e_) : p_pa b_ n_ A_ s_ d_ p_ = .inl e_ := by
  unfold p_pa; rw [if_neg h_, h1_]; rfl
theorem pa_3 {s_ : Int} (h_ : ¬ (p_fn b_ n_ A_ d_ p_ = -1 ∨ A_.2.2.1 (40 * d_ + (p_fn b_ n_ A_ d_ p_).toNat) ≠ 1)) (h1_ : p_ad b_ n_ p_ = .inr q_) (h2_ : lx_kd b_ n_ q_ ≠ 46) : p_pa b_ n_ A_ s_ d_ p_ = .inr (q_, A_.2.2.2.1 (40 * d_ + (p_fn b_ n_ A_ d_ p_).toNat), [cw 10 s_ (p_fn b_ n_ A_ d_ p_)]) := by
  unfold p_pa; rw [if_neg h_, h1_]; exact if_neg h2_
theorem pa_4 {s_ : Int} (h_ : ¬ (p_fn b_ n_ A_ d_ p_ = -1 ∨ A_.2.2.1 (40 * d_ + (p_fn b_ n_ A_ d_ p_).toNat) ≠ 1)) (h1_ : p_ad b_ n_ p_ = .inr q_) (h2_ : lx_kd b_ n_ q_ = 46) (h3_ : p_ad b_ n_ q_ = .inl e_) : p_pa b_ n_ A_ s_ d_ p_ = .inl e_ := by
  unfold p_pa; rw [if_neg h_, h1_]; show (if _ then _ else _) = _; rw [if_pos h2_, h3_]; rfl
theorem pa_5 {s_ : Int} (h_ : ¬ (p_fn b_ n_ A_ d_ p_ = -1 ∨ A_.2.2.1 (40 * d_ + (p_fn b_ n_ A_ d_ p_).toNat) ≠ 1)) (h1_ : p_ad b_ n_ p_ = .inr q_) (h2_ : lx_kd b_ n_ q_ = 46) (h3_ : p_ad b_ n_ q_ = .inr r_) : p_pa b_ n_ A_ s_ d_ p_ = p_bi b_ n_ (A_.2.2.2.1 (40 * d_ + (p_fn b_ n_ A_ d_ p_).toNat)) [cw 10 s_ (p_fn b_ n_ A_ d_ p_)] r_ := by
  unfold p_pa; rw [if_neg h_, h1_]; show (if _ then _ else _) = _; rw [if_pos h2_, h3_]; rfl

