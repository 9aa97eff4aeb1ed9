/-! the abstract parser of expressions; written by wip/p55/gen/vg -/

/-! a_ reference that may_ be_ null is_ read -/
theorem sm_T_gr {P_ : sm_P} {d_ mid_ pc_ n0_ a_ t_ e_ i_ : Nat} {z_ : Int} {L_ : sm_L} {r_ : List sm_V} {S_ : sm_S} {Q_ : sm_R → Prop} {o_ : Option Nat} (hx_ : P_.1 mid_ pc_ = some (23, n0_, a_, t_, e_, z_)) (hf_ : (sh_fk t_ e_).1 = 2) (ho_ : S_.2.1 t_ i_ e_ = o_) (kk_ : sm_T P_ d_ mid_ (pc_ + 3, L_, .inr (.inr (o_.map fun j_ => ((sh_fk t_ e_).2.1, j_))) :: r_, S_) Q_) : sm_T P_ d_ mid_ (pc_, L_, .inr (.inr (some (t_, i_))) :: r_, S_) Q_ :=
  sm_T_stp hx_ (Nat.le_of_ble_eq_true rfl) (c1 := (pc_ + 3, L_, .inr (.inr (o_.map fun j_ => ((sh_fk t_ e_).2.1, j_))) :: r_, S_)) (by
    have hu_ : sm_fu S_ t_ i_ e_ = .inr (.inr (o_.map fun j_ => ((sh_fk t_ e_).2.1, j_))) := by
      unfold sm_fu
      rw [hf_]
      show Sum.inr (Sum.inr ((S_.2.1 t_ i_ e_).map _)) = _
      rw [ho_]
    simp only [sm_stp, if_true, hu_]) kk_
/-! names alike; the_ first of_ a_ row_ -/
def nm_q (b_ : Nat → Int) (n_ p_ q_ : Nat) : Bool := decide (lx_sz b_ n_ p_ = lx_sz b_ n_ q_) && (List.range (lx_sz b_ n_ p_)).all fun k_ => decide (b_ (p_ + k_) = b_ (q_ + k_))
theorem nm_q_t {b_ : Nat → Int} {n_ p_ q_ : Nat} : nm_q b_ n_ p_ q_ = true ↔ lx_sz b_ n_ p_ = lx_sz b_ n_ q_ ∧ ∀ k_, k_ < lx_sz b_ n_ p_ → b_ (p_ + k_) = b_ (q_ + k_) := by
  unfold nm_q
  simp only [Bool.and_eq_true, decide_eq_true_eq, List.all_eq_true, List.mem_range]
def p_fd (f_ : Nat → Bool) : Nat → Int
  | 0 => -1
  | k_ + 1 => if p_fd f_ k_ = -1 then (if f_ k_ = true then (k_ : Int) else -1) else p_fd f_ k_
theorem p_fd_b {f_ : Nat → Bool} : ∀ k_, -1 ≤ p_fd f_ k_ ∧ p_fd f_ k_ < k_
  | 0 => (by decide : (-1 : Int) ≤ -1 ∧ (-1 : Int) < ((0 : Nat) : Int))
  | k_ + 1 => by
    have h_ := p_fd_b (f_ := f_) k_
    unfold p_fd
    split
    · split <;> omega
    · omega
theorem p_fd_st {f_ : Nat → Bool} {k_ : Nat} (h_ : p_fd f_ k_ ≠ -1) : ∀ j_, p_fd f_ (k_ + j_) = p_fd f_ k_
  | 0 => rfl
  | j_ + 1 => by
    have e_ := p_fd_st h_ j_
    show p_fd f_ (k_ + j_ + 1) = _
    rw [p_fd, e_, if_neg h_]
theorem p_fd_go {f_ : Nat → Bool} {k_ m_ : Nat} (h_ : p_fd f_ k_ = -1) (hf_ : f_ k_ = true) (hm_ : k_ < m_) : p_fd f_ m_ = (k_ : Int) := by
  have h1_ : p_fd f_ (k_ + 1) = (k_ : Int) := by rw [p_fd, if_pos h_, if_pos hf_]
  have h2_ := p_fd_st (f_ := f_) (k_ := k_ + 1) (by omega) (m_ - (k_ + 1))
  rw [show k_ + 1 + (m_ - (k_ + 1)) = m_ by omega] at h2_
  omega
theorem p_fd_nx {f_ : Nat → Bool} {k_ : Nat} (h_ : p_fd f_ k_ = -1) (hf_ : f_ k_ = false) : p_fd f_ (k_ + 1) = -1 := by
  rw [p_fd, if_pos h_, if_neg (by rw [hf_]; decide)]
theorem p_fd_f {f_ : Nat → Bool} : ∀ {k_ v_ : Nat}, p_fd f_ k_ = (v_ : Int) → f_ v_ = true ∧ v_ < k_
  | 0, v_, h_ => by
    exfalso
    rw [p_fd] at h_
    omega
  | k_ + 1, v_, h_ => by
    rw [p_fd] at h_
    split at h_
    · split at h_
      · rename_i g_
        have : k_ = v_ := by omega
        subst this
        exact ⟨g_, by omega⟩
      · exfalso; omega
    · have := p_fd_f h_
      exact ⟨this.1, by omega⟩
theorem p_fd_no {f_ : Nat → Bool} : ∀ {k_ : Nat}, p_fd f_ k_ = -1 → ∀ j_, j_ < k_ → f_ j_ = false
  | 0, _, j_, hj_ => absurd hj_ (Nat.not_lt_zero _)
  | k_ + 1, h_, j_, hj_ => by
    rw [p_fd] at h_
    split at h_
    · rename_i g_
      split at h_
      · exfalso; omega
      · rename_i g2_
        by_cases e_ : j_ = k_
        · rw [e_]; exact Bool.eq_false_iff.mpr g2_
        · exact p_fd_no g_ j_ (by omega)
    · rename_i g_
      exact absurd h_ g_
theorem p_fd_cg {f_ g_ : Nat → Bool} : ∀ {k_ : Nat}, (∀ j_, j_ < k_ → f_ j_ = g_ j_) → p_fd f_ k_ = p_fd g_ k_
  | 0, _ => rfl
  | k_ + 1, h_ => by
    rw [p_fd, p_fd, p_fd_cg (fun j_ hj_ => h_ j_ (by omega)), h_ k_ (by omega)]
/-! stacks: the_ head is_ on_ top_ -/
def stk (f_ : Nat → Int) : List Int → Prop
  | [] => True
  | a_ :: l_ => f_ l_.length = a_ ∧ stk f_ l_
theorem stk_cg {f_ g_ : Nat → Int} : ∀ {l_ : List Int}, (∀ j_, j_ < l_.length → g_ j_ = f_ j_) → stk f_ l_ → stk g_ l_
  | [], _, _ => trivial
  | a_ :: l_, h_, s_ => ⟨(h_ l_.length (by simp)).trans s_.1, stk_cg (fun j_ hj_ => h_ j_ (by simp only [List.length_cons]; omega)) s_.2⟩
theorem stk_pu {S_ : sm_S} {t_ i_ k_ : Nat} {z_ a_ : Int} {l_ : List Int} (hk_ : k_ = l_.length) (hz_ : z_ = a_) (h_ : stk (S_.2.2.1 t_ i_) l_) : stk ((sm_aI S_ t_ i_ k_ z_).2.2.1 t_ i_) (a_ :: l_) := by
  refine ⟨?_, stk_cg (fun j_ hj_ => ?_) h_⟩
  · rw [rd_eq, if_pos hk_.symm, hz_]
  · rw [rd_eq, if_neg (by omega)]
theorem stk_ot {S_ : sm_S} {t_ i_ k_ t'_ i'_ : Nat} {z_ : Int} {l_ : List Int} (h_ : stk (S_.2.2.1 t'_ i'_) l_) (hn_ : t'_ ≠ t_) : stk ((sm_aI S_ t_ i_ k_ z_).2.2.1 t'_ i'_) l_ :=
  stk_cg (fun j_ _ => rd_ne hn_) h_
theorem stk_fr {w_ : sx_Wl} {S_ S'_ : sm_S} {t_ i_ : Nat} {l_ : List Int} (h_ : ai_fr (sx_W w_) S_ S'_) (hw_ : (sx_W w_).2.1 t_ = false) (s_ : stk (S_.2.2.1 t_ i_) l_) : stk (S'_.2.2.1 t_ i_) l_ := by
  rw [fr_arr h_ hw_]; exact s_
/-! operators: their levels; settling -/
def p_lv (md_ : Bool) (k_ : Int) : Int := if k_ = 124 then 1 else if k_ = 94 then 2 else if k_ = 38 then 3 else if md_ = true then 0 else if k_ = 257 then 4 else if k_ = 43 then 5 else 0
theorem p_lv_b {md_ : Bool} {k_ : Int} : 0 ≤ p_lv md_ k_ ∧ p_lv md_ k_ ≤ 5 ∧ (md_ = true → p_lv md_ k_ ≤ 3) := by
  unfold p_lv
  repeat' split
  all_goals refine ⟨by decide, by decide, ?_⟩
  all_goals intro h_
  all_goals first | decide | (exact absurd h_ (by assumption))
abbrev pO : Type := List (Int × Nat) × List Int × List Int
def p_lo (k_ a_ b_ : Int) : Int := if k_ = 1 then i_or a_ b_ else if k_ = 2 then i_xor a_ b_ else i_and a_ b_
def p_ap (md_ : Bool) (k_ : Int) (q_ : Nat) (a_ b_ : Int) (c_ : List Int) : pE (Int × List Int) := if md_ = true then .inr (p_lo k_ a_ b_, c_) else if a_ = b_ then .inr (if k_ = 4 then 1 else a_, k_ :: c_) else .inl (13, q_)
def p_se (md_ : Bool) (ls_ : Int) : List (Int × Nat) → List Int → List Int → pE pO
  | (k_, q_) :: o_, b_ :: a_ :: h_, c_ => if ls_ ≤ k_ then pb (p_ap md_ k_ q_ a_ b_ c_) fun r_ => p_se md_ ls_ o_ (r_.1 :: h_) r_.2 else .inr ((k_, q_) :: o_, b_ :: a_ :: h_, c_)
  | o_, h_, c_ => .inr (o_, h_, c_)
def p_ch (q_ : Nat) (h_ c_ : List Int) : pE (List Int × List Int) := match h_ with
  | e_ :: a_ :: _ :: h_ => if a_ = e_ then .inr (a_ :: h_, 7 :: c_) else .inl (13, q_)
  | _ => .inl (13, q_)
def p_sa (md_ : Bool) : List (Int × Nat) → List Int → List Int → pE pO
  | [], h_, c_ => .inr ([], h_, c_)
  | (k_, q_) :: o_, h_, c_ => if k_ = -4 then pb (p_ch q_ h_ c_) fun r_ => p_sa md_ o_ r_.1 r_.2 else if 1 ≤ k_ then (match h_ with
      | b_ :: a_ :: h_ => pb (p_ap md_ k_ q_ a_ b_ c_) fun r_ => p_sa md_ o_ (r_.1 :: h_) r_.2
      | h_ => .inr ((k_, q_) :: o_, h_, c_)) else .inr ((k_, q_) :: o_, h_, c_)
def o_tp (o_ : List (Int × Nat)) : Int := match o_ with
  | [] => 0
  | x_ :: _ => x_.1
def h_tp (h_ : List Int) : Int := match h_ with
  | [] => 0
  | x_ :: _ => x_
/-- settling all_ is_ settling to_ the_ lowest level, then all_ -/
theorem p_sa_se {md_ : Bool} {ls_ : Int} (h1_ : 1 ≤ ls_) : ∀ (o_ : List (Int × Nat)) (h_ c_ : List Int), p_sa md_ o_ h_ c_ = pb (p_se md_ ls_ o_ h_ c_) fun s_ => p_sa md_ s_.1 s_.2.1 s_.2.2
  | [], h_, c_ => by
    have : p_se md_ ls_ [] h_ c_ = .inr ([], h_, c_) := by unfold p_se; rfl
    rw [this]; rfl
  | (k_, q_) :: o_, [], c_ => by
    have : p_se md_ ls_ ((k_, q_) :: o_) [] c_ = .inr ((k_, q_) :: o_, [], c_) := by unfold p_se; rfl
    rw [this]; rfl
  | (k_, q_) :: o_, [x_], c_ => by
    have : p_se md_ ls_ ((k_, q_) :: o_) [x_] c_ = .inr ((k_, q_) :: o_, [x_], c_) := by unfold p_se; rfl
    rw [this]; rfl
  | (k_, q_) :: o_, b_ :: a_ :: h_, c_ => by
    rw [p_se]
    by_cases g_ : ls_ ≤ k_
    · rw [if_pos g_, p_sa, if_neg (by omega), if_pos (by omega)]
      show pb (p_ap md_ k_ q_ a_ b_ c_) _ = _
      cases hp_ : p_ap md_ k_ q_ a_ b_ c_ with
      | inl e_ => rfl
      | inr r_ => exact p_sa_se h1_ o_ (r_.1 :: h_) r_.2
    · rw [if_neg g_]; rfl
/-! the_ machine of_ expressions: phase, turned, place, operators, held, code; what is_ open are_ the_ marks among the_ operators -/
def o_mk (o_ : List (Int × Nat)) : Nat := match o_ with
  | [] => 0
  | x_ :: o_ => (if x_.1 < 0 then 1 else 0) + o_mk o_
abbrev pX : Type := Nat × Bool × Nat × List (Int × Nat) × List Int × List Int
abbrev pR : Type := Nat × List Int × List Int
def p_tn (md_ : Bool) (h_ c_ : List Int) : List Int × List Int := if md_ = true then (match h_ with
    | a_ :: l_ => (i_xor a_ 255 :: l_, c_)
    | [] => ([], c_)) else (h_, 6 :: c_)
def p_ti (md_ t_ : Bool) (h_ c_ : List Int) : List Int × List Int := if t_ = true then p_tn md_ h_ c_ else (h_, c_)
abbrev pPr : Type := Nat → pE (Nat × Int × List Int)
def p_sA (b_ : Nat → Int) (n_ : Nat) (md_ : Bool) (pr_ : pPr) (t_ : Bool) (p_ : Nat) (o_ : List (Int × Nat)) (h_ c_ : List Int) : pE (pX ⊕ pR) :=
  if lx_kd b_ n_ p_ = 33 then pb (p_ad b_ n_ p_) fun q_ => .inr (.inl (0, !t_, q_, o_, h_, c_))
  else if lx_kd b_ n_ p_ = 40 then (if o_mk o_ = 60 then .inl (3, p_) else pb (p_ad b_ n_ p_) fun q_ => .inr (.inl (0, false, q_, (if t_ = true then -2 else -1, p_) :: o_, h_, c_)))
  else pb (pr_ p_) fun r_ => .inr (.inl (1, false, r_.1, o_, (p_ti md_ t_ (r_.2.1 :: h_) (r_.2.2 ++ c_)).1, (p_ti md_ t_ (r_.2.1 :: h_) (r_.2.2 ++ c_)).2))
def p_B3 (b_ : Nat → Int) (n_ : Nat) (md_ : Bool) (p_ : Nat) (s_ : pO) : pE (pX ⊕ pR) := match s_.1 with
  | [] => .inr (.inr (p_, s_.2.1, s_.2.2))
  | (k_, q_) :: o_ => if k_ = -3 then (if lx_kd b_ n_ p_ = 58 then pb (p_ad b_ n_ p_) fun r_ => .inr (.inl (0, false, r_, (-4, q_) :: o_, s_.2.1, s_.2.2)) else .inl (2, p_))
    else (if lx_kd b_ n_ p_ = 41 then pb (p_ad b_ n_ p_) fun r_ => .inr (.inl (1, false, r_, o_, (p_ti md_ (decide (k_ = -2)) s_.2.1 s_.2.2).1, (p_ti md_ (decide (k_ = -2)) s_.2.1 s_.2.2).2)) else .inl (2, p_))
def p_B2 (b_ : Nat → Int) (n_ : Nat) (md_ : Bool) (p_ : Nat) (s_ : pO) : pE (pX ⊕ pR) :=
  if md_ = false ∧ lx_kd b_ n_ p_ = 63 then pb (p_se md_ 1 s_.1 s_.2.1 s_.2.2) fun s_ => if o_mk s_.1 = 60 then .inl (3, p_) else if h_tp s_.2.1 ≠ 1 then .inl (13, p_) else pb (p_ad b_ n_ p_) fun q_ => .inr (.inl (0, false, q_, (-3, p_) :: s_.1, s_.2.1, s_.2.2))
  else pb (p_sa md_ s_.1 s_.2.1 s_.2.2) (p_B3 b_ n_ md_ p_)
def p_B1 (b_ : Nat → Int) (n_ : Nat) (md_ : Bool) (p_ : Nat) (lv_ : Int) (s_ : pO) : pE (pX ⊕ pR) :=
  if 0 < lv_ ∧ (lv_ ≠ 4 ∨ o_tp s_.1 ≠ 4) then pb (p_ad b_ n_ p_) fun q_ => .inr (.inl (0, false, q_, (lv_, p_) :: s_.1, s_.2.1, s_.2.2)) else p_B2 b_ n_ md_ p_ s_
def p_sB (b_ : Nat → Int) (n_ : Nat) (md_ : Bool) (p_ : Nat) (o_ : List (Int × Nat)) (h_ c_ : List Int) : pE (pX ⊕ pR) :=
  if 0 < p_lv md_ (lx_kd b_ n_ p_) then pb (p_se md_ (if p_lv md_ (lx_kd b_ n_ p_) = 4 then 5 else p_lv md_ (lx_kd b_ n_ p_)) o_ h_ c_) (p_B1 b_ n_ md_ p_ (p_lv md_ (lx_kd b_ n_ p_))) else p_B2 b_ n_ md_ p_ (o_, h_, c_)
def p_st (b_ : Nat → Int) (n_ : Nat) (md_ : Bool) (pr_ : pPr) (x_ : pX) : pE (pX ⊕ pR) := if x_.1 = 0 then p_sA b_ n_ md_ pr_ x_.2.1 x_.2.2.1 x_.2.2.2.1 x_.2.2.2.2.1 x_.2.2.2.2.2 else p_sB b_ n_ md_ x_.2.2.1 x_.2.2.2.1 x_.2.2.2.2.1 x_.2.2.2.2.2
def p_xr (b_ : Nat → Int) (n_ : Nat) (md_ : Bool) (pr_ : pPr) : Nat → pX → Option (pE pR)
  | 0, _ => none
  | f_ + 1, x_ => match p_st b_ n_ md_ pr_ x_ with
    | .inl e_ => some (.inl e_)
    | .inr (.inr r_) => some (.inr r_)
    | .inr (.inl y_) => p_xr b_ n_ md_ pr_ f_ y_
/-- the_ expression comes to_ R_ -/
def p_xx (b_ : Nat → Int) (n_ : Nat) (md_ : Bool) (pr_ : pPr) (x_ : pX) (R_ : pE pR) : Prop := ∃ f_, p_xr b_ n_ md_ pr_ f_ x_ = some R_
def p_yy (b_ : Nat → Int) (n_ : Nat) (md_ : Bool) (pr_ : pPr) (s_ : pE (pX ⊕ pR)) (R_ : pE pR) : Prop := match s_ with
  | .inl e_ => R_ = .inl e_
  | .inr (.inr r_) => R_ = .inr r_
  | .inr (.inl y_) => p_xx b_ n_ md_ pr_ y_ R_
theorem p_xy {b_ : Nat → Int} {n_ : Nat} {md_ : Bool} {pr_ : pPr} {x_ : pX} {R_ : pE pR} (h_ : p_xx b_ n_ md_ pr_ x_ R_) : p_yy b_ n_ md_ pr_ (p_st b_ n_ md_ pr_ x_) R_ := by
  obtain ⟨f_, h_⟩ := h_
  cases f_ with
  | zero => cases h_
  | succ f_ =>
    rw [p_xr] at h_
    cases hs_ : p_st b_ n_ md_ pr_ x_ with
    | inl e_ => rw [hs_] at h_; exact (Option.some.inj h_).symm
    | inr z_ =>
      cases z_ with
      | inl y_ => rw [hs_] at h_; exact ⟨f_, h_⟩
      | inr r_ => rw [hs_] at h_; exact (Option.some.inj h_).symm

