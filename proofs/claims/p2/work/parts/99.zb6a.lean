/-! the class: stores; written by wip/p55/gen/vg -/

/-! stores -/
/-- the_ beginning takes one_ more bit_ -/
theorem bg_all : ∀ r_ : Fin 6, ∀ x_ : Fin 64, ∀ b_ : Fin 2, (x_ : Nat) < 2 ^ (r_ : Nat) → 0 ≤ i_or ((x_ : Nat) : Int) (i_shl ((b_ : Nat) : Int) ((r_ : Nat) : Int)) ∧ i_or ((x_ : Nat) : Int) (i_shl ((b_ : Nat) : Int) ((r_ : Nat) : Int)) < 2 ^ ((r_ : Nat) + 1) := by decide +kernel
theorem bg_up {x_ b_ : Int} {r_ : Nat} (h0_ : 0 ≤ x_) (h1_ : x_ < 2 ^ r_) (hb_ : 0 ≤ b_ ∧ b_ ≤ 1) (hr_ : r_ ≤ 5) : 0 ≤ i_or x_ (i_shl b_ (r_ : Int)) ∧ i_or x_ (i_shl b_ (r_ : Int)) < 2 ^ (r_ + 1) := by
  obtain ⟨x_, rfl⟩ := Int.eq_ofNat_of_zero_le h0_
  obtain ⟨b_, rfl⟩ := Int.eq_ofNat_of_zero_le hb_.1
  have hx_ : x_ < 2 ^ r_ := by exact_mod_cast h1_
  have h64_ : 2 ^ r_ ≤ 2 ^ 5 := Nat.pow_le_pow_right (by decide) hr_
  exact bg_all ⟨r_, by omega⟩ ⟨x_, by omega⟩ ⟨b_, by omega⟩ hx_
/-- the_ next values are_ literals of_ the_ graph -/
def nxb (dd_ R_ : Nat) (S_ : sm_S) : Prop := ∀ k_, k_ < R_ → 0 ≤ S_.2.2.1 46 (0 + dd_) k_ ∧ S_.2.2.1 46 (0 + dd_) k_ < 2 * S_.1 3 dd_ 4
def cxb (dd_ R_ : Nat) (S_ : sm_S) : Prop := (0 ≤ S_.1 3 dd_ 5 ∧ S_.1 3 dd_ 5 < 2 ^ R_) ∧ nxb dd_ R_ S_
def cxe (dd_ I_ R_ : Nat) (S_ : sm_S) : Prop := S_.1 3 dd_ 1 = (I_ : Int) ∧ cxb dd_ R_ S_
theorem nxb_up {dd_ R_ : Nat} {S_ S'_ : sm_S} (h_ : nxb dd_ R_ S_) (e1_ : S'_.2.2.1 46 (0 + dd_) = S_.2.2.1 46 (0 + dd_)) (e2_ : S_.1 3 dd_ 4 ≤ S'_.1 3 dd_ 4) : nxb dd_ R_ S'_ := fun k_ hk_ => by
  have q_ := h_ k_ hk_
  rw [e1_]
  omega
theorem nxb_cp {dd_ R_ p_ q_ n_ : Nat} {st_ : Nat → Int} {S_ S'_ : sm_S} {x_ : List Int} (h_ : nxb dd_ R_ S_) (e4_ : S'_.1 3 dd_ 4 = S_.1 3 dd_ 4) (e46_ : S'_.2.2.1 46 (0 + dd_) = sm_cp st_ (S_.2.2.1 46 (0 + dd_)) p_ q_ n_) (hx_ : rwv st_ p_ x_) (hn_ : n_ = x_.length) (hl_ : ∀ z_, z_ ∈ x_ → 0 ≤ z_ ∧ z_ < 2 * S_.1 3 dd_ 4) : nxb dd_ R_ S'_ := fun k_ hk_ => by
  rw [e46_, e4_]
  unfold sm_cp
  split
  · rename_i w_
    have l9_ : k_ - q_ < x_.length := by omega
    have e_ := hx_ (k_ - q_) x_[k_ - q_] (List.getElem?_eq_getElem l9_)
    have e2_ := hl_ x_[k_ - q_] (List.getElem_mem l9_)
    first | (rw [e_]; exact e2_) | (rw [show p_ + k_ - q_ = p_ + (k_ - q_) by omega, e_]; exact e2_)
  · exact h_ k_ hk_
theorem cxe_fr {w_ : sx_Wl} {dd_ I_ R_ : Nat} {S_ S'_ : sm_S} (h_ : cxe dd_ I_ R_ S_) (g_ : ai_fr (sx_W w_) S_ S'_) (h1_ : (sx_W w_).1 3 1 = false) (h2_ : (sx_W w_).1 3 5 = false) (h3_ : (sx_W w_).1 3 4 = false) (h4_ : (sx_W w_).2.1 46 = false) : cxe dd_ I_ R_ S'_ := by
  unfold cxe cxb
  rw [g_.1 3 dd_ 1 h1_, g_.1 3 dd_ 5 h2_]
  exact ⟨h_.1, h_.2.1, nxb_up h_.2.2 (fr_arr g_ h4_) (by rw [g_.1 3 dd_ 4 h3_]; exact Int.le_refl _)⟩
theorem cgl_n {dd_ F_ : Nat} {G_ : pGr} {S_ : sm_S} (h_ : cgl dd_ F_ G_ S_) (hl_ : G_.length ≤ 1000) : S_.1 3 dd_ 4 = ((F_ + G_.length : Nat) : Int) := by
  obtain ⟨G1_, x_, y_⟩ := h_
  rcases y_ with y_ | y_
  · rw [← y_.2.1]; exact x_.2.2.2.1
  · omega
/-- the_ state of_ an_ execution in the_ class -/
def cxs (dd_ F_ I_ f_ fc0_ : Nat) (s_ : gS) (S_ : sm_S) : Prop := cgl dd_ F_ s_.1.1 S_ ∧ S_.1 1 0 9 = (s_.1.2.1 : Int) ∧ S_.1 1 0 3 = (s_.1.2.2 : Int) ∧ s_.1.2.2 ≤ 201 ∧ f_ < fc0_ ∧ fc0_ ≤ s_.1.2.2 ∧ cfr f_ fc0_ s_.1.2.2 s_.2.1 s_.2.2.1 (S_.2.2.1 26 0) ∧ cstk s_.1.1 s_.2.2.2 S_ ∧ cxe dd_ I_ s_.1.2.1 S_
theorem cgl_b {dd_ F_ : Nat} {G_ : pGr} {S_ : sm_S} (h_ : cgl dd_ F_ G_ S_) : (F_ : Int) = 1 + S_.1 3 dd_ 1 + S_.1 3 dd_ 2 ∧ (1 ≤ F_ ∧ F_ ≤ 13) := by
  obtain ⟨G1_, x_, _⟩ := h_
  exact ⟨x_.2.1, x_.2.2.1⟩
def fun_ (f_ fc0_ : Nat) (g_ h_ : Nat → Int) : Prop := ∀ j_, j_ < 8 * (40 * fc0_) → j_ < 8 * (40 * f_) ∨ 8 * (40 * f_) + 320 ≤ j_ → h_ j_ = g_ j_
theorem cfr_cg {f_ fc0_ fc_ : Nat} {E_ : gE} {O_ : gO} {g_ h_ : Nat → Int} (x_ : cfr f_ fc0_ fc_ E_ O_ g_) (e_ : ∀ j_, h_ j_ = g_ j_) : cfr f_ fc0_ fc_ E_ O_ h_ := by
  rw [show h_ = g_ from funext e_]
  exact x_
theorem svl_pop {ok_ : Prop} {st_ wd_ st'_ wd'_ : Nat → Int} {x_ : List Int} {l_ : gV} (h_ : svl ok_ st_ wd_ (x_ :: l_)) (e1_ : ∀ j_, st'_ j_ = st_ j_) (e2_ : ∀ j_, wd'_ j_ = wd_ j_) : svl ok_ st'_ wd'_ l_ := by
  rw [show st'_ = st_ from funext e1_, show wd'_ = wd_ from funext e2_]
  exact h_.2.2.2
