/-! the class reader: libraries; written by wip/p55/gen/vg -/

/-! libraries -/
def p_ci (b_ : Nat → Int) (n_ : Nat) : Nat → Nat → (Nat → Nat) → Nat → pE (Nat × (Nat → Nat) × Nat)
  | 0, _, _, _ => .inl (0, 0)
  | u_ + 1, K_, f_, p_ => pb (p_nn b_ n_ K_ f_ 3 p_) fun r_ => if lx_kd b_ n_ r_ = 44 then pb (p_ad b_ n_ r_) fun q_ => p_ci b_ n_ u_ (K_ + 1) (n_up f_ K_ p_) q_ else .inr (K_ + 1, n_up f_ K_ p_, r_)
def p_ms (b_ : Nat → Int) (n_ : Nat) (most : Int) (p_ : Nat) : pE (Nat × Int) := pb (p_nu b_ n_ 1 most p_) fun v_ => pb (p_ad b_ n_ p_) fun q_ => .inr (q_, v_)
def p_tb (K_ : Nat) (v_ : Int) : Int := i_and v_ (2 ^ (2 ^ K_) - 1)
def f_0 : Nat → Nat := fun _ => 0
abbrev pC : Type := Nat × Nat × Int × Int × Int × Nat
def p_ce (b_ : Nat → Int) (n_ K_ : Nat) (f_ : Nat → Nat) (p_ : Nat) : pE pC := pb (p_nd b_ n_ 9 p_) fun q_ => pb (p_nn b_ n_ K_ f_ 12 q_) fun r_ => pb (p_nd b_ n_ 40 r_) fun u_ => pb (p_ci b_ n_ 4 0 f_0 u_) fun i_ => pb (p_nd b_ n_ 41 i_.2.2) fun w_ => pb (p_nd b_ n_ 61 w_) fun x_ => pb (p_ex b_ n_ true (p_pl b_ n_ i_.1 i_.2.1) [] x_) fun y_ => pb (p_nd b_ n_ 44 y_.1) fun a_ => pb (p_ms b_ n_ 1000 a_) fun ar_ => pb (p_nd b_ n_ 44 ar_.1) fun d_ => pb (p_ms b_ n_ 100 d_) fun dl_ => pb (p_nd b_ n_ 59 dl_.1) fun z_ => .inr (q_, i_.1, p_tb i_.1 (h_tp y_.2.1), ar_.2, dl_.2, z_)
abbrev pL : Type := Nat → Int × Int × Int × Int
def l_up (L_ : pL) (K_ : Nat) (c_ : pC) : pL := fun k_ => if k_ = K_ then ((c_.2.1 : Int), c_.2.2.1, c_.2.2.2.1, c_.2.2.2.2.1) else L_ k_
def p_lb (b_ : Nat → Int) (n_ : Nat) : Nat → Nat → (Nat → Nat) → pL → Nat → pE (Nat × pL)
  | 0, _, _, _, _ => .inl (0, 0)
  | u_ + 1, K_, f_, L_, p_ => pb (p_ce b_ n_ K_ f_ p_) fun c_ => if lx_kd b_ n_ c_.2.2.2.2.2 = 0 then .inr (K_ + 1, l_up L_ K_ c_) else p_lb b_ n_ u_ (K_ + 1) (n_up f_ K_ c_.1) (l_up L_ K_ c_) c_.2.2.2.2.2
def p_li (b_ : Nat → Int) (n_ : Nat) : pE (Nat × pL) := if lx_kd b_ n_ (lx_k b_ n_ 0) = -1 then .inl (1, lx_k b_ n_ 0) else p_lb b_ n_ 13 0 f_0 (fun _ => (0, 0, 0, 0)) (lx_k b_ n_ 0)
theorem nmr_up {b_ : Nat → Int} {n_ m_ K_ p_ : Nat} {f_ : Nat → Nat} {S_ S'_ : sm_S} (h_ : nmr b_ n_ m_ K_ f_ S_) (hp_ : nmp b_ n_ p_) (hK_ : K_ < 40) (h0_ : S'_.2.2.1 77 0 m_ = (K_ : Int) + 1) (h1_ : ∀ j_, S'_.2.2.1 78 0 j_ = if j_ = 40 * m_ + K_ then ((16 * p_ + lx_sz b_ n_ p_ : Nat) : Int) else S_.2.2.1 78 0 j_) : nmr b_ n_ m_ (K_ + 1) (n_up f_ K_ p_) S'_ := by
  refine ⟨by rw [h0_]; push_cast; rfl, by omega, h_.2.2.1, fun s_ hs_ => ?_⟩
  rw [h1_]
  unfold n_up
  by_cases e_ : s_ = K_
  · rw [if_pos (by omega), if_pos e_]
    exact ⟨rfl, hp_⟩
  · rw [if_neg (by omega), if_neg e_]
    exact h_.2.2.2 s_ (by omega)
theorem nmr_ot {b_ : Nat → Int} {n_ m_ K_ : Nat} {f_ : Nat → Nat} {S_ S'_ : sm_S} (h_ : nmr b_ n_ m_ K_ f_ S_) (h0_ : S'_.2.2.1 77 0 m_ = S_.2.2.1 77 0 m_) (h1_ : ∀ s_, s_ < K_ → S'_.2.2.1 78 0 (40 * m_ + s_) = S_.2.2.1 78 0 (40 * m_ + s_)) : nmr b_ n_ m_ K_ f_ S'_ := by
  refine ⟨h0_.trans h_.1, h_.2.1, h_.2.2.1, fun s_ hs_ => ?_⟩
  rw [h1_ s_ hs_]
  exact h_.2.2.2 s_ hs_
theorem nn_lt {b_ : Nat → Int} {n_ K_ p_ r_ : Nat} {f_ : Nat → Nat} {w_ : Int} (hp_ : p_ ≤ n_) (h_ : p_nn b_ n_ K_ f_ w_ p_ = .inr r_) : (K_ : Int) ≠ w_ ∧ nmp b_ n_ p_ ∧ p_ < r_ ∧ r_ ≤ n_ ∧ lx_kd b_ n_ r_ ≠ -1 := by
  have k_ := p_nn_ok h_
  have k2_ := p_ad_ok hp_ (by omega) k_.2.2
  exact ⟨k_.1, ⟨hp_, k_.2.1⟩, k2_.2.1, k2_.2.2.1, k2_.2.2.2⟩
theorem ms_x {b_ : Nat → Int} {n_ p_ : Nat} {most : Int} {e_ : Int × Nat} (h_ : p_nu b_ n_ 1 most p_ = .inl e_) : p_ms b_ n_ most p_ = .inl e_ := by
  unfold p_ms
  rw [h_]
  rfl
theorem pb_as3 {α β γ : Type} {z_ : pE α} {f_ : α → pE β} {g_ : β → pE γ} : pb (pb z_ f_) g_ = pb z_ fun a_ => pb (f_ a_) g_ := by cases z_ <;> rfl
theorem sm_up_eq {S_ : sm_S} {t_ i_ k_ : Nat} {y_ : Option Nat} (h_ : True = True) : (sm_pR S_ t_ i_ k_ y_).2.1 t_ i_ k_ = y_ := by
  show (if t_ = t_ ∧ i_ = i_ ∧ k_ = k_ then y_ else S_.2.1 t_ i_ k_) = y_
  rw [if_pos ⟨rfl, rfl, rfl⟩]
theorem i_and_m {x_ y_ : Int} (hx_ : 0 ≤ x_ ∧ x_ ≤ 2047) (hy_ : 0 ≤ y_ ∧ y_ ≤ 255) : 0 ≤ i_and x_ y_ ∧ i_and x_ y_ ≤ 255 := by
  have e3_ : i_and x_ y_ = ((x_.toNat &&& y_.toNat : Nat) : Int) := bt_and_nat hx_.1 (by omega) hy_.1 (by omega)
  have h3_ : (x_.toNat &&& y_.toNat) ≤ y_.toNat := Nat.and_le_right
  rw [e3_]
  omega
theorem pw_tb {K_ : Nat} (h_ : K_ ≤ 3) : i_shl 1 (i_shl 1 (K_ : Int)) = 2 ^ (2 ^ K_) ∧ (0 ≤ i_shl 1 (K_ : Int) ∧ i_shl 1 (K_ : Int) ≤ 8) ∧ (1 : Int) ≤ 2 ^ (2 ^ K_) ∧ (2 : Int) ^ (2 ^ K_) ≤ 256 := by
  have h4_ : K_ = 0 ∨ K_ = 1 ∨ K_ = 2 ∨ K_ = 3 := by omega
  rcases h4_ with e_ | e_ | e_ | e_ <;> (subst e_; decide +kernel)
/-! one_ cell, step by step -/
abbrev pK : Type := pC → pE (Nat × pL)
abbrev pI : Type := Nat × (Nat → Nat) × Nat
def e12 (b_ : Nat → Int) (n_ : Nat) (k_ : pK) (q_ : Nat) (i_ : pI) (tb_ ar_ : Int) (dl_ : Nat × Int) : pE (Nat × pL) := pb (p_nd b_ n_ 59 dl_.1) fun z_ => k_ (q_, i_.1, tb_, ar_, dl_.2, z_)
def e11 (b_ : Nat → Int) (n_ : Nat) (k_ : pK) (q_ : Nat) (i_ : pI) (tb_ ar_ : Int) (d_ : Nat) : pE (Nat × pL) := pb (p_ms b_ n_ 100 d_) fun dl_ => e12 b_ n_ k_ q_ i_ tb_ ar_ dl_
def e10 (b_ : Nat → Int) (n_ : Nat) (k_ : pK) (q_ : Nat) (i_ : pI) (tb_ : Int) (ar_ : Nat × Int) : pE (Nat × pL) := pb (p_nd b_ n_ 44 ar_.1) fun d_ => e11 b_ n_ k_ q_ i_ tb_ ar_.2 d_
def e09 (b_ : Nat → Int) (n_ : Nat) (k_ : pK) (q_ : Nat) (i_ : pI) (tb_ : Int) (a_ : Nat) : pE (Nat × pL) := pb (p_ms b_ n_ 1000 a_) fun ar_ => e10 b_ n_ k_ q_ i_ tb_ ar_
def e08 (b_ : Nat → Int) (n_ : Nat) (k_ : pK) (q_ : Nat) (i_ : pI) (y_ : pR) : pE (Nat × pL) := pb (p_nd b_ n_ 44 y_.1) fun a_ => e09 b_ n_ k_ q_ i_ (p_tb i_.1 (h_tp y_.2.1)) a_
def e07 (b_ : Nat → Int) (n_ : Nat) (k_ : pK) (q_ : Nat) (i_ : pI) (x_ : Nat) : pE (Nat × pL) := pb (p_ex b_ n_ true (p_pl b_ n_ i_.1 i_.2.1) [] x_) fun y_ => e08 b_ n_ k_ q_ i_ y_
def e06 (b_ : Nat → Int) (n_ : Nat) (k_ : pK) (q_ : Nat) (i_ : pI) (w_ : Nat) : pE (Nat × pL) := pb (p_nd b_ n_ 61 w_) fun x_ => e07 b_ n_ k_ q_ i_ x_
def e05 (b_ : Nat → Int) (n_ : Nat) (k_ : pK) (q_ : Nat) (i_ : pI) : pE (Nat × pL) := pb (p_nd b_ n_ 41 i_.2.2) fun w_ => e06 b_ n_ k_ q_ i_ w_
def e04 (b_ : Nat → Int) (n_ : Nat) (k_ : pK) (q_ : Nat) (u_ : Nat) : pE (Nat × pL) := pb (p_ci b_ n_ 4 0 f_0 u_) fun i_ => e05 b_ n_ k_ q_ i_
def e03 (b_ : Nat → Int) (n_ : Nat) (k_ : pK) (q_ : Nat) (r_ : Nat) : pE (Nat × pL) := pb (p_nd b_ n_ 40 r_) fun u_ => e04 b_ n_ k_ q_ u_
def e02 (b_ : Nat → Int) (n_ : Nat) (k_ : pK) (K_ : Nat) (f_ : Nat → Nat) (q_ : Nat) : pE (Nat × pL) := pb (p_nn b_ n_ K_ f_ 12 q_) fun r_ => e03 b_ n_ k_ q_ r_
def e01 (b_ : Nat → Int) (n_ : Nat) (k_ : pK) (K_ : Nat) (f_ : Nat → Nat) (p_ : Nat) : pE (Nat × pL) := pb (p_nd b_ n_ 9 p_) fun q_ => e02 b_ n_ k_ K_ f_ q_
def k_lb (b_ : Nat → Int) (n_ u_ K_ : Nat) (f_ : Nat → Nat) (L_ : pL) : pK := fun c_ => if lx_kd b_ n_ c_.2.2.2.2.2 = 0 then .inr (K_ + 1, l_up L_ K_ c_) else p_lb b_ n_ u_ (K_ + 1) (n_up f_ K_ c_.1) (l_up L_ K_ c_) c_.2.2.2.2.2
theorem ms49 {g_ : Int} {k_ : Nat} (h_ : g_ ≤ 12) (hm_ : (10 * (20 - g_) + 3).toNat < k_ + 1) : (10 * (20 - g_) + 1).toNat < k_ := by omega
theorem ce_k {b_ : Nat → Int} {n_ K_ p_ : Nat} {f_ : Nat → Nat} {k_ : pK} : pb (p_ce b_ n_ K_ f_ p_) k_ = e01 b_ n_ k_ K_ f_ p_ := by
  unfold p_ce e01 e02 e03 e04 e05 e06 e07 e08 e09 e10 e11 e12
  simp only [pb_as3]
  rfl
theorem lb_k {b_ : Nat → Int} {n_ u_ K_ p_ : Nat} {f_ : Nat → Nat} {L_ : pL} : p_lb b_ n_ (u_ + 1) K_ f_ L_ p_ = e01 b_ n_ (k_lb b_ n_ u_ K_ f_ L_) K_ f_ p_ := by
  rw [← ce_k]
  rfl
theorem ci_e2 {b_ : Nat → Int} {n_ q_ u_ : Nat} {k_ : pK} {e_ : Int × Nat} (h_ : (pb (p_ci b_ n_ 4 0 f_0 u_) fun i_ => p_nd b_ n_ 41 i_.2.2) = .inl e_) : e04 b_ n_ k_ q_ u_ = .inl e_ := by
  unfold e04
  cases hP_ : p_ci b_ n_ 4 0 f_0 u_ with
  | inl z_ => rw [hP_] at h_; cases h_; rfl
  | inr a_ =>
    rw [hP_] at h_
    have h1_ : p_nd b_ n_ 41 a_.2.2 = .inl e_ := h_
    show e05 b_ n_ k_ q_ a_ = .inl e_
    unfold e05
    rw [h1_]
    rfl
