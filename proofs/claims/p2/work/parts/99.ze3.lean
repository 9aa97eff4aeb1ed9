/-! arguments one behind the other; written by wip/p55/gen/vg -/

/-! the_ arguments of_ an_ instance, one_ behind the_ other -/
def ach (b_ : Nat → Int) (n_ : Nat) (A_ : pA) (m_ d_ : Nat) : List (pR × Nat) → Nat → Nat → Nat → Prop
  | [], _, _, _ => False
  | xi_ :: l_, k_, p_, pe_ => p_ni A_ d_ k_ = (xi_.2 : Int) ∧ p_ex b_ n_ false (p_pd b_ n_ A_ m_) [] p_ = .inr xi_.1 ∧ h_tp xi_.1.2.1 = A_.2.2.2.1 (40 * d_ + xi_.2) ∧ ((l_ = [] ∧ p_ni A_ d_ (xi_.2 + 1) = -1 ∧ pe_ = xi_.1.1) ∨ (l_ ≠ [] ∧ lx_kd b_ n_ xi_.1.1 = 44 ∧ ∃ p1_, p_ad b_ n_ xi_.1.1 = .inr p1_ ∧ ach b_ n_ A_ m_ d_ l_ (xi_.2 + 1) p1_ pe_))
def uch (b_ : Nat → Int) (n_ : Nat) (A_ : pA) (m_ d_ : Nat) (l_ : List (pR × Nat)) (k_ p_ pe_ : Nat) : Prop := (l_ = [] ∧ p_ni A_ d_ k_ = -1 ∧ pe_ = p_) ∨ ach b_ n_ A_ m_ d_ l_ k_ p_ pe_
def acd (K_ : Nat) : List (pR × Nat) → List Int → List Int
  | [], c_ => c_
  | xi_ :: l_, c_ => acd K_ l_ (cw 16 (K_ : Int) (xi_.2 : Int) :: (xi_.1.2.2 ++ c_))
theorem acd_s {K_ : Nat} {xi_ : pR × Nat} : ∀ (l_ : List (pR × Nat)) (c_ : List Int), acd K_ (l_ ++ [xi_]) c_ = cw 16 (K_ : Int) (xi_.2 : Int) :: (xi_.1.2.2 ++ acd K_ l_ c_)
  | [], c_ => rfl
  | y_ :: l_, c_ => acd_s l_ _
section AC_
variable {b_ : Nat → Int} {n_ m_ d_ : Nat} {A_ : pA}
theorem ar_ac {K_ pl_ : Nat} : ∀ (f_ : Nat) (i_ : Int) (c_ : List Int) (p_ : Nat) (x_ : List Int × Nat) (k_ : Nat), p_ar b_ n_ A_ m_ d_ K_ pl_ f_ i_ c_ p_ = .inr x_ → i_ = p_ni A_ d_ k_ → ∃ l_ pe_, ach b_ n_ A_ m_ d_ l_ k_ p_ pe_ ∧ x_.1 = acd K_ l_ c_ ∧ lx_kd b_ n_ pe_ = 41 ∧ p_ad b_ n_ pe_ = .inr x_.2
  | 0, _, _, _, _, _, h_, _ => by cases h_
  | f_ + 1, i_, c_, p_, x_, k_, h_, hi_ => by
    rw [p_ar] at h_
    obtain ⟨x1_, h1_, h2_⟩ := pb_inr h_
    obtain ⟨k1_, q1_, q2_⟩ := ex_ac h1_
    by_cases im_ : i_ = -1
    · exfalso
      rw [if_neg (fun z_ => z_.1 im_)] at h2_
      have a2_ : p_a2 A_ d_ i_ = -1 := if_pos im_
      by_cases k44_ : lx_kd b_ n_ x1_.1 = 44
      · rw [if_pos k44_, if_pos a2_] at h2_
        cases h2_
      · rw [if_neg k44_] at h2_
        have w_ := (ae_r h2_).1
        rw [decide_eq_true (Or.inl im_)] at w_
        cases w_
    · obtain ⟨iN_, hiN_⟩ : ∃ iN_ : Nat, p_ni A_ d_ k_ = (iN_ : Int) := by
        rcases p_ni_c (A_ := A_) (m_ := d_) (k_ := k_) with z_ | z_
        · exact absurd (hi_.trans z_) im_
        · exact ⟨(p_ni A_ d_ k_).toNat, by omega⟩
      have iv_ : i_ = (iN_ : Int) := hi_.trans hiN_
      have wl : h_tp x1_.2.1 = A_.2.2.2.1 (40 * d_ + iN_) := by
        by_cases z_ : h_tp x1_.2.1 = A_.2.2.2.1 (40 * d_ + iN_)
        · exact z_
        · rw [if_pos ⟨im_, by rw [iv_, Int.toNat_natCast]; exact z_⟩] at h2_
          cases h2_
      rw [if_neg (fun z_ => z_.2 (by rw [iv_, Int.toNat_natCast]; exact wl))] at h2_
      have a1_ : p_a1 A_ d_ K_ i_ x1_.2.2 = cw 16 (K_ : Int) (iN_ : Int) :: (k1_ ++ c_) := by
        unfold p_a1
        rw [if_neg im_, q2_, iv_]
      have a2_ : p_a2 A_ d_ i_ = p_ni A_ d_ (iN_ + 1) := by
        unfold p_a2
        rw [if_neg im_, iv_, Int.toNat_natCast]
      rw [a1_, a2_] at h2_
      by_cases k44_ : lx_kd b_ n_ x1_.1 = 44
      · rw [if_pos k44_] at h2_
        by_cases z_ : p_ni A_ d_ (iN_ + 1) = -1
        · rw [if_pos z_] at h2_
          cases h2_
        · rw [if_neg z_] at h2_
          obtain ⟨q7_, q8_, q9_⟩ := pb_inr h2_
          obtain ⟨l_, pe_, w1_, w2_, w3_, w4_⟩ := ar_ac f_ _ _ q7_ x_ (iN_ + 1) q9_ rfl
          refine ⟨((x1_.1, x1_.2.1, k1_), iN_) :: l_, pe_, ⟨hiN_, q1_, wl, Or.inr ⟨?_, k44_, q7_, q8_, w1_⟩⟩, w2_, w3_, w4_⟩
          intro e_
          rw [e_] at w1_
          exact w1_
      · rw [if_neg k44_] at h2_
        obtain ⟨w1_, w2_, w3_, w4_⟩ := ae_r h2_
        have w5_ : p_ni A_ d_ (iN_ + 1) = -1 := by
          by_cases z_ : p_ni A_ d_ (iN_ + 1) = -1
          · exact z_
          · rw [decide_eq_true (Or.inr z_)] at w1_
            cases w1_
        exact ⟨[((x1_.1, x1_.2.1, k1_), iN_)], x1_.1, ⟨hiN_, q1_, wl, Or.inl ⟨rfl, w5_, rfl⟩⟩, w3_, w2_, w4_⟩
theorem ua_ac {K_ pl_ p_ : Nat} {c_ : List Int} {x_ : List Int × Nat} (h_ : p_ua b_ n_ A_ m_ d_ K_ pl_ c_ p_ = .inr x_) : ∃ l_ pe_, uch b_ n_ A_ m_ d_ l_ 0 p_ pe_ ∧ x_.1 = acd K_ l_ c_ ∧ lx_kd b_ n_ pe_ = 41 ∧ p_ad b_ n_ pe_ = .inr x_.2 := by
  unfold p_ua at h_
  by_cases k41_ : lx_kd b_ n_ p_ = 41
  · rw [if_pos k41_] at h_
    obtain ⟨a1_, a2_, a3_, a4_⟩ := ae_r h_
    have a5_ : p_ni A_ d_ 0 = -1 := by
      by_cases z_ : p_ni A_ d_ 0 = -1
      · exact z_
      · rw [decide_eq_true z_] at a1_
        cases a1_
    exact ⟨[], p_, Or.inl ⟨rfl, a5_, rfl⟩, a3_, k41_, a4_⟩
  · rw [if_neg k41_] at h_
    obtain ⟨l_, pe_, w1_, w2_⟩ := ar_ac _ _ _ _ _ 0 h_ rfl
    exact ⟨l_, pe_, Or.inr w1_, w2_⟩
/-- how_ many there are_, and which -/
theorem ach_n {M_ : Nat} (hA_ : a_ok b_ n_ A_ M_) (hd_ : d_ ≤ M_) : ∀ (l_ : List (pR × Nat)) (k_ p_ pe_ : Nat), uch b_ n_ A_ m_ d_ l_ k_ p_ pe_ → k_ ≤ A_.1 d_ → p_cn (g_in A_ d_) (A_.1 d_) = p_cn (g_in A_ d_) k_ + l_.length
  | [], k_, p_, pe_, h_, hk_ => by
    rcases h_ with h_ | h_
    · rcases p_ni_r (k_ := k_) hA_ hd_ with z_ | ⟨v_, z1_, z2_, z3_, z4_, z5_⟩
      · have := p_cn_le (g_ := g_in A_ d_) hk_
        simp only [List.length_nil]
        omega
      · have := h_.2.1
        omega
    · exact h_.elim
  | xi_ :: l_, k_, p_, pe_, h_, hk_ => by
    rcases h_ with h_ | h_
    · cases h_.1
    · obtain ⟨h1_, h2_, h3_, h4_⟩ := h_
      rcases p_ni_r (k_ := k_) hA_ hd_ with z_ | ⟨v_, z1_, z2_, z3_, z4_, z5_⟩
      · have := z_.1
        omega
      · have ev : v_ = xi_.2 := by omega
        subst ev
        have e1_ : p_cn (g_in A_ d_) (xi_.2 + 1) = p_cn (g_in A_ d_) k_ + 1 := by
          rw [p_cn, z4_, if_pos rfl]
          omega
        rcases h4_ with ⟨w1_, w2_, w3_⟩ | ⟨w1_, w2_, p1_, w3_, w4_⟩
        · subst w1_
          have w_ := ach_n hA_ hd_ [] (xi_.2 + 1) pe_ pe_ (Or.inl ⟨rfl, w2_, rfl⟩) z3_
          rw [w_, e1_]
          simp
        · have w_ := ach_n hA_ hd_ l_ (xi_.2 + 1) p1_ pe_ (Or.inr w4_) z3_
          rw [w_, e1_, List.length_cons]
          omega
end AC_
