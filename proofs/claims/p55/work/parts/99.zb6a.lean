/-! the class: stores; written by wip/p55/gen/vg -/

/-! stores -/
theorem e_st15 {I_ m_ a_ : Nat} {A_ : pA} {d_ : Int} {s_ r_ : gS} (h_ : e_st I_ A_ m_ 15 a_ d_ s_ = some r_) : a_ < A_.1 m_ ∧ s_.1.2.2 ≤ 200 ∧ s_.2.1 a_ = [] ∧ s_.2.2.1 a_ = none ∧ r_ = ((s_.1.1, s_.1.2.1, s_.1.2.2 + 1), s_.2.1, up1 s_.2.2.1 a_ (some fun _ => []), s_.2.2.2) := by
  unfold e_st at h_
  split at h_
  · cases h_
  · rw [if_pos rfl] at h_
    split at h_
    · rename_i g1_ g_
      cases h_
      exact ⟨by omega, g_.1, g_.2.1, g_.2.2, rfl⟩
    · cases h_
theorem e_st13 {I_ m_ a_ : Nat} {A_ : pA} {d_ : Int} {s_ r_ : gS} (h_ : e_st I_ A_ m_ 13 a_ d_ s_ = some r_) : a_ < A_.1 m_ ∧ s_.2.2.1 a_ = none ∧ 1 ≤ A_.2.2.2.1 (40 * m_ + a_) ∧ A_.2.2.2.1 (40 * m_ + a_) ≤ 8 ∧ s_.1.2.1 + (A_.2.2.2.1 (40 * m_ + a_)).toNat ≤ 6 ∧ r_ = ((s_.1.1, s_.1.2.1 + (A_.2.2.2.1 (40 * m_ + a_)).toNat, s_.1.2.2), up1 s_.2.1 a_ (r_bt I_ s_.1.2.1 (A_.2.2.2.1 (40 * m_ + a_)).toNat), s_.2.2.1, s_.2.2.2) := by
  unfold e_st at h_
  split at h_
  · cases h_
  · rw [if_neg (by decide), if_pos rfl] at h_
    split at h_
    · rename_i g1_ g_
      cases h_
      exact ⟨by omega, g_.1, g_.2.1, g_.2.2.1, g_.2.2.2, rfl⟩
    · cases h_
theorem e_stp {I_ m_ a_ : Nat} {A_ : pA} {k_ d_ : Int} {s_ r_ : gS} (h_ : e_st I_ A_ m_ k_ a_ d_ s_ = some r_) (h15_ : k_ ≠ 15) (h13_ : k_ ≠ 13) : a_ < A_.1 m_ ∧ ∃ x_ l_, s_.2.2.2 = x_ :: l_ ∧ ((k_ = 12 ∧ s_.2.2.1 a_ = none ∧ x_.length ≤ 8 ∧ r_ = (s_.1, up1 s_.2.1 a_ x_, s_.2.2.1, l_)) ∨ (k_ = 14 ∧ ∃ z_ y_, s_.2.1 a_ = z_ :: y_ ∧ 2 * (1 + (I_ : Int)) ≤ z_ ∧ z_ / 2 - 1 - I_ + x_.length ≤ 6 ∧ r_ = (s_.1, s_.2.1, s_.2.2.1, l_)) ∨ (k_ = 16 ∧ ∃ o_, s_.2.2.1 a_ = some o_ ∧ (0 ≤ d_ ∧ d_ < 40) ∧ x_.length ≤ 8 ∧ r_ = (s_.1, s_.2.1, up1 s_.2.2.1 a_ (some (up1 o_ d_.toNat x_)), l_))) := by
  unfold e_st at h_
  split at h_
  · cases h_
  · rename_i g0_
    try rw [if_neg h15_, if_neg h13_] at h_
    refine ⟨by omega, ?_⟩
    split at h_
    · cases h_
    · rename_i x_ l_ hs_
      refine ⟨x_, l_, hs_, ?_⟩
      split at h_
      · rename_i k12_
        split at h_
        · rename_i g_
          cases h_
          exact Or.inl ⟨k12_, g_.1, g_.2, rfl⟩
        · cases h_
      · split at h_
        · rename_i k14_
          split at h_
          · cases h_
          · rename_i z_ y_ hz_
            split at h_
            · rename_i g_
              cases h_
              exact Or.inr (Or.inl ⟨k14_, z_, y_, hz_, g_.1, g_.2, rfl⟩)
            · cases h_
        · split at h_
          · rename_i k16_
            split at h_
            · rename_i o_ ho_
              split at h_
              · rename_i g_
                cases h_
                exact Or.inr (Or.inr ⟨k16_, o_, ho_, ⟨g_.1, g_.2.1⟩, g_.2.2, rfl⟩)
              · cases h_
            · cases h_
          · cases h_
/-- the_ beginning takes one_ more bit_ -/
theorem bg_all : ∀ r_ : Fin 6, ∀ x_ : Fin 64, ∀ b_ : Fin 2, (x_ : Nat) < 2 ^ (r_ : Nat) → 0 ≤ i_or ((x_ : Nat) : Int) (i_shl ((b_ : Nat) : Int) ((r_ : Nat) : Int)) ∧ i_or ((x_ : Nat) : Int) (i_shl ((b_ : Nat) : Int) ((r_ : Nat) : Int)) < 2 ^ ((r_ : Nat) + 1) := by decide +kernel
theorem bg_up {x_ b_ : Int} {r_ : Nat} (h0_ : 0 ≤ x_) (h1_ : x_ < 2 ^ r_) (hb_ : 0 ≤ b_ ∧ b_ ≤ 1) (hr_ : r_ ≤ 5) : 0 ≤ i_or x_ (i_shl b_ (r_ : Int)) ∧ i_or x_ (i_shl b_ (r_ : Int)) < 2 ^ (r_ + 1) := by
  obtain ⟨x_, rfl⟩ := Int.eq_ofNat_of_zero_le h0_
  obtain ⟨b_, rfl⟩ := Int.eq_ofNat_of_zero_le hb_.1
  have hx_ : x_ < 2 ^ r_ := by exact_mod_cast h1_
  have h64_ : 2 ^ r_ ≤ 2 ^ 5 := Nat.pow_le_pow_right (by decide) hr_
  exact bg_all ⟨r_, by omega⟩ ⟨x_, by omega⟩ ⟨b_, by omega⟩ hx_
def cxe (dd_ I_ R_ : Nat) (S_ : sm_S) : Prop := S_.1 3 dd_ 1 = (I_ : Int) ∧ 0 ≤ S_.1 3 dd_ 5 ∧ S_.1 3 dd_ 5 < 2 ^ R_
/-- the_ state of_ an_ execution in the_ class -/
def cxs (dd_ F_ I_ f_ fc0_ : Nat) (s_ : gS) (S_ : sm_S) : Prop := cgl dd_ F_ s_.1.1 S_ ∧ S_.1 1 0 9 = (s_.1.2.1 : Int) ∧ S_.1 1 0 3 = (s_.1.2.2 : Int) ∧ s_.1.2.2 ≤ 201 ∧ f_ < fc0_ ∧ fc0_ ≤ s_.1.2.2 ∧ cfr f_ fc0_ s_.1.2.2 s_.2.1 s_.2.2.1 (S_.2.2.1 26 0) ∧ cstk s_.1.1 s_.2.2.2 S_ ∧ cxe dd_ I_ s_.1.2.1 S_
theorem cgl_b {dd_ F_ : Nat} {G_ : pGr} {S_ : sm_S} (h_ : cgl dd_ F_ G_ S_) : (F_ : Int) = 1 + S_.1 3 dd_ 1 + S_.1 3 dd_ 2 ∧ (1 ≤ F_ ∧ F_ ≤ 13) := by
  obtain ⟨G1_, x_, _⟩ := h_
  exact ⟨x_.2.1, x_.2.2.1⟩
def fun_ (f_ fc0_ : Nat) (g_ h_ : Nat → Int) : Prop := ∀ j_, j_ < 8 * (40 * fc0_) → j_ < 8 * (40 * f_) ∨ 8 * (40 * f_) + 320 ≤ j_ → h_ j_ = g_ j_
theorem cfr_cg {f_ fc0_ fc_ : Nat} {E_ : gE} {O_ : gO} {g_ h_ : Nat → Int} (x_ : cfr f_ fc0_ fc_ E_ O_ g_) (e_ : ∀ j_, h_ j_ = g_ j_) : cfr f_ fc0_ fc_ E_ O_ h_ := by
  rw [show h_ = g_ from funext e_]
  exact x_
theorem svl_pop {ok_ : Prop} {st_ wd_ st'_ wd'_ : Nat → Int} {x_ : List Int} {l_ : gV} (h_ : svl ok_ st_ wd_ (x_ :: l_)) (e1_ : ∀ j_, st'_ j_ = st_ j_) (e2_ : ∀ j_, wd'_ j_ = wd_ j_) : svl ok_ st'_ wd'_ l_ := by
  rw [show st'_ = st_ from funext e1_, show wd'_ = wd_ from funext e2_]
  exact h_.2.2.2
