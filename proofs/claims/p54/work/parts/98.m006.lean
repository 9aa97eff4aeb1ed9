/-! 99.yka -/
section
/-! the reference: tables; written by wip/p55/gen/vg -/

/-! the_ names of_ a_ sort in their order -/
theorem p_cn_le {g_ : Nat → Bool} : ∀ {i_ k_ : Nat}, i_ ≤ k_ → p_cn g_ i_ ≤ p_cn g_ k_
  | i_, 0, h_ => by rw [show i_ = 0 by omega]; exact Nat.le_refl _
  | i_, k_ + 1, h_ => by
    by_cases e_ : i_ = k_ + 1
    · rw [e_]; exact Nat.le_refl _
    · have := p_cn_le (g_ := g_) (i_ := i_) (k_ := k_) (by omega)
      have h2_ : p_cn g_ (k_ + 1) = p_cn g_ k_ + if g_ k_ = true then 1 else 0 := rfl
      omega
theorem p_cn_z {g_ : Nat → Bool} {i_ : Nat} : ∀ {k_ : Nat}, i_ ≤ k_ → (∀ j_, i_ ≤ j_ → j_ < k_ → g_ j_ = false) → p_cn g_ k_ = p_cn g_ i_
  | 0, h_, _ => by rw [show i_ = 0 by omega]
  | k_ + 1, h_, hz_ => by
    by_cases e_ : i_ = k_ + 1
    · rw [e_]
    · have h1_ := p_cn_z (g_ := g_) (i_ := i_) (k_ := k_) (by omega) (fun j_ h1_ h2_ => hz_ j_ h1_ (by omega))
      have h2_ : p_cn g_ (k_ + 1) = p_cn g_ k_ + if g_ k_ = true then 1 else 0 := rfl
      rw [h2_, h1_, if_neg (by rw [hz_ k_ (by omega) (by omega)]; decide)]
      omega
theorem p_fd_mn {f_ : Nat → Bool} : ∀ {k_ v_ : Nat}, p_fd f_ k_ = (v_ : Int) → ∀ j_, j_ < v_ → f_ j_ = false
  | 0, v_, h_, j_, hj_ => by
    exfalso
    rw [p_fd] at h_
    omega
  | k_ + 1, v_, h_, j_, hj_ => by
    rw [p_fd] at h_
    split at h_
    · rename_i g_
      split at h_
      · exact p_fd_no g_ j_ (by omega)
      · exfalso; omega
    · exact p_fd_mn h_ j_ hj_
def g_in (A_ : pA) (m_ : Nat) (s_ : Nat) : Bool := decide (r_s2 (A_.2.2.1 (40 * m_ + s_)) = 1)
theorem g_in_0 {b_ : Nat → Int} {n_ M_ m_ s_ : Nat} {A_ : pA} (h_ : a_ok b_ n_ A_ M_) (hm_ : m_ ≤ M_) (hs_ : s_ < A_.1 m_) : g_in A_ m_ s_ = decide (A_.2.2.1 (40 * m_ + s_) = 0) := by
  have h1_ := ((h_.2 m_ hm_).2 s_ hs_).2.1
  unfold g_in r_s2
  by_cases z_ : A_.2.2.1 (40 * m_ + s_) = 0
  · rw [z_]; rfl
  · rw [decide_eq_false z_]
    apply decide_eq_false
    split
    · omega
    · split <;> decide
def p_nth (A_ : pA) (m_ : Nat) : Nat → Int
  | 0 => p_ni A_ m_ 0
  | j_ + 1 => p_a2 A_ m_ (p_nth A_ m_ j_)
theorem p_ni_r {b_ : Nat → Int} {n_ M_ m_ k_ : Nat} {A_ : pA} (h_ : a_ok b_ n_ A_ M_) (hm_ : m_ ≤ M_) : (p_ni A_ m_ k_ = -1 ∧ p_cn (g_in A_ m_) (A_.1 m_) ≤ p_cn (g_in A_ m_) k_) ∨ ∃ v_ : Nat, p_ni A_ m_ k_ = (v_ : Int) ∧ k_ ≤ v_ ∧ v_ < A_.1 m_ ∧ g_in A_ m_ v_ = true ∧ p_cn (g_in A_ m_) v_ = p_cn (g_in A_ m_) k_ := by
  have hb_ := p_fd_b (f_ := fun s_ => decide (k_ ≤ s_) && decide (A_.2.2.1 (40 * m_ + s_) = 0)) (A_.1 m_)
  by_cases z_ : p_ni A_ m_ k_ = -1
  · left
    refine ⟨z_, ?_⟩
    have h1_ := p_fd_no z_
    by_cases e_ : k_ ≤ A_.1 m_
    · have h9_ : p_cn (g_in A_ m_) (A_.1 m_) = p_cn (g_in A_ m_) k_ := p_cn_z e_ (fun j_ hj1_ hj2_ => by
        have h2_ : (decide (k_ ≤ j_) && decide (A_.2.2.1 (40 * m_ + j_) = 0)) = false := h1_ j_ hj2_
        rw [decide_eq_true hj1_, Bool.true_and] at h2_
        rw [g_in_0 h_ hm_ hj2_]
        exact h2_)
      omega
    · exact p_cn_le (by omega)
  · right
    have hv_ : 0 ≤ p_ni A_ m_ k_ := by unfold p_ni at z_ ⊢; omega
    obtain ⟨v_, hv2_⟩ : ∃ v_ : Nat, p_ni A_ m_ k_ = (v_ : Int) := ⟨(p_ni A_ m_ k_).toNat, by omega⟩
    have h1_ := p_fd_f hv2_
    have h2_ := p_fd_mn hv2_
    have h3_ : (decide (k_ ≤ v_) && decide (A_.2.2.1 (40 * m_ + v_) = 0)) = true := h1_.1
    rw [Bool.and_eq_true, decide_eq_true_eq, decide_eq_true_eq] at h3_
    refine ⟨v_, hv2_, h3_.1, h1_.2, ?_, ?_⟩
    · rw [g_in_0 h_ hm_ h1_.2]; exact decide_eq_true h3_.2
    · refine p_cn_z h3_.1 (fun j_ hj1_ hj2_ => ?_)
      have h4_ : (decide (k_ ≤ j_) && decide (A_.2.2.1 (40 * m_ + j_) = 0)) = false := h2_ j_ hj2_
      rw [decide_eq_true hj1_, Bool.true_and] at h4_
      have := h1_.2
      rw [g_in_0 h_ hm_ (by omega)]
      exact h4_
theorem p_nth_r {b_ : Nat → Int} {n_ M_ m_ : Nat} {A_ : pA} (h_ : a_ok b_ n_ A_ M_) (hm_ : m_ ≤ M_) : ∀ j_ : Nat, (p_nth A_ m_ j_ = -1 ∧ p_cn (g_in A_ m_) (A_.1 m_) ≤ j_) ∨ ∃ v_ : Nat, p_nth A_ m_ j_ = (v_ : Int) ∧ v_ < A_.1 m_ ∧ g_in A_ m_ v_ = true ∧ p_cn (g_in A_ m_) v_ = j_
  | 0 => by
    rcases p_ni_r (k_ := 0) h_ hm_ with ⟨h1_, h2_⟩ | ⟨v_, h1_, h2_, h3_, h4_, h5_⟩
    · exact Or.inl ⟨h1_, h2_⟩
    · exact Or.inr ⟨v_, h1_, h3_, h4_, h5_⟩
  | j_ + 1 => by
    show (p_a2 A_ m_ (p_nth A_ m_ j_) = -1 ∧ _) ∨ ∃ v_ : Nat, p_a2 A_ m_ (p_nth A_ m_ j_) = _ ∧ _
    rcases p_nth_r h_ hm_ j_ with ⟨h1_, h2_⟩ | ⟨v_, h1_, h3_, h4_, h5_⟩
    · left
      rw [h1_]
      exact ⟨rfl, by omega⟩
    · have e_ : p_cn (g_in A_ m_) (v_ + 1) = j_ + 1 := by
        show p_cn (g_in A_ m_) v_ + (if g_in A_ m_ v_ = true then 1 else 0) = _
        rw [if_pos h4_, h5_]
      rw [h1_]
      unfold p_a2
      rw [if_neg (by omega), show ((v_ : Int).toNat + 1) = v_ + 1 by omega]
      rcases p_ni_r (k_ := v_ + 1) h_ hm_ with ⟨q1_, q2_⟩ | ⟨u_, q1_, q2_, q3_, q4_, q5_⟩
      · exact Or.inl ⟨q1_, by omega⟩
      · exact Or.inr ⟨u_, q1_, q3_, q4_, by omega⟩
theorem p_nth_n {b_ : Nat → Int} {n_ M_ m_ : Nat} {A_ : pA} (h_ : a_ok b_ n_ A_ M_) (hm_ : m_ ≤ M_) (j_ : Nat) : p_nth A_ m_ j_ = -1 ↔ p_cn (g_in A_ m_) (A_.1 m_) ≤ j_ := by
  rcases p_nth_r h_ hm_ j_ with ⟨h1_, h2_⟩ | ⟨v_, h1_, h3_, h4_, h5_⟩
  · exact ⟨fun _ => h2_, fun _ => h1_⟩
  · constructor
    · intro z_; omega
    · intro z_
      have h6_ := p_cn_le (g_ := g_in A_ m_) (i_ := v_ + 1) (k_ := A_.1 m_) (by omega)
      have h7_ : p_cn (g_in A_ m_) (v_ + 1) = p_cn (g_in A_ m_) v_ + if g_in A_ m_ v_ = true then 1 else 0 := rfl
      rw [if_pos h4_] at h7_
      omega
theorem p_cn_u {g_ : Nat → Bool} {u_ v_ : Nat} (h1_ : g_ u_ = true) (h2_ : g_ v_ = true) (h_ : p_cn g_ u_ = p_cn g_ v_) : u_ = v_ := by
  have e1_ : p_cn g_ (u_ + 1) = p_cn g_ u_ + if g_ u_ = true then 1 else 0 := rfl
  have e2_ : p_cn g_ (v_ + 1) = p_cn g_ v_ + if g_ v_ = true then 1 else 0 := rfl
  rw [if_pos h1_] at e1_
  rw [if_pos h2_] at e2_
  by_cases c1_ : u_ < v_
  · have := p_cn_le (g_ := g_) (i_ := u_ + 1) (k_ := v_) (by omega); omega
  · by_cases c2_ : v_ < u_
    · have := p_cn_le (g_ := g_) (i_ := v_ + 1) (k_ := u_) (by omega); omega
    · omega
/-! sums -/
def su (g_ : Nat → Int) : Nat → Int
  | 0 => 0
  | k_ + 1 => su g_ k_ + g_ k_
theorem su_cg {f_ g_ : Nat → Int} : ∀ {k_ : Nat}, (∀ j_, j_ < k_ → f_ j_ = g_ j_) → su f_ k_ = su g_ k_
  | 0, _ => rfl
  | k_ + 1, h_ => by
    show su f_ k_ + f_ k_ = su g_ k_ + g_ k_
    rw [su_cg (fun j_ hj_ => h_ j_ (by omega)), h_ k_ (by omega)]
theorem su_b {f_ : Nat → Int} {c_ : Int} : ∀ {k_ : Nat}, (∀ j_, j_ < k_ → 0 ≤ f_ j_ ∧ f_ j_ ≤ c_) → 0 ≤ su f_ k_ ∧ su f_ k_ ≤ k_ * c_
  | 0, _ => by
    show (0 : Int) ≤ 0 ∧ (0 : Int) ≤ ((0 : Nat) : Int) * c_
    simp
  | k_ + 1, h_ => by
    have h1_ := su_b (f_ := f_) (c_ := c_) (k_ := k_) (fun j_ hj_ => h_ j_ (by omega))
    have h2_ := h_ k_ (by omega)
    show 0 ≤ su f_ k_ + f_ k_ ∧ su f_ k_ + f_ k_ ≤ ((k_ + 1 : Nat) : Int) * c_
    have e_ : ((k_ + 1 : Nat) : Int) * c_ = k_ * c_ + c_ := by push_cast; rw [Int.add_mul, Int.one_mul]
    omega
def mn (x_ : Int) : Int := if 1000 < x_ then 1000 else x_
theorem mn_b {x_ : Int} (h_ : 0 ≤ x_) : 0 ≤ mn x_ ∧ mn x_ ≤ 1000 := by
  unfold mn
  split <;> omega
theorem mn_mn {x_ y_ : Int} (hx_ : 0 ≤ x_) (hy_ : 0 ≤ y_) : mn (mn x_ + y_) = mn (x_ + y_) := by
  unfold mn
  repeat' split
  all_goals omega
def t_in (A_ : pA) (so_ : Int) (m_ s_ : Nat) : Int := if A_.2.2.1 (40 * m_ + s_) = so_ then A_.2.2.2.1 (40 * m_ + s_) else 0
def t_rg (f_ : Nat → Int) (A_ : pA) (m_ s_ : Nat) : Int := if A_.2.2.1 (40 * m_ + s_) = 3 ∨ A_.2.2.1 (40 * m_ + s_) = 4 then A_.2.2.2.1 (40 * m_ + s_) else if A_.2.2.1 (40 * m_ + s_) = 5 then f_ (A_.2.2.2.2 (40 * m_ + s_)).toNat else 0
def t_is (f_ : Nat → Int) (A_ : pA) (m_ s_ : Nat) : Int := if A_.2.2.1 (40 * m_ + s_) = 5 then 1 + f_ (A_.2.2.2.2 (40 * m_ + s_)).toNat else 0
/-- the_ sums of_ a_ module -/
def rs1 (A_ : pA) (m_ : Nat) (S_ : sm_S) : Prop := S_.2.2.1 132 0 m_ = su (t_in A_ 0 m_) (A_.1 m_) ∧ S_.2.2.1 133 0 m_ = su (t_in A_ 1 m_) (A_.1 m_) ∧ S_.2.2.1 134 0 m_ = mn (su (t_rg (S_.2.2.1 134 0) A_ m_) (A_.1 m_)) ∧ S_.2.2.1 135 0 m_ = mn (su (t_is (S_.2.2.1 135 0) A_ m_) (A_.1 m_))
theorem rs1_b {b_ : Nat → Int} {n_ M_ m_ : Nat} {A_ : pA} {S_ : sm_S} (hI_ : gi S_) (h_ : a_ok b_ n_ A_ M_) (hm_ : m_ ≤ M_) (hr_ : rs1 A_ m_ S_) : (S_.2.2.1 132 0 m_ ≤ 8 * A_.1 m_) ∧ (S_.2.2.1 133 0 m_ ≤ 8 * A_.1 m_) ∧ (0 ≤ S_.2.2.1 134 0 m_ ∧ S_.2.2.1 134 0 m_ ≤ 1000) ∧ (0 ≤ S_.2.2.1 135 0 m_ ∧ S_.2.2.1 135 0 m_ ≤ 1000) := by
  obtain ⟨h1_, h2_, h3_, h4_⟩ := hr_
  have hw_ := fun s_ (hs_ : s_ < A_.1 m_) => ((h_.2 m_ hm_).2 s_ hs_).2.2.1
  have b1_ := su_b (f_ := t_in A_ 0 m_) (c_ := 8) (k_ := A_.1 m_) (fun j_ hj_ => by have := hw_ j_ hj_; unfold t_in; split <;> omega)
  have b2_ := su_b (f_ := t_in A_ 1 m_) (c_ := 8) (k_ := A_.1 m_) (fun j_ hj_ => by have := hw_ j_ hj_; unfold t_in; split <;> omega)
  have c3_ : ∀ j_ : Nat, 0 ≤ S_.2.2.1 134 0 j_ ∧ S_.2.2.1 134 0 j_ ≤ 1073741823 := fun j_ => hI_.2 134 0 j_
  have c4_ : ∀ j_ : Nat, 0 ≤ S_.2.2.1 135 0 j_ ∧ S_.2.2.1 135 0 j_ ≤ 1073741823 := fun j_ => hI_.2 135 0 j_
  have b3_ := su_b (f_ := t_rg (S_.2.2.1 134 0) A_ m_) (c_ := 1073741823) (k_ := A_.1 m_) (fun j_ hj_ => by
    have q_ := hw_ j_ hj_
    have q2_ := c3_ (A_.2.2.2.2 (40 * m_ + j_)).toNat
    unfold t_rg
    split
    · omega
    · split <;> omega)
  have b4_ := su_b (f_ := t_is (S_.2.2.1 135 0) A_ m_) (c_ := 1073741824) (k_ := A_.1 m_) (fun j_ hj_ => by
    have q2_ := c4_ (A_.2.2.2.2 (40 * m_ + j_)).toNat
    unfold t_is
    split <;> omega)
  have b5_ := mn_b b3_.1
  have b6_ := mn_b b4_.1
  omega
/-- the_ tables hold one_ name more -/
theorem te_re {b_ : Nat → Int} {n_ T_ M_ q_ : Nat} {A_ : pA} {cs_ so_ w_ th tk_ : Int} {S_ S'_ : sm_S} (h_ : ∀ m_, m_ ≤ M_ → re1 b_ n_ T_ A_ m_ S_) (hr_ : rtk b_ n_ T_ tk_ q_) (hso_ : so_ = r_s2 cs_ ∧ cs_ ≠ 4)
  (h0_ : ∀ j_, S'_.2.2.1 126 0 j_ = if j_ = M_ then (A_.1 M_ : Int) + 1 else S_.2.2.1 126 0 j_)
  (h1_ : ∀ j_, S'_.2.2.1 127 0 j_ = if j_ = 40 * M_ + A_.1 M_ then tk_ else S_.2.2.1 127 0 j_)
  (h2_ : ∀ j_, S'_.2.2.1 128 0 j_ = if j_ = 40 * M_ + A_.1 M_ then so_ else S_.2.2.1 128 0 j_)
  (h3_ : ∀ j_, S'_.2.2.1 129 0 j_ = if j_ = 40 * M_ + A_.1 M_ then w_ else S_.2.2.1 129 0 j_)
  (h4_ : ∀ j_, S'_.2.2.1 130 0 j_ = if j_ = 40 * M_ + A_.1 M_ then th else S_.2.2.1 130 0 j_)
  (h5_ : ∀ j_, S'_.2.2.1 131 0 j_ = if j_ = 40 * M_ + A_.1 M_ then 0 else S_.2.2.1 131 0 j_) (ha_ : ∀ m_, m_ ≤ M_ → A_.1 m_ ≤ 40) (hlt_ : A_.1 M_ < 40) : ∀ m_, m_ ≤ M_ → re1 b_ n_ T_ (a_te A_ M_ q_ cs_ w_ th) m_ S'_ := by
  intro m_ hm_
  unfold re1 a_te
  show S'_.2.2.1 126 0 m_ = (((if m_ = M_ then A_.1 M_ + 1 else A_.1 m_ : Nat)) : Int) ∧ ∀ s_, s_ < (if m_ = M_ then A_.1 M_ + 1 else A_.1 m_) → _
  have hx_ := h_ m_ hm_
  by_cases e_ : m_ = M_
  · subst e_
    rw [if_pos rfl, h0_, if_pos rfl]
    refine ⟨by push_cast; rfl, fun s_ hs_ => ?_⟩
    show rtk b_ n_ T_ (S'_.2.2.1 127 0 (40 * m_ + s_)) (if 40 * m_ + s_ = 40 * m_ + A_.1 m_ then q_ else A_.2.1 (40 * m_ + s_)) ∧ S'_.2.2.1 128 0 (40 * m_ + s_) = r_s2 (if 40 * m_ + s_ = 40 * m_ + A_.1 m_ then cs_ else A_.2.2.1 (40 * m_ + s_)) ∧ S'_.2.2.1 129 0 (40 * m_ + s_) = (if 40 * m_ + s_ = 40 * m_ + A_.1 m_ then w_ else A_.2.2.2.1 (40 * m_ + s_)) ∧ S'_.2.2.1 130 0 (40 * m_ + s_) = (if 40 * m_ + s_ = 40 * m_ + A_.1 m_ then th else A_.2.2.2.2 (40 * m_ + s_)) ∧ S'_.2.2.1 131 0 (40 * m_ + s_) = (if (if 40 * m_ + s_ = 40 * m_ + A_.1 m_ then cs_ else A_.2.2.1 (40 * m_ + s_)) = 4 then 1 else 0)
    rw [h1_, h2_, h3_, h4_, h5_]
    by_cases e2_ : s_ = A_.1 m_
    · subst e2_
      simp only [if_true]
      exact ⟨hr_, hso_.1, trivial, trivial, by rw [if_neg hso_.2]⟩
    · have e3_ : ¬ (40 * m_ + s_ = 40 * m_ + A_.1 m_) := by omega
      simp only [if_neg e3_]
      exact hx_.2 s_ (by omega)
  · rw [if_neg e_, h0_, if_neg e_]
    refine ⟨hx_.1, fun s_ hs_ => ?_⟩
    have e3_ : ¬ (40 * m_ + s_ = 40 * M_ + A_.1 M_) := by have := ha_ m_ hm_; omega
    show rtk b_ n_ T_ (S'_.2.2.1 127 0 (40 * m_ + s_)) (if 40 * m_ + s_ = 40 * M_ + A_.1 M_ then q_ else A_.2.1 (40 * m_ + s_)) ∧ S'_.2.2.1 128 0 (40 * m_ + s_) = r_s2 (if 40 * m_ + s_ = 40 * M_ + A_.1 M_ then cs_ else A_.2.2.1 (40 * m_ + s_)) ∧ S'_.2.2.1 129 0 (40 * m_ + s_) = (if 40 * m_ + s_ = 40 * M_ + A_.1 M_ then w_ else A_.2.2.2.1 (40 * m_ + s_)) ∧ S'_.2.2.1 130 0 (40 * m_ + s_) = (if 40 * m_ + s_ = 40 * M_ + A_.1 M_ then th else A_.2.2.2.2 (40 * m_ + s_)) ∧ S'_.2.2.1 131 0 (40 * m_ + s_) = (if (if 40 * m_ + s_ = 40 * M_ + A_.1 M_ then cs_ else A_.2.2.1 (40 * m_ + s_)) = 4 then 1 else 0)
    rw [h1_, h2_, h3_, h4_, h5_]
    simp only [if_neg e3_]
    exact hx_.2 s_ hs_
theorem su_te {A_ : pA} {M_ q_ m_ : Nat} {cs_ w_ th : Int} (f_ : Nat → Int) (G_ : (Nat → Int) → pA → Nat → Nat → Int) (hG_ : ∀ (A_ B_ : pA) (m_ s_ : Nat), A_.2.2.1 (40 * m_ + s_) = B_.2.2.1 (40 * m_ + s_) → A_.2.2.2.1 (40 * m_ + s_) = B_.2.2.2.1 (40 * m_ + s_) → A_.2.2.2.2 (40 * m_ + s_) = B_.2.2.2.2 (40 * m_ + s_) → G_ f_ A_ m_ s_ = G_ f_ B_ m_ s_) (hA_ : A_.1 m_ ≤ 40) (hm_ : m_ ≤ M_) : su (G_ f_ (a_te A_ M_ q_ cs_ w_ th) m_) ((a_te A_ M_ q_ cs_ w_ th).1 m_) = su (G_ f_ A_ m_) (A_.1 m_) + if m_ = M_ then G_ f_ (a_te A_ M_ q_ cs_ w_ th) m_ (A_.1 m_) else 0 := by
  have hc_ : ∀ s_, s_ < A_.1 m_ → G_ f_ (a_te A_ M_ q_ cs_ w_ th) m_ s_ = G_ f_ A_ m_ s_ := by
    intro s_ hs_
    have e3_ : ¬ (40 * m_ + s_ = 40 * M_ + A_.1 M_) := by
      by_cases e_ : m_ = M_
      · subst e_; omega
      · omega
    exact hG_ _ _ m_ s_ (if_neg e3_) (if_neg e3_) (if_neg e3_)
  have e0_ : (a_te A_ M_ q_ cs_ w_ th).1 m_ = if m_ = M_ then A_.1 M_ + 1 else A_.1 m_ := rfl
  rw [e0_]
  by_cases e_ : m_ = M_
  · subst e_
    rw [if_pos rfl, if_pos rfl]
    show su _ (A_.1 m_) + _ = _
    rw [su_cg hc_]
  · rw [if_neg e_, if_neg e_, su_cg hc_, Int.add_zero]
theorem te_rs {b_ : Nat → Int} {n_ M_ q_ : Nat} {A_ : pA} {cs_ w_ th : Int} {S_ S'_ : sm_S} (hI_ : gi S_) (h_ : a_ok b_ n_ A_ M_) (hs_ : ∀ m_, m_ ≤ M_ → rs1 A_ m_ S_) (hw_ : 0 ≤ w_) (ht_ : cs_ = 5 → 0 ≤ th ∧ th < M_)
  (h2_ : ∀ j_, S'_.2.2.1 132 0 j_ = if j_ = M_ then S_.2.2.1 132 0 M_ + (if cs_ = 0 then w_ else 0) else S_.2.2.1 132 0 j_)
  (h3_ : ∀ j_, S'_.2.2.1 133 0 j_ = if j_ = M_ then S_.2.2.1 133 0 M_ + (if cs_ = 1 then w_ else 0) else S_.2.2.1 133 0 j_)
  (h4_ : ∀ j_, S'_.2.2.1 134 0 j_ = if j_ = M_ then mn (S_.2.2.1 134 0 M_ + (if cs_ = 3 ∨ cs_ = 4 then w_ else if cs_ = 5 then S_.2.2.1 134 0 th.toNat else 0)) else S_.2.2.1 134 0 j_)
  (h5_ : ∀ j_, S'_.2.2.1 135 0 j_ = if j_ = M_ then mn (S_.2.2.1 135 0 M_ + (if cs_ = 5 then 1 + S_.2.2.1 135 0 th.toNat else 0)) else S_.2.2.1 135 0 j_) : ∀ m_, m_ ≤ M_ → rs1 (a_te A_ M_ q_ cs_ w_ th) m_ S'_ := by
  intro m_ hm_
  obtain ⟨r1_, r2_, r3_, r4_⟩ := hs_ m_ hm_
  have hA_ := (h_.2 m_ hm_).1
  have q1_ : (a_te A_ M_ q_ cs_ w_ th).2.2.1 (40 * M_ + A_.1 M_) = cs_ := if_pos rfl
  have q2_ : (a_te A_ M_ q_ cs_ w_ th).2.2.2.1 (40 * M_ + A_.1 M_) = w_ := if_pos rfl
  have q3_ : (a_te A_ M_ q_ cs_ w_ th).2.2.2.2 (40 * M_ + A_.1 M_) = th := if_pos rfl
  have dt_ : ∀ s_, s_ < A_.1 m_ → A_.2.2.1 (40 * m_ + s_) = 5 → (A_.2.2.2.2 (40 * m_ + s_)).toNat ≠ M_ := by
    intro s_ hs1_ h5_
    have := ((h_.2 m_ hm_).2 s_ hs1_).2.2.2.2.1 h5_
    omega
  have c3_ : ∀ j_ : Nat, 0 ≤ S_.2.2.1 134 0 j_ ∧ S_.2.2.1 134 0 j_ ≤ 1073741823 := fun j_ => hI_.2 134 0 j_
  have c4_ : ∀ j_ : Nat, 0 ≤ S_.2.2.1 135 0 j_ ∧ S_.2.2.1 135 0 j_ ≤ 1073741823 := fun j_ => hI_.2 135 0 j_
  have hw8_ := fun s_ (hs_ : s_ < A_.1 m_) => ((h_.2 m_ hm_).2 s_ hs_).2.2.1
  refine ⟨?_, ?_, ?_, ?_⟩
  · rw [su_te (fun _ => 0) (fun _ A_ m_ s_ => t_in A_ 0 m_ s_) (fun A_ B_ m_ s_ z1_ z2_ z3_ => by unfold t_in; rw [z1_, z2_]) hA_ hm_, h2_]
    by_cases e_ : m_ = M_
    · subst e_
      rw [if_pos rfl, if_pos rfl, r1_]
      unfold t_in
      rw [q1_, q2_]
    · rw [if_neg e_, if_neg e_, r1_, Int.add_zero]
  · rw [su_te (fun _ => 0) (fun _ A_ m_ s_ => t_in A_ 1 m_ s_) (fun A_ B_ m_ s_ z1_ z2_ z3_ => by unfold t_in; rw [z1_, z2_]) hA_ hm_, h3_]
    by_cases e_ : m_ = M_
    · subst e_
      rw [if_pos rfl, if_pos rfl, r2_]
      unfold t_in
      rw [q1_, q2_]
    · rw [if_neg e_, if_neg e_, r2_, Int.add_zero]
  · rw [su_te (S'_.2.2.1 134 0) t_rg (fun A_ B_ m_ s_ z1_ z2_ z3_ => by unfold t_rg; rw [z1_, z2_, z3_]) hA_ hm_, h4_]
    have e0_ : su (t_rg (S'_.2.2.1 134 0) A_ m_) (A_.1 m_) = su (t_rg (S_.2.2.1 134 0) A_ m_) (A_.1 m_) := su_cg (fun s_ hs1_ => by
      unfold t_rg
      by_cases z_ : A_.2.2.1 (40 * m_ + s_) = 3 ∨ A_.2.2.1 (40 * m_ + s_) = 4
      · rw [if_pos z_, if_pos z_]
      · rw [if_neg z_, if_neg z_]
        by_cases z2_ : A_.2.2.1 (40 * m_ + s_) = 5
        · rw [if_pos z2_, if_pos z2_, h4_, if_neg (dt_ s_ hs1_ z2_)]
        · rw [if_neg z2_, if_neg z2_])
    rw [e0_]
    have hp_ := su_b (f_ := t_rg (S_.2.2.1 134 0) A_ m_) (c_ := 1073741823) (k_ := A_.1 m_) (fun j_ hj_ => by
      have q_ := hw8_ j_ hj_
      have q2_ := c3_ (A_.2.2.2.2 (40 * m_ + j_)).toNat
      unfold t_rg
      split
      · omega
      · split <;> omega)
    by_cases e_ : m_ = M_
    · subst e_
      rw [if_pos rfl, if_pos rfl]
      have e5_ : t_rg (S'_.2.2.1 134 0) (a_te A_ m_ q_ cs_ w_ th) m_ (A_.1 m_) = if cs_ = 3 ∨ cs_ = 4 then w_ else if cs_ = 5 then S_.2.2.1 134 0 th.toNat else 0 := by
        unfold t_rg
        rw [q1_, q2_, q3_]
        by_cases z_ : cs_ = 3 ∨ cs_ = 4
        · rw [if_pos z_, if_pos z_]
        · rw [if_neg z_, if_neg z_]
          by_cases z2_ : cs_ = 5
          · have := ht_ z2_
            rw [if_pos z2_, if_pos z2_, h4_, if_neg (by omega)]
          · rw [if_neg z2_, if_neg z2_]
      rw [e5_, r3_]
      refine mn_mn hp_.1 ?_
      split
      · exact hw_
      · split
        · exact (c3_ _).1
        · decide
    · rw [if_neg e_, if_neg e_, r3_, Int.add_zero]
  · rw [su_te (S'_.2.2.1 135 0) t_is (fun A_ B_ m_ s_ z1_ z2_ z3_ => by unfold t_is; rw [z1_, z3_]) hA_ hm_, h5_]
    have e0_ : su (t_is (S'_.2.2.1 135 0) A_ m_) (A_.1 m_) = su (t_is (S_.2.2.1 135 0) A_ m_) (A_.1 m_) := su_cg (fun s_ hs1_ => by
      unfold t_is
      by_cases z2_ : A_.2.2.1 (40 * m_ + s_) = 5
      · rw [if_pos z2_, if_pos z2_, h5_, if_neg (dt_ s_ hs1_ z2_)]
      · rw [if_neg z2_, if_neg z2_])
    rw [e0_]
    have hp_ := su_b (f_ := t_is (S_.2.2.1 135 0) A_ m_) (c_ := 1073741824) (k_ := A_.1 m_) (fun j_ hj_ => by
      have q2_ := c4_ (A_.2.2.2.2 (40 * m_ + j_)).toNat
      unfold t_is
      split <;> omega)
    by_cases e_ : m_ = M_
    · subst e_
      rw [if_pos rfl, if_pos rfl]
      have e5_ : t_is (S'_.2.2.1 135 0) (a_te A_ m_ q_ cs_ w_ th) m_ (A_.1 m_) = if cs_ = 5 then 1 + S_.2.2.1 135 0 th.toNat else 0 := by
        unfold t_is
        rw [q1_, q3_]
        by_cases z2_ : cs_ = 5
        · have := ht_ z2_
          rw [if_pos z2_, if_pos z2_, h5_, if_neg (by omega)]
        · rw [if_neg z2_, if_neg z2_]
      rw [e5_, r4_]
      refine mn_mn hp_.1 ?_
      split
      · have := (c4_ th.toNat).1; omega
      · decide
    · rw [if_neg e_, if_neg e_, r4_, Int.add_zero]
end
/-! 99.ykb -/
section
/-! M_.nthOf -/
def vw_304 : sx_Wl := ([], [], [])
def vq_304 (m_ : Int) (so_ : Int) (k_ : Int) (b_ : Nat → Int) (n_ : Nat) (T_ : Nat) (A_ : pA) (mm_ : Nat) (S0_ : sm_S) (u_ : Option sm_V) (S1_ : sm_S) : Prop := S0_ = S1_ ∧ ∃ v_ : Int, u_ = some (.inl v_) ∧ ((v_ = -1 ∧ (p_cn (fun s_ => decide (r_s2 (A_.2.2.1 (40 * mm_ + s_)) = so_)) (A_.1 mm_) : Int) ≤ k_) ∨ ∃ u_ : Nat, v_ = (u_ : Int) ∧ u_ < A_.1 mm_ ∧ (fun s_ => decide (r_s2 (A_.2.2.1 (40 * mm_ + s_)) = so_)) u_ = true ∧ (p_cn (fun s_ => decide (r_s2 (A_.2.2.1 (40 * mm_ + s_)) = so_)) u_ : Int) = k_)
set_option maxHeartbeats 400000 in
theorem vl_304 {sc_ : Nat × (Nat → Int)} (m_ : Int) (so_ : Int) (k_ : Int) (b_ : Nat → Int) (n_ : Nat) (T_ : Nat) (A_ : pA) (mm_ : Nat) (S0_ : sm_S) (hmm_ : m_ = (mm_ : Int) ∧ mm_ ≤ 15) (hr_ : re1 b_ n_ T_ A_ mm_ S0_) (hA_ : A_.1 mm_ ≤ 40) (hk_ : 0 ≤ k_ ∧ k_ ≤ 2000) : ∀ nn_ : Nat, (∀ (r_ : Int) (i_ : Int) (S_ : sm_S), gi S_ → ai_fr (sx_W vw_304) S0_ S_ → ((0 ≤ i_ ∧ i_ ≤ (A_.1 mm_ : Int)) ∧ (0 ≤ r_ ∧ r_ = k_ - (p_cn (fun s_ => decide (r_s2 (A_.2.2.1 (40 * mm_ + s_)) = so_)) i_.toNat : Int)) ∧ (S_ = S0_) ∧ True) → (((A_.1 mm_ : Int) - i_).toNat) < nn_ → sm_T (mt_P sc_) 0 304 (6, [some (.inr (.inr (some (13, 0)))), some (.inl m_), some (.inl so_), some (.inl k_), some (.inl r_), some (.inl i_)], [], S_) (fun r_ => ∃ u_ S1_, r_ = (.inl u_, S1_, 0) ∧ vq_304 m_ so_ k_ b_ n_ T_ A_ mm_ S0_ u_ S1_)) := by
  intro nn_
  induction nn_ with
  | zero => exact fun _ _ _ _ _ _ h_ => absurd h_ (Nat.not_lt_zero _)
  | succ nn_ ih_ =>
    rintro r_ i_ S_ hI_ hF_ ⟨h0_, h1_, hS_, -⟩ hm_
    have hK_ : S_.2.2.1 126 0 m_.toNat = (A_.1 mm_ : Int) := by rw [hS_, show m_.toNat = mm_ by omega]; exact hr_.1
    have cb_ := p_cn_b (g_ := (fun s_ => decide (r_s2 (A_.2.2.1 (40 * mm_ + s_)) = so_))) i_.toNat
    have sv_ : i_ < (A_.1 mm_ : Int) → S_.2.2.1 128 0 (40 * m_ + i_).toNat = r_s2 (A_.2.2.1 (40 * mm_ + i_.toNat)) := by intro z_; rw [hS_, show (40 * m_ + i_).toNat = 40 * mm_ + i_.toNat by omega]; exact (hr_.2 i_.toNat (by omega)).2.1
    refine sm_T_go 4 (c1 := (13, [some (.inr (.inr (some (13, 0)))), some (.inl m_), some (.inl so_), some (.inl k_), some (.inl r_), some (.inl i_)], [.inl m_, .inr (.inr (some (126, 0))), .inl i_], S_)) rfl ?_
    refine sm_T_iald (n := 16) rfl rfl (by omega) (by omega) ?_
    have bx1_ : 0 ≤ S_.2.2.1 126 0 m_.toNat ∧ S_.2.2.1 126 0 m_.toNat ≤ 40 := hI_.2 126 0 _
    refine sm_T_br (a := 3) (z := 36) rfl (fun cx2_ => ?_) (fun cx2_ => ?_)
    · have cx2_ : (S_.2.2.1 126 0 m_.toNat) ≤ i_ := of_decide_eq_true cx2_
      refine sm_T_go 1 (c1 := (51, [some (.inr (.inr (some (13, 0)))), some (.inl m_), some (.inl so_), some (.inl k_), some (.inl r_), some (.inl i_)], [.inl (-1)], S_)) rfl ?_
      refine sm_T_ri rfl ⟨_, _, rfl, (by first | rfl | exact hS_.symm), _, rfl, ?_⟩
      left
      refine ⟨rfl, ?_⟩
      rw [show A_.1 mm_ = i_.toNat by omega]
      omega
    · have cx2_ : ¬ ((S_.2.2.1 126 0 m_.toNat) ≤ i_) := of_decide_eq_false cx2_
      refine sm_T_go 4 (c1 := (24, [some (.inr (.inr (some (13, 0)))), some (.inl m_), some (.inl so_), some (.inl k_), some (.inl r_), some (.inl i_)], [.inl m_, .inl 40, .inr (.inr (some (128, 0)))], S_)) rfl ?_
      refine sm_T_bin (w := 40 * m_) rfl (bi_mul (by omega) (by omega) (by omega)) ?_
      refine sm_T_go 1 (c1 := (27, [some (.inr (.inr (some (13, 0)))), some (.inl m_), some (.inl so_), some (.inl k_), some (.inl r_), some (.inl i_)], [.inl i_, .inl (40 * m_), .inr (.inr (some (128, 0)))], S_)) rfl ?_
      refine sm_T_bin (w := 40 * m_ + i_) rfl (bi_add (by omega) (by omega) (by omega)) ?_
      refine sm_T_iald (n := 640) rfl rfl (by omega) (by omega) ?_
      have bx3_ : 0 ≤ S_.2.2.1 128 0 (40 * m_ + i_).toNat ∧ S_.2.2.1 128 0 (40 * m_ + i_).toNat ≤ 5 := hI_.2 128 0 _
      refine sm_T_go 1 (c1 := (30, [some (.inr (.inr (some (13, 0)))), some (.inl m_), some (.inl so_), some (.inl k_), some (.inl r_), some (.inl i_)], [.inl so_, .inl (S_.2.2.1 128 0 (40 * m_ + i_).toNat)], S_)) rfl ?_
      refine sm_T_br (a := 1) (z := 14) rfl (fun cx4_ => ?_) (fun cx4_ => ?_)
      · have cx4_ : (S_.2.2.1 128 0 (40 * m_ + i_).toNat) ≠ so_ := of_decide_eq_true cx4_
        refine sm_T_inc (a := 5) (z := 1) (v := i_) (w := i_ + 1) rfl rfl (by omega) (by omega) (by omega) ?_
        refine sm_T_go 1 (c1 := (6, [some (.inr (.inr (some (13, 0)))), some (.inl m_), some (.inl so_), some (.inl k_), some (.inl r_), some (.inl (i_ + 1))], [], S_)) rfl ?_
        refine ih_ r_ (i_ + 1) S_ hI_ hF_ ⟨?_, ?_, ?_, trivial⟩ ?_
        · omega
        · have s9_ := sv_ (by omega)
          rw [show (i_ + 1).toNat = i_.toNat + 1 by omega, p_cn]
          first | (rw [if_pos (decide_eq_true (by omega))]; push_cast; omega) | (rw [if_neg (by rw [decide_eq_false (by omega)]; decide)]; push_cast; omega)
        · first | rfl | exact hS_
        · omega
      · have cx4_ : ¬ ((S_.2.2.1 128 0 (40 * m_ + i_).toNat) ≠ so_) := of_decide_eq_false cx4_
        refine sm_T_go 1 (c1 := (35, [some (.inr (.inr (some (13, 0)))), some (.inl m_), some (.inl so_), some (.inl k_), some (.inl r_), some (.inl i_)], [.inl r_], S_)) rfl ?_
        refine sm_T_b0 (a := 1) (z := 6) rfl (fun cx5_ => ?_) (fun cx5_ => ?_)
        · have cx5_ : r_ ≠ 0 := of_decide_eq_true cx5_
          refine sm_T_inc (a := 4) (z := (-1)) (v := r_) (w := r_ - 1) rfl rfl (by omega) (by omega) (by omega) ?_
          refine sm_T_inc (a := 5) (z := 1) (v := i_) (w := i_ + 1) rfl rfl (by omega) (by omega) (by omega) ?_
          refine sm_T_go 1 (c1 := (6, [some (.inr (.inr (some (13, 0)))), some (.inl m_), some (.inl so_), some (.inl k_), some (.inl (r_ - 1)), some (.inl (i_ + 1))], [], S_)) rfl ?_
          refine ih_ (r_ - 1) (i_ + 1) S_ hI_ hF_ ⟨?_, ?_, ?_, trivial⟩ ?_
          · omega
          · have s9_ := sv_ (by omega)
            rw [show (i_ + 1).toNat = i_.toNat + 1 by omega, p_cn]
            first | (rw [if_pos (decide_eq_true (by omega))]; push_cast; omega) | (rw [if_neg (by rw [decide_eq_false (by omega)]; decide)]; push_cast; omega)
          · first | rfl | exact hS_
          · omega
        · have cx5_ : ¬ (r_ ≠ 0) := of_decide_eq_false cx5_
          refine sm_T_go 1 (c1 := (40, [some (.inr (.inr (some (13, 0)))), some (.inl m_), some (.inl so_), some (.inl k_), some (.inl r_), some (.inl i_)], [.inl i_], S_)) rfl ?_
          refine sm_T_ri rfl ⟨_, _, rfl, (by first | rfl | exact hS_.symm), _, rfl, ?_⟩
          right
          exact ⟨i_.toNat, by omega, by omega, decide_eq_true (by have := sv_ (by omega); omega), by omega⟩
set_option maxHeartbeats 400000 in
theorem vc_304 {sc_ : Nat × (Nat → Int)} (m_ : Int) (so_ : Int) (k_ : Int) (b_ : Nat → Int) (n_ : Nat) (T_ : Nat) (A_ : pA) (mm_ : Nat) (S0_ : sm_S) (hI_ : gi S0_) (hmm_ : m_ = (mm_ : Int) ∧ mm_ ≤ 15) (hr_ : re1 b_ n_ T_ A_ mm_ S0_) (hA_ : A_.1 mm_ ≤ 40) (hk_ : 0 ≤ k_ ∧ k_ ≤ 2000) : sm_T (mt_P sc_) 0 304 (0, [some (.inr (.inr (some (13, 0)))), some (.inl m_), some (.inl so_), some (.inl k_), none, none], [], S0_) (fun r_ => ∃ u_ S1_, r_ = (.inl u_, S1_, 0) ∧ vq_304 m_ so_ k_ b_ n_ T_ A_ mm_ S0_ u_ S1_) := by
  have hF_ : ai_fr (sx_W vw_304) S0_ S0_ := ai_fr_rf
  refine sm_T_go 4 (c1 := (6, [some (.inr (.inr (some (13, 0)))), some (.inl m_), some (.inl so_), some (.inl k_), some (.inl k_), some (.inl 0)], [], S0_)) rfl ?_
  refine (vl_304 m_ so_ k_ b_ n_ T_ A_ mm_ S0_ hmm_ hr_ hA_ hk_ _) k_ 0 S0_ hI_ hF_ ⟨?_, ?_, ?_, trivial⟩ (Nat.lt_succ_self _)
  · omega
  · refine ⟨hk_.1, ?_⟩
    show k_ = k_ - ((0 : Nat) : Int)
    omega
  · first | rfl | exact hS_
end
/-! 99.ykc -/
section
/-! M_.tell -/
def vw_308 : sx_Wl := ([], [126, 127, 128, 129, 130, 131, 132, 133, 134, 135], [])
def vq_308 (m_ : Int) (so_ : Int) (th : Int) (b_ : Nat → Int) (n_ : Nat) (T_ : Nat) (x_ : pE Nat) (A_ : pA) (M_ : Nat) (cs_ : Int) (S0_ : sm_S) (u_ : Option sm_V) (S1_ : sm_S) : Prop := u_ = none ∧ gi S1_ ∧ ai_fr (sx_W vw_308) S0_ S1_ ∧ (rg b_ n_ T_ x_ S1_ ∧ ∀ p_ q_, x_ = .inr p_ → rtk b_ n_ T_ (S0_.1 13 0 25) q_ → (∀ m_, m_ ≤ M_ → re1 b_ n_ T_ (a_te A_ M_ q_ cs_ (S0_.1 13 0 26) th) m_ S1_) ∧ (∀ m_, m_ ≤ M_ → rs1 (a_te A_ M_ q_ cs_ (S0_.1 13 0 26) th) m_ S1_))
set_option maxHeartbeats 4000000 in
set_option maxRecDepth 20000 in
theorem vl_308 {sc_ : Nat × (Nat → Int)} (m_ : Int) (so_ : Int) (th : Int) (b_ : Nat → Int) (n_ : Nat) (T_ : Nat) (x_ : pE Nat) (A_ : pA) (M_ : Nat) (cs_ : Int) (S0_ : sm_S) (hI0_ : gi S0_) (hx_ : rg b_ n_ T_ x_ S0_) (hmm_ : m_ = (M_ : Int) ∧ M_ ≤ 15) (hso_ : so_ = r_s2 cs_ ∧ cs_ ≠ 4 ∧ 0 ≤ cs_ ∧ cs_ ≤ 5) (hr_ : ∀ p_, x_ = .inr p_ → a_ok b_ n_ A_ M_ ∧ (∀ m_, m_ ≤ M_ → re1 b_ n_ T_ A_ m_ S0_) ∧ (∀ m_, m_ ≤ M_ → rs1 A_ m_ S0_) ∧ A_.1 M_ < 40 ∧ (0 ≤ (S0_.1 13 0 26) ∧ (S0_.1 13 0 26) ≤ 8) ∧ (0 ≤ th ∧ th ≤ 255) ∧ (cs_ = 5 → th < (M_ : Int))) : ∀ nn_ : Nat, (∀  (S_ : sm_S), gi S_ → ai_fr (sx_W vw_308) S0_ S_ → ((∃ p_, x_ = .inr p_) ∧ (∀ j_ : Nat, (S_.2.2.1 126 0 (j_)) = if j_ = M_ then (A_.1 M_ : Int) + 1 else (S0_.2.2.1 126 0 (j_))) ∧ (∀ j_ : Nat, (S_.2.2.1 127 0 (j_)) = if j_ = 40 * M_ + A_.1 M_ then (S0_.1 13 0 25) else (S0_.2.2.1 127 0 (j_))) ∧ (∀ j_ : Nat, (S_.2.2.1 128 0 (j_)) = if j_ = 40 * M_ + A_.1 M_ then so_ else (S0_.2.2.1 128 0 (j_))) ∧ (∀ j_ : Nat, (S_.2.2.1 129 0 (j_)) = if j_ = 40 * M_ + A_.1 M_ then (S0_.1 13 0 26) else (S0_.2.2.1 129 0 (j_))) ∧ (∀ j_ : Nat, (S_.2.2.1 130 0 (j_)) = if j_ = 40 * M_ + A_.1 M_ then th else (S0_.2.2.1 130 0 (j_))) ∧ (∀ j_ : Nat, (S_.2.2.1 131 0 (j_)) = if j_ = 40 * M_ + A_.1 M_ then 0 else (S0_.2.2.1 131 0 (j_))) ∧ (∀ j_ : Nat, (S_.2.2.1 132 0 (j_)) = if j_ = M_ then (S0_.2.2.1 132 0 (M_)) + (if so_ = 1 then (S0_.1 13 0 26) else 0) else (S0_.2.2.1 132 0 (j_))) ∧ (∀ j_ : Nat, (S_.2.2.1 133 0 (j_)) = if j_ = M_ then (S0_.2.2.1 133 0 (M_)) + (if so_ = 2 then (S0_.1 13 0 26) else 0) else (S0_.2.2.1 133 0 (j_))) ∧ (∀ j_ : Nat, (S_.2.2.1 134 0 (j_)) = if j_ = M_ then (S0_.2.2.1 134 0 (M_)) + (if so_ = 4 then (S0_.1 13 0 26) else if so_ = 5 then (S0_.2.2.1 134 0 (th.toNat)) else 0) else (S0_.2.2.1 134 0 (j_))) ∧ (∀ j_ : Nat, (S_.2.2.1 135 0 (j_)) = if j_ = M_ then (S0_.2.2.1 135 0 (M_)) + (if so_ = 5 then 1 + (S0_.2.2.1 135 0 (th.toNat)) else 0) else (S0_.2.2.1 135 0 (j_))) ∧ True) → ((2 : Nat)) < nn_ → sm_T (mt_P sc_) 1 308 (183, [some (.inr (.inr (some (13, 0)))), some (.inl m_), some (.inl so_), some (.inl th), none], [], S_) (fun r_ => ∃ u_ S1_, r_ = (.inl u_, S1_, 0) ∧ vq_308 m_ so_ th b_ n_ T_ x_ A_ M_ cs_ S0_ u_ S1_)) := by
  intro nn_
  induction nn_ with
  | zero => exact fun  _ _ _ _ h_ => absurd h_ (Nat.not_lt_zero _)
  | succ nn_ ih_ =>
    rintro  S_ hI_ hF_ ⟨hp_, h0_, h1_, h2_, h3_, h4_, h5_, h6_, h7_, h8_, h9_, -⟩ hm_
    obtain ⟨p_, hp1_⟩ := hp_
    obtain ⟨a1_, a2_, a3_, a4_, a7_, a8_, a9_⟩ := hr_ p_ hp1_
    have mM_ : m_.toNat = M_ := by omega
    have rb := rs1_b hI0_ a1_ (Nat.le_refl M_) (a3_ M_ (Nat.le_refl M_))
    have cs5_ : so_ = 5 ↔ cs_ = 5 := by have z1_ := hso_.1; have z2_ := hso_.2.1; have z3_ := hso_.2.2; unfold r_s2 at z1_; split at z1_ <;> (try split at z1_) <;> omega
    have cs4_ : so_ = 4 ↔ cs_ = 3 := by have z1_ := hso_.1; have z2_ := hso_.2.1; have z3_ := hso_.2.2; unfold r_s2 at z1_; split at z1_ <;> (try split at z1_) <;> omega
    have cs1_ : so_ = 1 ↔ cs_ = 0 := by have z1_ := hso_.1; have z2_ := hso_.2.1; have z3_ := hso_.2.2; unfold r_s2 at z1_; split at z1_ <;> (try split at z1_) <;> omega
    have cs2_ : so_ = 2 ↔ cs_ = 1 := by have z1_ := hso_.1; have z2_ := hso_.2.1; have z3_ := hso_.2.2; unfold r_s2 at z1_; split at z1_ <;> (try split at z1_) <;> omega
    have sob_ : 1 ≤ so_ ∧ so_ ≤ 5 := by have z1_ := hso_.1; have z2_ := hso_.2.1; have z3_ := hso_.2.2; unfold r_s2 at z1_; split at z1_ <;> (try split at z1_) <;> omega
    obtain ⟨r8_, hr8_, hq8_⟩ : ∃ r8_, r8_ = (if so_ = 4 then (S0_.1 13 0 26) else if so_ = 5 then (S0_.2.2.1 134 0 (th.toNat)) else 0) ∧ (S_.2.2.1 134 0 (m_.toNat)) = (S0_.2.2.1 134 0 (M_)) + r8_ := ⟨_, rfl, by rw [mM_, h8_ M_, if_pos rfl]⟩
    obtain ⟨r9_, hr9_, hq9_⟩ : ∃ r9_, r9_ = (if so_ = 5 then 1 + (S0_.2.2.1 135 0 (th.toNat)) else 0) ∧ (S_.2.2.1 135 0 (m_.toNat)) = (S0_.2.2.1 135 0 (M_)) + r9_ := ⟨_, rfl, by rw [mM_, h9_ M_, if_pos rfl]⟩
    have r8c : (if cs_ = 3 ∨ cs_ = 4 then (S0_.1 13 0 26) else if cs_ = 5 then (S0_.2.2.1 134 0 (th.toNat)) else 0) = r8_ := by rw [hr8_]; have z2_ := hso_.2.1; (repeat' split); all_goals omega
    have r9c : (if cs_ = 5 then 1 + (S0_.2.2.1 135 0 (th.toNat)) else 0) = r9_ := by rw [hr9_]; (repeat' split); all_goals omega
    refine sm_T_go 6 (c1 := (193, [some (.inr (.inr (some (13, 0)))), some (.inl m_), some (.inl so_), some (.inl th), none], [.inl m_, .inr (.inr (some (135, 0))), .inl m_, .inr (.inr (some (135, 0)))], S_)) rfl ?_
    refine sm_T_iald (n := 16) rfl rfl (by omega) (by omega) ?_
    have bx1_ : 0 ≤ S_.2.2.1 135 0 m_.toNat ∧ S_.2.2.1 135 0 m_.toNat ≤ 1073741823 := hI_.2 135 0 _
    refine sm_T_go 1 (c1 := (197, [some (.inr (.inr (some (13, 0)))), some (.inl m_), some (.inl so_), some (.inl th), none], [.inl 1000, .inl (S_.2.2.1 135 0 m_.toNat), .inl m_, .inr (.inr (some (135, 0)))], S_)) rfl ?_
    refine sm_T_br (a := 5) (z := 9) rfl (fun cx2_ => ?_) (fun cx2_ => ?_)
    · have cx2_ : (S_.2.2.1 135 0 m_.toNat) ≤ 1000 := of_decide_eq_true cx2_
      refine sm_T_go 3 (c1 := (211, [some (.inr (.inr (some (13, 0)))), some (.inl m_), some (.inl so_), some (.inl th), none], [.inl m_, .inr (.inr (some (135, 0))), .inl m_, .inr (.inr (some (135, 0)))], S_)) rfl ?_
      refine sm_T_iald (n := 16) rfl rfl (by omega) (by omega) ?_
      refine sm_T_iast (n := 16) rfl rfl (by omega) (by omega) ?_
      have hIx3_ : gi (sm_aI S_ 135 0 m_.toNat (S_.2.2.1 135 0 m_.toNat)) := gi_aI hI_ (show 0 ≤ (S_.2.2.1 135 0 m_.toNat) ∧ (S_.2.2.1 135 0 m_.toNat) ≤ 1073741823 from ⟨by omega, by omega⟩)
      have hFx4_ : ai_fr (sx_W vw_308) S0_ (sm_aI S_ 135 0 m_.toNat (S_.2.2.1 135 0 m_.toNat)) := ai_fr_tr hF_ (ai_fr_aI rfl)
      refine sm_T_go 6 (c1 := (223, [some (.inr (.inr (some (13, 0)))), some (.inl m_), some (.inl so_), some (.inl th), none], [.inl m_, .inr (.inr (some (134, 0))), .inl m_, .inr (.inr (some (134, 0)))], sm_aI S_ 135 0 m_.toNat (S_.2.2.1 135 0 m_.toNat))) rfl ?_
      refine sm_T_iald (n := 16) rfl rfl (by omega) (by omega) ?_
      have bx5_ : 0 ≤ S_.2.2.1 134 0 m_.toNat ∧ S_.2.2.1 134 0 m_.toNat ≤ 1073741823 := hI_.2 134 0 _
      refine sm_T_go 1 (c1 := (227, [some (.inr (.inr (some (13, 0)))), some (.inl m_), some (.inl so_), some (.inl th), none], [.inl 1000, .inl (S_.2.2.1 134 0 m_.toNat), .inl m_, .inr (.inr (some (134, 0)))], sm_aI S_ 135 0 m_.toNat (S_.2.2.1 135 0 m_.toNat))) rfl ?_
      refine sm_T_br (a := 5) (z := 9) rfl (fun cx6_ => ?_) (fun cx6_ => ?_)
      · have cx6_ : (S_.2.2.1 134 0 m_.toNat) ≤ 1000 := of_decide_eq_true cx6_
        refine sm_T_go 3 (c1 := (241, [some (.inr (.inr (some (13, 0)))), some (.inl m_), some (.inl so_), some (.inl th), none], [.inl m_, .inr (.inr (some (134, 0))), .inl m_, .inr (.inr (some (134, 0)))], sm_aI S_ 135 0 m_.toNat (S_.2.2.1 135 0 m_.toNat))) rfl ?_
        refine sm_T_iald (n := 16) rfl rfl (by omega) (by omega) ?_
        refine sm_T_go 0 (c1 := (242, [some (.inr (.inr (some (13, 0)))), some (.inl m_), some (.inl so_), some (.inl th), none], [.inl (S_.2.2.1 134 0 m_.toNat), .inl m_, .inr (.inr (some (134, 0)))], sm_aI S_ 135 0 m_.toNat (S_.2.2.1 135 0 m_.toNat))) rfl ?_
        refine sm_T_iast (n := 16) rfl rfl (by omega) (by omega) ?_
        have hIx7_ : gi (sm_aI (sm_aI S_ 135 0 m_.toNat (S_.2.2.1 135 0 m_.toNat)) 134 0 m_.toNat (S_.2.2.1 134 0 m_.toNat)) := gi_aI hIx3_ (show 0 ≤ (S_.2.2.1 134 0 m_.toNat) ∧ (S_.2.2.1 134 0 m_.toNat) ≤ 1073741823 from ⟨by omega, by omega⟩)
        have hFx8_ : ai_fr (sx_W vw_308) S0_ (sm_aI (sm_aI S_ 135 0 m_.toNat (S_.2.2.1 135 0 m_.toNat)) 134 0 m_.toNat (S_.2.2.1 134 0 m_.toNat)) := ai_fr_tr hFx4_ (ai_fr_aI rfl)
        refine sm_T_rv rfl ⟨_, _, rfl, rfl, hIx7_, hFx8_, ?_⟩
        refine ⟨rg_fr hx_ hFx8_ rfl rfl rfl, fun p9_ q9_ hp9_ a5_ => ⟨te_re a2_ a5_ ⟨hso_.1, hso_.2.1⟩ (fun j_ => by (try simp only [rd_eq, rd_ne, rf_eq, rf_nk, rf_nt, rd_fa, rd_af, rd_fl, rd_al, rd_lf, rd_la, rd_leq, rd_lne, rd_fr, rd_ar, ne_eq, Nat.reduceEqDiff, not_false_eq_true]); exact h0_ j_) (fun j_ => by (try simp only [rd_eq, rd_ne, rf_eq, rf_nk, rf_nt, rd_fa, rd_af, rd_fl, rd_al, rd_lf, rd_la, rd_leq, rd_lne, rd_fr, rd_ar, ne_eq, Nat.reduceEqDiff, not_false_eq_true]); exact h1_ j_) (fun j_ => by (try simp only [rd_eq, rd_ne, rf_eq, rf_nk, rf_nt, rd_fa, rd_af, rd_fl, rd_al, rd_lf, rd_la, rd_leq, rd_lne, rd_fr, rd_ar, ne_eq, Nat.reduceEqDiff, not_false_eq_true]); exact h2_ j_) (fun j_ => by (try simp only [rd_eq, rd_ne, rf_eq, rf_nk, rf_nt, rd_fa, rd_af, rd_fl, rd_al, rd_lf, rd_la, rd_leq, rd_lne, rd_fr, rd_ar, ne_eq, Nat.reduceEqDiff, not_false_eq_true]); exact h3_ j_) (fun j_ => by (try simp only [rd_eq, rd_ne, rf_eq, rf_nk, rf_nt, rd_fa, rd_af, rd_fl, rd_al, rd_lf, rd_la, rd_leq, rd_lne, rd_fr, rd_ar, ne_eq, Nat.reduceEqDiff, not_false_eq_true]); exact h4_ j_) (fun j_ => by (try simp only [rd_eq, rd_ne, rf_eq, rf_nk, rf_nt, rd_fa, rd_af, rd_fl, rd_al, rd_lf, rd_la, rd_leq, rd_lne, rd_fr, rd_ar, ne_eq, Nat.reduceEqDiff, not_false_eq_true]); exact h5_ j_) (fun m_ hm_ => (a1_.2 m_ hm_).1) a4_, te_rs hI0_ a1_ a3_ a7_.1 (fun z_ => ⟨a8_.1, a9_ z_⟩) ?_ ?_ (fun j_ => by (try simp only [rd_eq, rd_ne, rf_eq, rf_nk, rf_nt, rd_fa, rd_af, rd_fl, rd_al, rd_lf, rd_la, rd_leq, rd_lne, rd_fr, rd_ar, ne_eq, Nat.reduceEqDiff, not_false_eq_true]); rw [r8c]; by_cases z_ : j_ = M_; (rw [if_pos (show j_ = m_.toNat by omega), if_pos z_]; unfold mn; first | (rw [if_pos (by omega)]) | (rw [if_neg (by omega)]; omega)); (rw [if_neg (show ¬ j_ = m_.toNat by omega), if_neg z_]; have y_ := h8_ j_; rw [if_neg z_] at y_; exact y_)) (fun j_ => by (try simp only [rd_eq, rd_ne, rf_eq, rf_nk, rf_nt, rd_fa, rd_af, rd_fl, rd_al, rd_lf, rd_la, rd_leq, rd_lne, rd_fr, rd_ar, ne_eq, Nat.reduceEqDiff, not_false_eq_true]); rw [r9c]; by_cases z_ : j_ = M_; (rw [if_pos (show j_ = m_.toNat by omega), if_pos z_]; unfold mn; first | (rw [if_pos (by omega)]) | (rw [if_neg (by omega)]; omega)); (rw [if_neg (show ¬ j_ = m_.toNat by omega), if_neg z_]; have y_ := h9_ j_; rw [if_neg z_] at y_; exact y_))⟩⟩
        · intro j_; (try simp only [rd_eq, rd_ne, rf_eq, rf_nk, rf_nt, rd_fa, rd_af, rd_fl, rd_al, rd_lf, rd_la, rd_leq, rd_lne, rd_fr, rd_ar, ne_eq, Nat.reduceEqDiff, not_false_eq_true]); rw [h6_ j_]; (repeat' split); all_goals omega
        · intro j_; (try simp only [rd_eq, rd_ne, rf_eq, rf_nk, rf_nt, rd_fa, rd_af, rd_fl, rd_al, rd_lf, rd_la, rd_leq, rd_lne, rd_fr, rd_ar, ne_eq, Nat.reduceEqDiff, not_false_eq_true]); rw [h7_ j_]; (repeat' split); all_goals omega
      · have cx6_ : ¬ ((S_.2.2.1 134 0 m_.toNat) ≤ 1000) := of_decide_eq_false cx6_
        refine sm_T_go 2 (c1 := (242, [some (.inr (.inr (some (13, 0)))), some (.inl m_), some (.inl so_), some (.inl th), none], [.inl 1000, .inl m_, .inr (.inr (some (134, 0)))], sm_aI S_ 135 0 m_.toNat (S_.2.2.1 135 0 m_.toNat))) rfl ?_
        refine sm_T_iast (n := 16) rfl rfl (by omega) (by omega) ?_
        have hIx9_ : gi (sm_aI (sm_aI S_ 135 0 m_.toNat (S_.2.2.1 135 0 m_.toNat)) 134 0 m_.toNat 1000) := gi_aI hIx3_ (show 0 ≤ 1000 ∧ 1000 ≤ 1073741823 from ⟨by omega, by omega⟩)
        have hFx10_ : ai_fr (sx_W vw_308) S0_ (sm_aI (sm_aI S_ 135 0 m_.toNat (S_.2.2.1 135 0 m_.toNat)) 134 0 m_.toNat 1000) := ai_fr_tr hFx4_ (ai_fr_aI rfl)
        refine sm_T_rv rfl ⟨_, _, rfl, rfl, hIx9_, hFx10_, ?_⟩
        refine ⟨rg_fr hx_ hFx10_ rfl rfl rfl, fun p9_ q9_ hp9_ a5_ => ⟨te_re a2_ a5_ ⟨hso_.1, hso_.2.1⟩ (fun j_ => by (try simp only [rd_eq, rd_ne, rf_eq, rf_nk, rf_nt, rd_fa, rd_af, rd_fl, rd_al, rd_lf, rd_la, rd_leq, rd_lne, rd_fr, rd_ar, ne_eq, Nat.reduceEqDiff, not_false_eq_true]); exact h0_ j_) (fun j_ => by (try simp only [rd_eq, rd_ne, rf_eq, rf_nk, rf_nt, rd_fa, rd_af, rd_fl, rd_al, rd_lf, rd_la, rd_leq, rd_lne, rd_fr, rd_ar, ne_eq, Nat.reduceEqDiff, not_false_eq_true]); exact h1_ j_) (fun j_ => by (try simp only [rd_eq, rd_ne, rf_eq, rf_nk, rf_nt, rd_fa, rd_af, rd_fl, rd_al, rd_lf, rd_la, rd_leq, rd_lne, rd_fr, rd_ar, ne_eq, Nat.reduceEqDiff, not_false_eq_true]); exact h2_ j_) (fun j_ => by (try simp only [rd_eq, rd_ne, rf_eq, rf_nk, rf_nt, rd_fa, rd_af, rd_fl, rd_al, rd_lf, rd_la, rd_leq, rd_lne, rd_fr, rd_ar, ne_eq, Nat.reduceEqDiff, not_false_eq_true]); exact h3_ j_) (fun j_ => by (try simp only [rd_eq, rd_ne, rf_eq, rf_nk, rf_nt, rd_fa, rd_af, rd_fl, rd_al, rd_lf, rd_la, rd_leq, rd_lne, rd_fr, rd_ar, ne_eq, Nat.reduceEqDiff, not_false_eq_true]); exact h4_ j_) (fun j_ => by (try simp only [rd_eq, rd_ne, rf_eq, rf_nk, rf_nt, rd_fa, rd_af, rd_fl, rd_al, rd_lf, rd_la, rd_leq, rd_lne, rd_fr, rd_ar, ne_eq, Nat.reduceEqDiff, not_false_eq_true]); exact h5_ j_) (fun m_ hm_ => (a1_.2 m_ hm_).1) a4_, te_rs hI0_ a1_ a3_ a7_.1 (fun z_ => ⟨a8_.1, a9_ z_⟩) ?_ ?_ (fun j_ => by (try simp only [rd_eq, rd_ne, rf_eq, rf_nk, rf_nt, rd_fa, rd_af, rd_fl, rd_al, rd_lf, rd_la, rd_leq, rd_lne, rd_fr, rd_ar, ne_eq, Nat.reduceEqDiff, not_false_eq_true]); rw [r8c]; by_cases z_ : j_ = M_; (rw [if_pos (show j_ = m_.toNat by omega), if_pos z_]; unfold mn; first | (rw [if_pos (by omega)]) | (rw [if_neg (by omega)]; omega)); (rw [if_neg (show ¬ j_ = m_.toNat by omega), if_neg z_]; have y_ := h8_ j_; rw [if_neg z_] at y_; exact y_)) (fun j_ => by (try simp only [rd_eq, rd_ne, rf_eq, rf_nk, rf_nt, rd_fa, rd_af, rd_fl, rd_al, rd_lf, rd_la, rd_leq, rd_lne, rd_fr, rd_ar, ne_eq, Nat.reduceEqDiff, not_false_eq_true]); rw [r9c]; by_cases z_ : j_ = M_; (rw [if_pos (show j_ = m_.toNat by omega), if_pos z_]; unfold mn; first | (rw [if_pos (by omega)]) | (rw [if_neg (by omega)]; omega)); (rw [if_neg (show ¬ j_ = m_.toNat by omega), if_neg z_]; have y_ := h9_ j_; rw [if_neg z_] at y_; exact y_))⟩⟩
        · intro j_; (try simp only [rd_eq, rd_ne, rf_eq, rf_nk, rf_nt, rd_fa, rd_af, rd_fl, rd_al, rd_lf, rd_la, rd_leq, rd_lne, rd_fr, rd_ar, ne_eq, Nat.reduceEqDiff, not_false_eq_true]); rw [h6_ j_]; (repeat' split); all_goals omega
        · intro j_; (try simp only [rd_eq, rd_ne, rf_eq, rf_nk, rf_nt, rd_fa, rd_af, rd_fl, rd_al, rd_lf, rd_la, rd_leq, rd_lne, rd_fr, rd_ar, ne_eq, Nat.reduceEqDiff, not_false_eq_true]); rw [h7_ j_]; (repeat' split); all_goals omega
    · have cx2_ : ¬ ((S_.2.2.1 135 0 m_.toNat) ≤ 1000) := of_decide_eq_false cx2_
      refine sm_T_go 2 (c1 := (212, [some (.inr (.inr (some (13, 0)))), some (.inl m_), some (.inl so_), some (.inl th), none], [.inl 1000, .inl m_, .inr (.inr (some (135, 0)))], S_)) rfl ?_
      refine sm_T_iast (n := 16) rfl rfl (by omega) (by omega) ?_
      have hIx11_ : gi (sm_aI S_ 135 0 m_.toNat 1000) := gi_aI hI_ (show 0 ≤ 1000 ∧ 1000 ≤ 1073741823 from ⟨by omega, by omega⟩)
      have hFx12_ : ai_fr (sx_W vw_308) S0_ (sm_aI S_ 135 0 m_.toNat 1000) := ai_fr_tr hF_ (ai_fr_aI rfl)
      refine sm_T_go 6 (c1 := (223, [some (.inr (.inr (some (13, 0)))), some (.inl m_), some (.inl so_), some (.inl th), none], [.inl m_, .inr (.inr (some (134, 0))), .inl m_, .inr (.inr (some (134, 0)))], sm_aI S_ 135 0 m_.toNat 1000)) rfl ?_
      refine sm_T_iald (n := 16) rfl rfl (by omega) (by omega) ?_
      have bx13_ : 0 ≤ S_.2.2.1 134 0 m_.toNat ∧ S_.2.2.1 134 0 m_.toNat ≤ 1073741823 := hI_.2 134 0 _
      refine sm_T_go 1 (c1 := (227, [some (.inr (.inr (some (13, 0)))), some (.inl m_), some (.inl so_), some (.inl th), none], [.inl 1000, .inl (S_.2.2.1 134 0 m_.toNat), .inl m_, .inr (.inr (some (134, 0)))], sm_aI S_ 135 0 m_.toNat 1000)) rfl ?_
      refine sm_T_br (a := 5) (z := 9) rfl (fun cx14_ => ?_) (fun cx14_ => ?_)
      · have cx14_ : (S_.2.2.1 134 0 m_.toNat) ≤ 1000 := of_decide_eq_true cx14_
        refine sm_T_go 3 (c1 := (241, [some (.inr (.inr (some (13, 0)))), some (.inl m_), some (.inl so_), some (.inl th), none], [.inl m_, .inr (.inr (some (134, 0))), .inl m_, .inr (.inr (some (134, 0)))], sm_aI S_ 135 0 m_.toNat 1000)) rfl ?_
        refine sm_T_iald (n := 16) rfl rfl (by omega) (by omega) ?_
        refine sm_T_go 0 (c1 := (242, [some (.inr (.inr (some (13, 0)))), some (.inl m_), some (.inl so_), some (.inl th), none], [.inl (S_.2.2.1 134 0 m_.toNat), .inl m_, .inr (.inr (some (134, 0)))], sm_aI S_ 135 0 m_.toNat 1000)) rfl ?_
        refine sm_T_iast (n := 16) rfl rfl (by omega) (by omega) ?_
        have hIx15_ : gi (sm_aI (sm_aI S_ 135 0 m_.toNat 1000) 134 0 m_.toNat (S_.2.2.1 134 0 m_.toNat)) := gi_aI hIx11_ (show 0 ≤ (S_.2.2.1 134 0 m_.toNat) ∧ (S_.2.2.1 134 0 m_.toNat) ≤ 1073741823 from ⟨by omega, by omega⟩)
        have hFx16_ : ai_fr (sx_W vw_308) S0_ (sm_aI (sm_aI S_ 135 0 m_.toNat 1000) 134 0 m_.toNat (S_.2.2.1 134 0 m_.toNat)) := ai_fr_tr hFx12_ (ai_fr_aI rfl)
        refine sm_T_rv rfl ⟨_, _, rfl, rfl, hIx15_, hFx16_, ?_⟩
        refine ⟨rg_fr hx_ hFx16_ rfl rfl rfl, fun p9_ q9_ hp9_ a5_ => ⟨te_re a2_ a5_ ⟨hso_.1, hso_.2.1⟩ (fun j_ => by (try simp only [rd_eq, rd_ne, rf_eq, rf_nk, rf_nt, rd_fa, rd_af, rd_fl, rd_al, rd_lf, rd_la, rd_leq, rd_lne, rd_fr, rd_ar, ne_eq, Nat.reduceEqDiff, not_false_eq_true]); exact h0_ j_) (fun j_ => by (try simp only [rd_eq, rd_ne, rf_eq, rf_nk, rf_nt, rd_fa, rd_af, rd_fl, rd_al, rd_lf, rd_la, rd_leq, rd_lne, rd_fr, rd_ar, ne_eq, Nat.reduceEqDiff, not_false_eq_true]); exact h1_ j_) (fun j_ => by (try simp only [rd_eq, rd_ne, rf_eq, rf_nk, rf_nt, rd_fa, rd_af, rd_fl, rd_al, rd_lf, rd_la, rd_leq, rd_lne, rd_fr, rd_ar, ne_eq, Nat.reduceEqDiff, not_false_eq_true]); exact h2_ j_) (fun j_ => by (try simp only [rd_eq, rd_ne, rf_eq, rf_nk, rf_nt, rd_fa, rd_af, rd_fl, rd_al, rd_lf, rd_la, rd_leq, rd_lne, rd_fr, rd_ar, ne_eq, Nat.reduceEqDiff, not_false_eq_true]); exact h3_ j_) (fun j_ => by (try simp only [rd_eq, rd_ne, rf_eq, rf_nk, rf_nt, rd_fa, rd_af, rd_fl, rd_al, rd_lf, rd_la, rd_leq, rd_lne, rd_fr, rd_ar, ne_eq, Nat.reduceEqDiff, not_false_eq_true]); exact h4_ j_) (fun j_ => by (try simp only [rd_eq, rd_ne, rf_eq, rf_nk, rf_nt, rd_fa, rd_af, rd_fl, rd_al, rd_lf, rd_la, rd_leq, rd_lne, rd_fr, rd_ar, ne_eq, Nat.reduceEqDiff, not_false_eq_true]); exact h5_ j_) (fun m_ hm_ => (a1_.2 m_ hm_).1) a4_, te_rs hI0_ a1_ a3_ a7_.1 (fun z_ => ⟨a8_.1, a9_ z_⟩) ?_ ?_ (fun j_ => by (try simp only [rd_eq, rd_ne, rf_eq, rf_nk, rf_nt, rd_fa, rd_af, rd_fl, rd_al, rd_lf, rd_la, rd_leq, rd_lne, rd_fr, rd_ar, ne_eq, Nat.reduceEqDiff, not_false_eq_true]); rw [r8c]; by_cases z_ : j_ = M_; (rw [if_pos (show j_ = m_.toNat by omega), if_pos z_]; unfold mn; first | (rw [if_pos (by omega)]) | (rw [if_neg (by omega)]; omega)); (rw [if_neg (show ¬ j_ = m_.toNat by omega), if_neg z_]; have y_ := h8_ j_; rw [if_neg z_] at y_; exact y_)) (fun j_ => by (try simp only [rd_eq, rd_ne, rf_eq, rf_nk, rf_nt, rd_fa, rd_af, rd_fl, rd_al, rd_lf, rd_la, rd_leq, rd_lne, rd_fr, rd_ar, ne_eq, Nat.reduceEqDiff, not_false_eq_true]); rw [r9c]; by_cases z_ : j_ = M_; (rw [if_pos (show j_ = m_.toNat by omega), if_pos z_]; unfold mn; first | (rw [if_pos (by omega)]) | (rw [if_neg (by omega)]; omega)); (rw [if_neg (show ¬ j_ = m_.toNat by omega), if_neg z_]; have y_ := h9_ j_; rw [if_neg z_] at y_; exact y_))⟩⟩
        · intro j_; (try simp only [rd_eq, rd_ne, rf_eq, rf_nk, rf_nt, rd_fa, rd_af, rd_fl, rd_al, rd_lf, rd_la, rd_leq, rd_lne, rd_fr, rd_ar, ne_eq, Nat.reduceEqDiff, not_false_eq_true]); rw [h6_ j_]; (repeat' split); all_goals omega
        · intro j_; (try simp only [rd_eq, rd_ne, rf_eq, rf_nk, rf_nt, rd_fa, rd_af, rd_fl, rd_al, rd_lf, rd_la, rd_leq, rd_lne, rd_fr, rd_ar, ne_eq, Nat.reduceEqDiff, not_false_eq_true]); rw [h7_ j_]; (repeat' split); all_goals omega
      · have cx14_ : ¬ ((S_.2.2.1 134 0 m_.toNat) ≤ 1000) := of_decide_eq_false cx14_
        refine sm_T_go 2 (c1 := (242, [some (.inr (.inr (some (13, 0)))), some (.inl m_), some (.inl so_), some (.inl th), none], [.inl 1000, .inl m_, .inr (.inr (some (134, 0)))], sm_aI S_ 135 0 m_.toNat 1000)) rfl ?_
        refine sm_T_iast (n := 16) rfl rfl (by omega) (by omega) ?_
        have hIx17_ : gi (sm_aI (sm_aI S_ 135 0 m_.toNat 1000) 134 0 m_.toNat 1000) := gi_aI hIx11_ (show 0 ≤ 1000 ∧ 1000 ≤ 1073741823 from ⟨by omega, by omega⟩)
        have hFx18_ : ai_fr (sx_W vw_308) S0_ (sm_aI (sm_aI S_ 135 0 m_.toNat 1000) 134 0 m_.toNat 1000) := ai_fr_tr hFx12_ (ai_fr_aI rfl)
        refine sm_T_rv rfl ⟨_, _, rfl, rfl, hIx17_, hFx18_, ?_⟩
        refine ⟨rg_fr hx_ hFx18_ rfl rfl rfl, fun p9_ q9_ hp9_ a5_ => ⟨te_re a2_ a5_ ⟨hso_.1, hso_.2.1⟩ (fun j_ => by (try simp only [rd_eq, rd_ne, rf_eq, rf_nk, rf_nt, rd_fa, rd_af, rd_fl, rd_al, rd_lf, rd_la, rd_leq, rd_lne, rd_fr, rd_ar, ne_eq, Nat.reduceEqDiff, not_false_eq_true]); exact h0_ j_) (fun j_ => by (try simp only [rd_eq, rd_ne, rf_eq, rf_nk, rf_nt, rd_fa, rd_af, rd_fl, rd_al, rd_lf, rd_la, rd_leq, rd_lne, rd_fr, rd_ar, ne_eq, Nat.reduceEqDiff, not_false_eq_true]); exact h1_ j_) (fun j_ => by (try simp only [rd_eq, rd_ne, rf_eq, rf_nk, rf_nt, rd_fa, rd_af, rd_fl, rd_al, rd_lf, rd_la, rd_leq, rd_lne, rd_fr, rd_ar, ne_eq, Nat.reduceEqDiff, not_false_eq_true]); exact h2_ j_) (fun j_ => by (try simp only [rd_eq, rd_ne, rf_eq, rf_nk, rf_nt, rd_fa, rd_af, rd_fl, rd_al, rd_lf, rd_la, rd_leq, rd_lne, rd_fr, rd_ar, ne_eq, Nat.reduceEqDiff, not_false_eq_true]); exact h3_ j_) (fun j_ => by (try simp only [rd_eq, rd_ne, rf_eq, rf_nk, rf_nt, rd_fa, rd_af, rd_fl, rd_al, rd_lf, rd_la, rd_leq, rd_lne, rd_fr, rd_ar, ne_eq, Nat.reduceEqDiff, not_false_eq_true]); exact h4_ j_) (fun j_ => by (try simp only [rd_eq, rd_ne, rf_eq, rf_nk, rf_nt, rd_fa, rd_af, rd_fl, rd_al, rd_lf, rd_la, rd_leq, rd_lne, rd_fr, rd_ar, ne_eq, Nat.reduceEqDiff, not_false_eq_true]); exact h5_ j_) (fun m_ hm_ => (a1_.2 m_ hm_).1) a4_, te_rs hI0_ a1_ a3_ a7_.1 (fun z_ => ⟨a8_.1, a9_ z_⟩) ?_ ?_ (fun j_ => by (try simp only [rd_eq, rd_ne, rf_eq, rf_nk, rf_nt, rd_fa, rd_af, rd_fl, rd_al, rd_lf, rd_la, rd_leq, rd_lne, rd_fr, rd_ar, ne_eq, Nat.reduceEqDiff, not_false_eq_true]); rw [r8c]; by_cases z_ : j_ = M_; (rw [if_pos (show j_ = m_.toNat by omega), if_pos z_]; unfold mn; first | (rw [if_pos (by omega)]) | (rw [if_neg (by omega)]; omega)); (rw [if_neg (show ¬ j_ = m_.toNat by omega), if_neg z_]; have y_ := h8_ j_; rw [if_neg z_] at y_; exact y_)) (fun j_ => by (try simp only [rd_eq, rd_ne, rf_eq, rf_nk, rf_nt, rd_fa, rd_af, rd_fl, rd_al, rd_lf, rd_la, rd_leq, rd_lne, rd_fr, rd_ar, ne_eq, Nat.reduceEqDiff, not_false_eq_true]); rw [r9c]; by_cases z_ : j_ = M_; (rw [if_pos (show j_ = m_.toNat by omega), if_pos z_]; unfold mn; first | (rw [if_pos (by omega)]) | (rw [if_neg (by omega)]; omega)); (rw [if_neg (show ¬ j_ = m_.toNat by omega), if_neg z_]; have y_ := h9_ j_; rw [if_neg z_] at y_; exact y_))⟩⟩
        · intro j_; (try simp only [rd_eq, rd_ne, rf_eq, rf_nk, rf_nt, rd_fa, rd_af, rd_fl, rd_al, rd_lf, rd_la, rd_leq, rd_lne, rd_fr, rd_ar, ne_eq, Nat.reduceEqDiff, not_false_eq_true]); rw [h6_ j_]; (repeat' split); all_goals omega
        · intro j_; (try simp only [rd_eq, rd_ne, rf_eq, rf_nk, rf_nt, rd_fa, rd_af, rd_fl, rd_al, rd_lf, rd_la, rd_leq, rd_lne, rd_fr, rd_ar, ne_eq, Nat.reduceEqDiff, not_false_eq_true]); rw [h7_ j_]; (repeat' split); all_goals omega
set_option maxHeartbeats 4000000 in
set_option maxRecDepth 20000 in
theorem vc_308 {sc_ : Nat × (Nat → Int)} (m_ : Int) (so_ : Int) (th : Int) (b_ : Nat → Int) (n_ : Nat) (T_ : Nat) (x_ : pE Nat) (A_ : pA) (M_ : Nat) (cs_ : Int) (S0_ : sm_S) (hI_ : gi S0_) (hI0_ : gi S0_) (hx_ : rg b_ n_ T_ x_ S0_) (hmm_ : m_ = (M_ : Int) ∧ M_ ≤ 15) (hso_ : so_ = r_s2 cs_ ∧ cs_ ≠ 4 ∧ 0 ≤ cs_ ∧ cs_ ≤ 5) (hr_ : ∀ p_, x_ = .inr p_ → a_ok b_ n_ A_ M_ ∧ (∀ m_, m_ ≤ M_ → re1 b_ n_ T_ A_ m_ S0_) ∧ (∀ m_, m_ ≤ M_ → rs1 A_ m_ S0_) ∧ A_.1 M_ < 40 ∧ (0 ≤ (S0_.1 13 0 26) ∧ (S0_.1 13 0 26) ≤ 8) ∧ (0 ≤ th ∧ th ≤ 255) ∧ (cs_ = 5 → th < (M_ : Int))) : sm_T (mt_P sc_) 1 308 (0, [some (.inr (.inr (some (13, 0)))), some (.inl m_), some (.inl so_), some (.inl th), none], [], S0_) (fun r_ => ∃ u_ S1_, r_ = (.inl u_, S1_, 0) ∧ vq_308 m_ so_ th b_ n_ T_ x_ A_ M_ cs_ S0_ u_ S1_) := by
  have hF_ : ai_fr (sx_W vw_308) S0_ S0_ := ai_fr_rf
  refine sm_T_go 1 (c1 := (1, [some (.inr (.inr (some (13, 0)))), some (.inl m_), some (.inl so_), some (.inl th), none], [.inr (.inr (some (13, 0)))], S0_)) rfl ?_
  refine sm_T_cal (d1 := 0) (Q1 := vq_292  S0_) rfl rfl (by decide) (vc_292  S0_ hI_ ) (fun u_ Sx1_ px4_ => ?_)
  obtain ⟨rfl, vx6_, rfl, px4_⟩ := px4_
  have e1_ := px4_
  refine sm_T_b0 (a := 1) (z := 4) rfl (fun cx7_ => ?_) (fun cx7_ => ?_)
  · have cx7_ : vx6_ ≠ 0 := of_decide_eq_true cx7_
    obtain ⟨p_, i_, hp1_, e2_, e3_⟩ := rg_r hx_ (rt_if e1_ (by omega))
    obtain ⟨a1_, a2_, a3_, a4_, a7_, a8_, a9_⟩ := hr_ p_ hp1_
    have mM_ : m_.toNat = M_ := by omega
    have rb := rs1_b hI0_ a1_ (Nat.le_refl M_) (a3_ M_ (Nat.le_refl M_))
    have cs5_ : so_ = 5 ↔ cs_ = 5 := by have z1_ := hso_.1; have z2_ := hso_.2.1; have z3_ := hso_.2.2; unfold r_s2 at z1_; split at z1_ <;> (try split at z1_) <;> omega
    have cs4_ : so_ = 4 ↔ cs_ = 3 := by have z1_ := hso_.1; have z2_ := hso_.2.1; have z3_ := hso_.2.2; unfold r_s2 at z1_; split at z1_ <;> (try split at z1_) <;> omega
    have cs1_ : so_ = 1 ↔ cs_ = 0 := by have z1_ := hso_.1; have z2_ := hso_.2.1; have z3_ := hso_.2.2; unfold r_s2 at z1_; split at z1_ <;> (try split at z1_) <;> omega
    have cs2_ : so_ = 2 ↔ cs_ = 1 := by have z1_ := hso_.1; have z2_ := hso_.2.1; have z3_ := hso_.2.2; unfold r_s2 at z1_; split at z1_ <;> (try split at z1_) <;> omega
    have sob_ : 1 ≤ so_ ∧ so_ ≤ 5 := by have z1_ := hso_.1; have z2_ := hso_.2.1; have z3_ := hso_.2.2; unfold r_s2 at z1_; split at z1_ <;> (try split at z1_) <;> omega
    have cn_ : S0_.2.2.1 126 0 m_.toNat = (A_.1 M_ : Int) := by rw [mM_]; exact (a2_ M_ (Nat.le_refl M_)).1
    have cnM_ : S0_.2.2.1 126 0 M_ = (A_.1 M_ : Int) := (a2_ M_ (Nat.le_refl M_)).1
    have iM_ : (40 * m_ + S0_.2.2.1 126 0 m_.toNat).toNat = 40 * M_ + A_.1 M_ := by omega
    have rb2_ : S0_.2.2.1 132 0 m_.toNat ≤ 312 ∧ S0_.2.2.1 133 0 m_.toNat ≤ 312 ∧ S0_.2.2.1 134 0 m_.toNat ≤ 1000 ∧ S0_.2.2.1 135 0 m_.toNat ≤ 1000 := by rw [mM_]; omega
    have rt_ : so_ = 5 → th < (M_ : Int) ∧ S0_.2.2.1 134 0 th.toNat ≤ 1000 ∧ S0_.2.2.1 135 0 th.toNat ≤ 1000 := fun z_ => by have z1_ := a9_ (cs5_.mp z_); have z2_ := rs1_b hI0_ a1_ (show th.toNat ≤ M_ by omega) (a3_ th.toNat (by omega)); omega
    refine sm_T_go 2 (c1 := (11, [some (.inr (.inr (some (13, 0)))), some (.inl m_), some (.inl so_), some (.inl th), none], [.inl m_, .inl 40], S0_)) rfl ?_
    refine sm_T_bin (w := 40 * m_) rfl (bi_mul (by omega) (by omega) (by omega)) ?_
    refine sm_T_go 3 (c1 := (17, [some (.inr (.inr (some (13, 0)))), some (.inl m_), some (.inl so_), some (.inl th), none], [.inl m_, .inr (.inr (some (126, 0))), .inl (40 * m_)], S0_)) rfl ?_
    refine sm_T_iald (n := 16) rfl rfl (by omega) (by omega) ?_
    have bx8_ : 0 ≤ S0_.2.2.1 126 0 m_.toNat ∧ S0_.2.2.1 126 0 m_.toNat ≤ 40 := hI_.2 126 0 _
    refine sm_T_bin (w := 40 * m_ + (S0_.2.2.1 126 0 m_.toNat)) rfl (bi_add (by omega) (by omega) (by omega)) ?_
    have bx9_ : 0 ≤ S0_.1 13 0 25 ∧ S0_.1 13 0 25 ≤ 1280 := hI_.1 13 0 25 rfl
    refine sm_T_go 6 (c1 := (31, [some (.inr (.inr (some (13, 0)))), some (.inl m_), some (.inl so_), some (.inl th), some (.inl (40 * m_ + (S0_.2.2.1 126 0 m_.toNat)))], [.inl (S0_.1 13 0 25), .inl (40 * m_ + (S0_.2.2.1 126 0 m_.toNat)), .inr (.inr (some (127, 0)))], S0_)) rfl ?_
    refine sm_T_iast (n := 640) rfl rfl (by omega) (by omega) ?_
    have hIx10_ : gi (sm_aI S0_ 127 0 (40 * m_ + (S0_.2.2.1 126 0 m_.toNat)).toNat (S0_.1 13 0 25)) := gi_aI hI_ (show 0 ≤ (S0_.1 13 0 25) ∧ (S0_.1 13 0 25) ≤ 1280 from ⟨by omega, by omega⟩)
    have hFx11_ : ai_fr (sx_W vw_308) S0_ (sm_aI S0_ 127 0 (40 * m_ + (S0_.2.2.1 126 0 m_.toNat)).toNat (S0_.1 13 0 25)) := ai_fr_tr hF_ (ai_fr_aI rfl)
    refine sm_T_go 4 (c1 := (39, [some (.inr (.inr (some (13, 0)))), some (.inl m_), some (.inl so_), some (.inl th), some (.inl (40 * m_ + (S0_.2.2.1 126 0 m_.toNat)))], [.inl so_, .inl (40 * m_ + (S0_.2.2.1 126 0 m_.toNat)), .inr (.inr (some (128, 0)))], sm_aI S0_ 127 0 (40 * m_ + (S0_.2.2.1 126 0 m_.toNat)).toNat (S0_.1 13 0 25))) rfl ?_
    refine sm_T_iast (n := 640) rfl rfl (by omega) (by omega) ?_
    have hIx12_ : gi (sm_aI (sm_aI S0_ 127 0 (40 * m_ + (S0_.2.2.1 126 0 m_.toNat)).toNat (S0_.1 13 0 25)) 128 0 (40 * m_ + (S0_.2.2.1 126 0 m_.toNat)).toNat so_) := gi_aI hIx10_ (show 0 ≤ so_ ∧ so_ ≤ 5 from ⟨by omega, by omega⟩)
    have hFx13_ : ai_fr (sx_W vw_308) S0_ (sm_aI (sm_aI S0_ 127 0 (40 * m_ + (S0_.2.2.1 126 0 m_.toNat)).toNat (S0_.1 13 0 25)) 128 0 (40 * m_ + (S0_.2.2.1 126 0 m_.toNat)).toNat so_) := ai_fr_tr hFx11_ (ai_fr_aI rfl)
    have bx14_ : (-2147483648) ≤ S0_.1 13 0 26 ∧ S0_.1 13 0 26 ≤ 2147483647 := hI_.1 13 0 26 rfl
    refine sm_T_go 5 (c1 := (50, [some (.inr (.inr (some (13, 0)))), some (.inl m_), some (.inl so_), some (.inl th), some (.inl (40 * m_ + (S0_.2.2.1 126 0 m_.toNat)))], [.inl (S0_.1 13 0 26), .inl (40 * m_ + (S0_.2.2.1 126 0 m_.toNat)), .inr (.inr (some (129, 0)))], sm_aI (sm_aI S0_ 127 0 (40 * m_ + (S0_.2.2.1 126 0 m_.toNat)).toNat (S0_.1 13 0 25)) 128 0 (40 * m_ + (S0_.2.2.1 126 0 m_.toNat)).toNat so_)) rfl ?_
    refine sm_T_iast (n := 640) rfl rfl (by omega) (by omega) ?_
    have hIx15_ : gi (sm_aI (sm_aI (sm_aI S0_ 127 0 (40 * m_ + (S0_.2.2.1 126 0 m_.toNat)).toNat (S0_.1 13 0 25)) 128 0 (40 * m_ + (S0_.2.2.1 126 0 m_.toNat)).toNat so_) 129 0 (40 * m_ + (S0_.2.2.1 126 0 m_.toNat)).toNat (S0_.1 13 0 26)) := gi_aI hIx12_ (show 0 ≤ (S0_.1 13 0 26) ∧ (S0_.1 13 0 26) ≤ 8 from ⟨by omega, by omega⟩)
    have hFx16_ : ai_fr (sx_W vw_308) S0_ (sm_aI (sm_aI (sm_aI S0_ 127 0 (40 * m_ + (S0_.2.2.1 126 0 m_.toNat)).toNat (S0_.1 13 0 25)) 128 0 (40 * m_ + (S0_.2.2.1 126 0 m_.toNat)).toNat so_) 129 0 (40 * m_ + (S0_.2.2.1 126 0 m_.toNat)).toNat (S0_.1 13 0 26)) := ai_fr_tr hFx13_ (ai_fr_aI rfl)
    refine sm_T_go 4 (c1 := (58, [some (.inr (.inr (some (13, 0)))), some (.inl m_), some (.inl so_), some (.inl th), some (.inl (40 * m_ + (S0_.2.2.1 126 0 m_.toNat)))], [.inl th, .inl (40 * m_ + (S0_.2.2.1 126 0 m_.toNat)), .inr (.inr (some (130, 0)))], sm_aI (sm_aI (sm_aI S0_ 127 0 (40 * m_ + (S0_.2.2.1 126 0 m_.toNat)).toNat (S0_.1 13 0 25)) 128 0 (40 * m_ + (S0_.2.2.1 126 0 m_.toNat)).toNat so_) 129 0 (40 * m_ + (S0_.2.2.1 126 0 m_.toNat)).toNat (S0_.1 13 0 26))) rfl ?_
    refine sm_T_iast (n := 640) rfl rfl (by omega) (by omega) ?_
    have hIx17_ : gi (sm_aI (sm_aI (sm_aI (sm_aI S0_ 127 0 (40 * m_ + (S0_.2.2.1 126 0 m_.toNat)).toNat (S0_.1 13 0 25)) 128 0 (40 * m_ + (S0_.2.2.1 126 0 m_.toNat)).toNat so_) 129 0 (40 * m_ + (S0_.2.2.1 126 0 m_.toNat)).toNat (S0_.1 13 0 26)) 130 0 (40 * m_ + (S0_.2.2.1 126 0 m_.toNat)).toNat th) := gi_aI hIx15_ (show 0 ≤ th ∧ th ≤ 2147483647 from ⟨by omega, by omega⟩)
    have hFx18_ : ai_fr (sx_W vw_308) S0_ (sm_aI (sm_aI (sm_aI (sm_aI S0_ 127 0 (40 * m_ + (S0_.2.2.1 126 0 m_.toNat)).toNat (S0_.1 13 0 25)) 128 0 (40 * m_ + (S0_.2.2.1 126 0 m_.toNat)).toNat so_) 129 0 (40 * m_ + (S0_.2.2.1 126 0 m_.toNat)).toNat (S0_.1 13 0 26)) 130 0 (40 * m_ + (S0_.2.2.1 126 0 m_.toNat)).toNat th) := ai_fr_tr hFx16_ (ai_fr_aI rfl)
    refine sm_T_go 4 (c1 := (66, [some (.inr (.inr (some (13, 0)))), some (.inl m_), some (.inl so_), some (.inl th), some (.inl (40 * m_ + (S0_.2.2.1 126 0 m_.toNat)))], [.inl 0, .inl (40 * m_ + (S0_.2.2.1 126 0 m_.toNat)), .inr (.inr (some (131, 0)))], sm_aI (sm_aI (sm_aI (sm_aI S0_ 127 0 (40 * m_ + (S0_.2.2.1 126 0 m_.toNat)).toNat (S0_.1 13 0 25)) 128 0 (40 * m_ + (S0_.2.2.1 126 0 m_.toNat)).toNat so_) 129 0 (40 * m_ + (S0_.2.2.1 126 0 m_.toNat)).toNat (S0_.1 13 0 26)) 130 0 (40 * m_ + (S0_.2.2.1 126 0 m_.toNat)).toNat th)) rfl ?_
    refine sm_T_zas1 (n := 640) rfl rfl (by omega) (by omega) (by omega) ?_
    have hIx19_ : gi (sm_aI (sm_aI (sm_aI (sm_aI (sm_aI S0_ 127 0 (40 * m_ + (S0_.2.2.1 126 0 m_.toNat)).toNat (S0_.1 13 0 25)) 128 0 (40 * m_ + (S0_.2.2.1 126 0 m_.toNat)).toNat so_) 129 0 (40 * m_ + (S0_.2.2.1 126 0 m_.toNat)).toNat (S0_.1 13 0 26)) 130 0 (40 * m_ + (S0_.2.2.1 126 0 m_.toNat)).toNat th) 131 0 (40 * m_ + (S0_.2.2.1 126 0 m_.toNat)).toNat 0) := gi_aI hIx17_ (show 0 ≤ 0 ∧ 0 ≤ 1 from ⟨by omega, by omega⟩)
    have hFx20_ : ai_fr (sx_W vw_308) S0_ (sm_aI (sm_aI (sm_aI (sm_aI (sm_aI S0_ 127 0 (40 * m_ + (S0_.2.2.1 126 0 m_.toNat)).toNat (S0_.1 13 0 25)) 128 0 (40 * m_ + (S0_.2.2.1 126 0 m_.toNat)).toNat so_) 129 0 (40 * m_ + (S0_.2.2.1 126 0 m_.toNat)).toNat (S0_.1 13 0 26)) 130 0 (40 * m_ + (S0_.2.2.1 126 0 m_.toNat)).toNat th) 131 0 (40 * m_ + (S0_.2.2.1 126 0 m_.toNat)).toNat 0) := ai_fr_tr hFx18_ (ai_fr_aI rfl)
    refine sm_T_go 4 (c1 := (73, [some (.inr (.inr (some (13, 0)))), some (.inl m_), some (.inl so_), some (.inl th), some (.inl (40 * m_ + (S0_.2.2.1 126 0 m_.toNat)))], [.inl m_, .inr (.inr (some (126, 0))), .inl m_, .inr (.inr (some (126, 0)))], sm_aI (sm_aI (sm_aI (sm_aI (sm_aI S0_ 127 0 (40 * m_ + (S0_.2.2.1 126 0 m_.toNat)).toNat (S0_.1 13 0 25)) 128 0 (40 * m_ + (S0_.2.2.1 126 0 m_.toNat)).toNat so_) 129 0 (40 * m_ + (S0_.2.2.1 126 0 m_.toNat)).toNat (S0_.1 13 0 26)) 130 0 (40 * m_ + (S0_.2.2.1 126 0 m_.toNat)).toNat th) 131 0 (40 * m_ + (S0_.2.2.1 126 0 m_.toNat)).toNat 0)) rfl ?_
    refine sm_T_iald (n := 16) rfl rfl (by omega) (by omega) ?_
    refine sm_T_go 1 (c1 := (75, [some (.inr (.inr (some (13, 0)))), some (.inl m_), some (.inl so_), some (.inl th), some (.inl (40 * m_ + (S0_.2.2.1 126 0 m_.toNat)))], [.inl 1, .inl (S0_.2.2.1 126 0 m_.toNat), .inl m_, .inr (.inr (some (126, 0)))], sm_aI (sm_aI (sm_aI (sm_aI (sm_aI S0_ 127 0 (40 * m_ + (S0_.2.2.1 126 0 m_.toNat)).toNat (S0_.1 13 0 25)) 128 0 (40 * m_ + (S0_.2.2.1 126 0 m_.toNat)).toNat so_) 129 0 (40 * m_ + (S0_.2.2.1 126 0 m_.toNat)).toNat (S0_.1 13 0 26)) 130 0 (40 * m_ + (S0_.2.2.1 126 0 m_.toNat)).toNat th) 131 0 (40 * m_ + (S0_.2.2.1 126 0 m_.toNat)).toNat 0)) rfl ?_
    refine sm_T_bin (w := (S0_.2.2.1 126 0 m_.toNat) + 1) rfl (bi_add (by omega) (by omega) (by omega)) ?_
    refine sm_T_iast (n := 16) rfl rfl (by omega) (by omega) ?_
    have hIx21_ : gi (sm_aI (sm_aI (sm_aI (sm_aI (sm_aI (sm_aI S0_ 127 0 (40 * m_ + (S0_.2.2.1 126 0 m_.toNat)).toNat (S0_.1 13 0 25)) 128 0 (40 * m_ + (S0_.2.2.1 126 0 m_.toNat)).toNat so_) 129 0 (40 * m_ + (S0_.2.2.1 126 0 m_.toNat)).toNat (S0_.1 13 0 26)) 130 0 (40 * m_ + (S0_.2.2.1 126 0 m_.toNat)).toNat th) 131 0 (40 * m_ + (S0_.2.2.1 126 0 m_.toNat)).toNat 0) 126 0 m_.toNat ((S0_.2.2.1 126 0 m_.toNat) + 1)) := gi_aI hIx19_ (show 0 ≤ (S0_.2.2.1 126 0 m_.toNat) + 1 ∧ (S0_.2.2.1 126 0 m_.toNat) + 1 ≤ 40 from ⟨by omega, by omega⟩)
    have hFx22_ : ai_fr (sx_W vw_308) S0_ (sm_aI (sm_aI (sm_aI (sm_aI (sm_aI (sm_aI S0_ 127 0 (40 * m_ + (S0_.2.2.1 126 0 m_.toNat)).toNat (S0_.1 13 0 25)) 128 0 (40 * m_ + (S0_.2.2.1 126 0 m_.toNat)).toNat so_) 129 0 (40 * m_ + (S0_.2.2.1 126 0 m_.toNat)).toNat (S0_.1 13 0 26)) 130 0 (40 * m_ + (S0_.2.2.1 126 0 m_.toNat)).toNat th) 131 0 (40 * m_ + (S0_.2.2.1 126 0 m_.toNat)).toNat 0) 126 0 m_.toNat ((S0_.2.2.1 126 0 m_.toNat) + 1)) := ai_fr_tr hFx20_ (ai_fr_aI rfl)
    refine sm_T_go 4 (c1 := (83, [some (.inr (.inr (some (13, 0)))), some (.inl m_), some (.inl so_), some (.inl th), some (.inl (40 * m_ + (S0_.2.2.1 126 0 m_.toNat)))], [.inl m_, .inr (.inr (some (132, 0))), .inl m_, .inr (.inr (some (132, 0)))], sm_aI (sm_aI (sm_aI (sm_aI (sm_aI (sm_aI S0_ 127 0 (40 * m_ + (S0_.2.2.1 126 0 m_.toNat)).toNat (S0_.1 13 0 25)) 128 0 (40 * m_ + (S0_.2.2.1 126 0 m_.toNat)).toNat so_) 129 0 (40 * m_ + (S0_.2.2.1 126 0 m_.toNat)).toNat (S0_.1 13 0 26)) 130 0 (40 * m_ + (S0_.2.2.1 126 0 m_.toNat)).toNat th) 131 0 (40 * m_ + (S0_.2.2.1 126 0 m_.toNat)).toNat 0) 126 0 m_.toNat ((S0_.2.2.1 126 0 m_.toNat) + 1))) rfl ?_
    refine sm_T_iald (n := 16) rfl rfl (by omega) (by omega) ?_
    have bx23_ : 0 ≤ S0_.2.2.1 132 0 m_.toNat ∧ S0_.2.2.1 132 0 m_.toNat ≤ 320 := hI_.2 132 0 _
    refine sm_T_go 2 (c1 := (86, [some (.inr (.inr (some (13, 0)))), some (.inl m_), some (.inl so_), some (.inl th), some (.inl (40 * m_ + (S0_.2.2.1 126 0 m_.toNat)))], [.inl 1, .inl so_, .inl (S0_.2.2.1 132 0 m_.toNat), .inl m_, .inr (.inr (some (132, 0)))], sm_aI (sm_aI (sm_aI (sm_aI (sm_aI (sm_aI S0_ 127 0 (40 * m_ + (S0_.2.2.1 126 0 m_.toNat)).toNat (S0_.1 13 0 25)) 128 0 (40 * m_ + (S0_.2.2.1 126 0 m_.toNat)).toNat so_) 129 0 (40 * m_ + (S0_.2.2.1 126 0 m_.toNat)).toNat (S0_.1 13 0 26)) 130 0 (40 * m_ + (S0_.2.2.1 126 0 m_.toNat)).toNat th) 131 0 (40 * m_ + (S0_.2.2.1 126 0 m_.toNat)).toNat 0) 126 0 m_.toNat ((S0_.2.2.1 126 0 m_.toNat) + 1))) rfl ?_
    refine sm_T_br (a := 1) (z := 10) rfl (fun cx24_ => ?_) (fun cx24_ => ?_)
    · have cx24_ : so_ ≠ 1 := of_decide_eq_true cx24_
      refine sm_T_go 1 (c1 := (97, [some (.inr (.inr (some (13, 0)))), some (.inl m_), some (.inl so_), some (.inl th), some (.inl (40 * m_ + (S0_.2.2.1 126 0 m_.toNat)))], [.inl 0, .inl (S0_.2.2.1 132 0 m_.toNat), .inl m_, .inr (.inr (some (132, 0)))], sm_aI (sm_aI (sm_aI (sm_aI (sm_aI (sm_aI S0_ 127 0 (40 * m_ + (S0_.2.2.1 126 0 m_.toNat)).toNat (S0_.1 13 0 25)) 128 0 (40 * m_ + (S0_.2.2.1 126 0 m_.toNat)).toNat so_) 129 0 (40 * m_ + (S0_.2.2.1 126 0 m_.toNat)).toNat (S0_.1 13 0 26)) 130 0 (40 * m_ + (S0_.2.2.1 126 0 m_.toNat)).toNat th) 131 0 (40 * m_ + (S0_.2.2.1 126 0 m_.toNat)).toNat 0) 126 0 m_.toNat ((S0_.2.2.1 126 0 m_.toNat) + 1))) rfl ?_
      refine sm_T_bin (w := (S0_.2.2.1 132 0 m_.toNat)) rfl (bi_add (by omega) (by omega) (by omega)) ?_
      refine sm_T_iast (n := 16) rfl rfl (by omega) (by omega) ?_
      have hIx25_ : gi (sm_aI (sm_aI (sm_aI (sm_aI (sm_aI (sm_aI (sm_aI S0_ 127 0 (40 * m_ + (S0_.2.2.1 126 0 m_.toNat)).toNat (S0_.1 13 0 25)) 128 0 (40 * m_ + (S0_.2.2.1 126 0 m_.toNat)).toNat so_) 129 0 (40 * m_ + (S0_.2.2.1 126 0 m_.toNat)).toNat (S0_.1 13 0 26)) 130 0 (40 * m_ + (S0_.2.2.1 126 0 m_.toNat)).toNat th) 131 0 (40 * m_ + (S0_.2.2.1 126 0 m_.toNat)).toNat 0) 126 0 m_.toNat ((S0_.2.2.1 126 0 m_.toNat) + 1)) 132 0 m_.toNat (S0_.2.2.1 132 0 m_.toNat)) := gi_aI hIx21_ (show 0 ≤ (S0_.2.2.1 132 0 m_.toNat) ∧ (S0_.2.2.1 132 0 m_.toNat) ≤ 320 from ⟨by omega, by omega⟩)
      have hFx26_ : ai_fr (sx_W vw_308) S0_ (sm_aI (sm_aI (sm_aI (sm_aI (sm_aI (sm_aI (sm_aI S0_ 127 0 (40 * m_ + (S0_.2.2.1 126 0 m_.toNat)).toNat (S0_.1 13 0 25)) 128 0 (40 * m_ + (S0_.2.2.1 126 0 m_.toNat)).toNat so_) 129 0 (40 * m_ + (S0_.2.2.1 126 0 m_.toNat)).toNat (S0_.1 13 0 26)) 130 0 (40 * m_ + (S0_.2.2.1 126 0 m_.toNat)).toNat th) 131 0 (40 * m_ + (S0_.2.2.1 126 0 m_.toNat)).toNat 0) 126 0 m_.toNat ((S0_.2.2.1 126 0 m_.toNat) + 1)) 132 0 m_.toNat (S0_.2.2.1 132 0 m_.toNat)) := ai_fr_tr hFx22_ (ai_fr_aI rfl)
      refine sm_T_go 4 (c1 := (105, [some (.inr (.inr (some (13, 0)))), some (.inl m_), some (.inl so_), some (.inl th), some (.inl (40 * m_ + (S0_.2.2.1 126 0 m_.toNat)))], [.inl m_, .inr (.inr (some (133, 0))), .inl m_, .inr (.inr (some (133, 0)))], sm_aI (sm_aI (sm_aI (sm_aI (sm_aI (sm_aI (sm_aI S0_ 127 0 (40 * m_ + (S0_.2.2.1 126 0 m_.toNat)).toNat (S0_.1 13 0 25)) 128 0 (40 * m_ + (S0_.2.2.1 126 0 m_.toNat)).toNat so_) 129 0 (40 * m_ + (S0_.2.2.1 126 0 m_.toNat)).toNat (S0_.1 13 0 26)) 130 0 (40 * m_ + (S0_.2.2.1 126 0 m_.toNat)).toNat th) 131 0 (40 * m_ + (S0_.2.2.1 126 0 m_.toNat)).toNat 0) 126 0 m_.toNat ((S0_.2.2.1 126 0 m_.toNat) + 1)) 132 0 m_.toNat (S0_.2.2.1 132 0 m_.toNat))) rfl ?_
      refine sm_T_iald (n := 16) rfl rfl (by omega) (by omega) ?_
      have bx27_ : 0 ≤ S0_.2.2.1 133 0 m_.toNat ∧ S0_.2.2.1 133 0 m_.toNat ≤ 320 := hI_.2 133 0 _
      refine sm_T_go 2 (c1 := (108, [some (.inr (.inr (some (13, 0)))), some (.inl m_), some (.inl so_), some (.inl th), some (.inl (40 * m_ + (S0_.2.2.1 126 0 m_.toNat)))], [.inl 2, .inl so_, .inl (S0_.2.2.1 133 0 m_.toNat), .inl m_, .inr (.inr (some (133, 0)))], sm_aI (sm_aI (sm_aI (sm_aI (sm_aI (sm_aI (sm_aI S0_ 127 0 (40 * m_ + (S0_.2.2.1 126 0 m_.toNat)).toNat (S0_.1 13 0 25)) 128 0 (40 * m_ + (S0_.2.2.1 126 0 m_.toNat)).toNat so_) 129 0 (40 * m_ + (S0_.2.2.1 126 0 m_.toNat)).toNat (S0_.1 13 0 26)) 130 0 (40 * m_ + (S0_.2.2.1 126 0 m_.toNat)).toNat th) 131 0 (40 * m_ + (S0_.2.2.1 126 0 m_.toNat)).toNat 0) 126 0 m_.toNat ((S0_.2.2.1 126 0 m_.toNat) + 1)) 132 0 m_.toNat (S0_.2.2.1 132 0 m_.toNat))) rfl ?_
      refine sm_T_br (a := 1) (z := 10) rfl (fun cx28_ => ?_) (fun cx28_ => ?_)
      · have cx28_ : so_ ≠ 2 := of_decide_eq_true cx28_
        refine sm_T_go 1 (c1 := (119, [some (.inr (.inr (some (13, 0)))), some (.inl m_), some (.inl so_), some (.inl th), some (.inl (40 * m_ + (S0_.2.2.1 126 0 m_.toNat)))], [.inl 0, .inl (S0_.2.2.1 133 0 m_.toNat), .inl m_, .inr (.inr (some (133, 0)))], sm_aI (sm_aI (sm_aI (sm_aI (sm_aI (sm_aI (sm_aI S0_ 127 0 (40 * m_ + (S0_.2.2.1 126 0 m_.toNat)).toNat (S0_.1 13 0 25)) 128 0 (40 * m_ + (S0_.2.2.1 126 0 m_.toNat)).toNat so_) 129 0 (40 * m_ + (S0_.2.2.1 126 0 m_.toNat)).toNat (S0_.1 13 0 26)) 130 0 (40 * m_ + (S0_.2.2.1 126 0 m_.toNat)).toNat th) 131 0 (40 * m_ + (S0_.2.2.1 126 0 m_.toNat)).toNat 0) 126 0 m_.toNat ((S0_.2.2.1 126 0 m_.toNat) + 1)) 132 0 m_.toNat (S0_.2.2.1 132 0 m_.toNat))) rfl ?_
        refine sm_T_bin (w := (S0_.2.2.1 133 0 m_.toNat)) rfl (bi_add (by omega) (by omega) (by omega)) ?_
        refine sm_T_iast (n := 16) rfl rfl (by omega) (by omega) ?_
        have hIx29_ : gi (sm_aI (sm_aI (sm_aI (sm_aI (sm_aI (sm_aI (sm_aI (sm_aI S0_ 127 0 (40 * m_ + (S0_.2.2.1 126 0 m_.toNat)).toNat (S0_.1 13 0 25)) 128 0 (40 * m_ + (S0_.2.2.1 126 0 m_.toNat)).toNat so_) 129 0 (40 * m_ + (S0_.2.2.1 126 0 m_.toNat)).toNat (S0_.1 13 0 26)) 130 0 (40 * m_ + (S0_.2.2.1 126 0 m_.toNat)).toNat th) 131 0 (40 * m_ + (S0_.2.2.1 126 0 m_.toNat)).toNat 0) 126 0 m_.toNat ((S0_.2.2.1 126 0 m_.toNat) + 1)) 132 0 m_.toNat (S0_.2.2.1 132 0 m_.toNat)) 133 0 m_.toNat (S0_.2.2.1 133 0 m_.toNat)) := gi_aI hIx25_ (show 0 ≤ (S0_.2.2.1 133 0 m_.toNat) ∧ (S0_.2.2.1 133 0 m_.toNat) ≤ 320 from ⟨by omega, by omega⟩)
        have hFx30_ : ai_fr (sx_W vw_308) S0_ (sm_aI (sm_aI (sm_aI (sm_aI (sm_aI (sm_aI (sm_aI (sm_aI S0_ 127 0 (40 * m_ + (S0_.2.2.1 126 0 m_.toNat)).toNat (S0_.1 13 0 25)) 128 0 (40 * m_ + (S0_.2.2.1 126 0 m_.toNat)).toNat so_) 129 0 (40 * m_ + (S0_.2.2.1 126 0 m_.toNat)).toNat (S0_.1 13 0 26)) 130 0 (40 * m_ + (S0_.2.2.1 126 0 m_.toNat)).toNat th) 131 0 (40 * m_ + (S0_.2.2.1 126 0 m_.toNat)).toNat 0) 126 0 m_.toNat ((S0_.2.2.1 126 0 m_.toNat) + 1)) 132 0 m_.toNat (S0_.2.2.1 132 0 m_.toNat)) 133 0 m_.toNat (S0_.2.2.1 133 0 m_.toNat)) := ai_fr_tr hFx26_ (ai_fr_aI rfl)
        refine sm_T_go 4 (c1 := (127, [some (.inr (.inr (some (13, 0)))), some (.inl m_), some (.inl so_), some (.inl th), some (.inl (40 * m_ + (S0_.2.2.1 126 0 m_.toNat)))], [.inl m_, .inr (.inr (some (134, 0))), .inl m_, .inr (.inr (some (134, 0)))], sm_aI (sm_aI (sm_aI (sm_aI (sm_aI (sm_aI (sm_aI (sm_aI S0_ 127 0 (40 * m_ + (S0_.2.2.1 126 0 m_.toNat)).toNat (S0_.1 13 0 25)) 128 0 (40 * m_ + (S0_.2.2.1 126 0 m_.toNat)).toNat so_) 129 0 (40 * m_ + (S0_.2.2.1 126 0 m_.toNat)).toNat (S0_.1 13 0 26)) 130 0 (40 * m_ + (S0_.2.2.1 126 0 m_.toNat)).toNat th) 131 0 (40 * m_ + (S0_.2.2.1 126 0 m_.toNat)).toNat 0) 126 0 m_.toNat ((S0_.2.2.1 126 0 m_.toNat) + 1)) 132 0 m_.toNat (S0_.2.2.1 132 0 m_.toNat)) 133 0 m_.toNat (S0_.2.2.1 133 0 m_.toNat))) rfl ?_
        refine sm_T_iald (n := 16) rfl rfl (by omega) (by omega) ?_
        have bx31_ : 0 ≤ S0_.2.2.1 134 0 m_.toNat ∧ S0_.2.2.1 134 0 m_.toNat ≤ 1073741823 := hI_.2 134 0 _
        refine sm_T_go 2 (c1 := (130, [some (.inr (.inr (some (13, 0)))), some (.inl m_), some (.inl so_), some (.inl th), some (.inl (40 * m_ + (S0_.2.2.1 126 0 m_.toNat)))], [.inl 4, .inl so_, .inl (S0_.2.2.1 134 0 m_.toNat), .inl m_, .inr (.inr (some (134, 0)))], sm_aI (sm_aI (sm_aI (sm_aI (sm_aI (sm_aI (sm_aI (sm_aI S0_ 127 0 (40 * m_ + (S0_.2.2.1 126 0 m_.toNat)).toNat (S0_.1 13 0 25)) 128 0 (40 * m_ + (S0_.2.2.1 126 0 m_.toNat)).toNat so_) 129 0 (40 * m_ + (S0_.2.2.1 126 0 m_.toNat)).toNat (S0_.1 13 0 26)) 130 0 (40 * m_ + (S0_.2.2.1 126 0 m_.toNat)).toNat th) 131 0 (40 * m_ + (S0_.2.2.1 126 0 m_.toNat)).toNat 0) 126 0 m_.toNat ((S0_.2.2.1 126 0 m_.toNat) + 1)) 132 0 m_.toNat (S0_.2.2.1 132 0 m_.toNat)) 133 0 m_.toNat (S0_.2.2.1 133 0 m_.toNat))) rfl ?_
        refine sm_T_br (a := 1) (z := 10) rfl (fun cx32_ => ?_) (fun cx32_ => ?_)
        · have cx32_ : so_ ≠ 4 := of_decide_eq_true cx32_
          refine sm_T_go 2 (c1 := (142, [some (.inr (.inr (some (13, 0)))), some (.inl m_), some (.inl so_), some (.inl th), some (.inl (40 * m_ + (S0_.2.2.1 126 0 m_.toNat)))], [.inl 5, .inl so_, .inl (S0_.2.2.1 134 0 m_.toNat), .inl m_, .inr (.inr (some (134, 0)))], sm_aI (sm_aI (sm_aI (sm_aI (sm_aI (sm_aI (sm_aI (sm_aI S0_ 127 0 (40 * m_ + (S0_.2.2.1 126 0 m_.toNat)).toNat (S0_.1 13 0 25)) 128 0 (40 * m_ + (S0_.2.2.1 126 0 m_.toNat)).toNat so_) 129 0 (40 * m_ + (S0_.2.2.1 126 0 m_.toNat)).toNat (S0_.1 13 0 26)) 130 0 (40 * m_ + (S0_.2.2.1 126 0 m_.toNat)).toNat th) 131 0 (40 * m_ + (S0_.2.2.1 126 0 m_.toNat)).toNat 0) 126 0 m_.toNat ((S0_.2.2.1 126 0 m_.toNat) + 1)) 132 0 m_.toNat (S0_.2.2.1 132 0 m_.toNat)) 133 0 m_.toNat (S0_.2.2.1 133 0 m_.toNat))) rfl ?_
          refine sm_T_br (a := 1) (z := 12) rfl (fun cx33_ => ?_) (fun cx33_ => ?_)
          · have cx33_ : so_ ≠ 5 := of_decide_eq_true cx33_
            refine sm_T_go 1 (c1 := (155, [some (.inr (.inr (some (13, 0)))), some (.inl m_), some (.inl so_), some (.inl th), some (.inl (40 * m_ + (S0_.2.2.1 126 0 m_.toNat)))], [.inl 0, .inl (S0_.2.2.1 134 0 m_.toNat), .inl m_, .inr (.inr (some (134, 0)))], sm_aI (sm_aI (sm_aI (sm_aI (sm_aI (sm_aI (sm_aI (sm_aI S0_ 127 0 (40 * m_ + (S0_.2.2.1 126 0 m_.toNat)).toNat (S0_.1 13 0 25)) 128 0 (40 * m_ + (S0_.2.2.1 126 0 m_.toNat)).toNat so_) 129 0 (40 * m_ + (S0_.2.2.1 126 0 m_.toNat)).toNat (S0_.1 13 0 26)) 130 0 (40 * m_ + (S0_.2.2.1 126 0 m_.toNat)).toNat th) 131 0 (40 * m_ + (S0_.2.2.1 126 0 m_.toNat)).toNat 0) 126 0 m_.toNat ((S0_.2.2.1 126 0 m_.toNat) + 1)) 132 0 m_.toNat (S0_.2.2.1 132 0 m_.toNat)) 133 0 m_.toNat (S0_.2.2.1 133 0 m_.toNat))) rfl ?_
            refine sm_T_bin (w := (S0_.2.2.1 134 0 m_.toNat)) rfl (bi_add (by omega) (by omega) (by omega)) ?_
            refine sm_T_iast (n := 16) rfl rfl (by omega) (by omega) ?_
            have hIx34_ : gi (sm_aI (sm_aI (sm_aI (sm_aI (sm_aI (sm_aI (sm_aI (sm_aI (sm_aI S0_ 127 0 (40 * m_ + (S0_.2.2.1 126 0 m_.toNat)).toNat (S0_.1 13 0 25)) 128 0 (40 * m_ + (S0_.2.2.1 126 0 m_.toNat)).toNat so_) 129 0 (40 * m_ + (S0_.2.2.1 126 0 m_.toNat)).toNat (S0_.1 13 0 26)) 130 0 (40 * m_ + (S0_.2.2.1 126 0 m_.toNat)).toNat th) 131 0 (40 * m_ + (S0_.2.2.1 126 0 m_.toNat)).toNat 0) 126 0 m_.toNat ((S0_.2.2.1 126 0 m_.toNat) + 1)) 132 0 m_.toNat (S0_.2.2.1 132 0 m_.toNat)) 133 0 m_.toNat (S0_.2.2.1 133 0 m_.toNat)) 134 0 m_.toNat (S0_.2.2.1 134 0 m_.toNat)) := gi_aI hIx29_ (show 0 ≤ (S0_.2.2.1 134 0 m_.toNat) ∧ (S0_.2.2.1 134 0 m_.toNat) ≤ 1073741823 from ⟨by omega, by omega⟩)
            have hFx35_ : ai_fr (sx_W vw_308) S0_ (sm_aI (sm_aI (sm_aI (sm_aI (sm_aI (sm_aI (sm_aI (sm_aI (sm_aI S0_ 127 0 (40 * m_ + (S0_.2.2.1 126 0 m_.toNat)).toNat (S0_.1 13 0 25)) 128 0 (40 * m_ + (S0_.2.2.1 126 0 m_.toNat)).toNat so_) 129 0 (40 * m_ + (S0_.2.2.1 126 0 m_.toNat)).toNat (S0_.1 13 0 26)) 130 0 (40 * m_ + (S0_.2.2.1 126 0 m_.toNat)).toNat th) 131 0 (40 * m_ + (S0_.2.2.1 126 0 m_.toNat)).toNat 0) 126 0 m_.toNat ((S0_.2.2.1 126 0 m_.toNat) + 1)) 132 0 m_.toNat (S0_.2.2.1 132 0 m_.toNat)) 133 0 m_.toNat (S0_.2.2.1 133 0 m_.toNat)) 134 0 m_.toNat (S0_.2.2.1 134 0 m_.toNat)) := ai_fr_tr hFx30_ (ai_fr_aI rfl)
            refine sm_T_go 4 (c1 := (163, [some (.inr (.inr (some (13, 0)))), some (.inl m_), some (.inl so_), some (.inl th), some (.inl (40 * m_ + (S0_.2.2.1 126 0 m_.toNat)))], [.inl m_, .inr (.inr (some (135, 0))), .inl m_, .inr (.inr (some (135, 0)))], sm_aI (sm_aI (sm_aI (sm_aI (sm_aI (sm_aI (sm_aI (sm_aI (sm_aI S0_ 127 0 (40 * m_ + (S0_.2.2.1 126 0 m_.toNat)).toNat (S0_.1 13 0 25)) 128 0 (40 * m_ + (S0_.2.2.1 126 0 m_.toNat)).toNat so_) 129 0 (40 * m_ + (S0_.2.2.1 126 0 m_.toNat)).toNat (S0_.1 13 0 26)) 130 0 (40 * m_ + (S0_.2.2.1 126 0 m_.toNat)).toNat th) 131 0 (40 * m_ + (S0_.2.2.1 126 0 m_.toNat)).toNat 0) 126 0 m_.toNat ((S0_.2.2.1 126 0 m_.toNat) + 1)) 132 0 m_.toNat (S0_.2.2.1 132 0 m_.toNat)) 133 0 m_.toNat (S0_.2.2.1 133 0 m_.toNat)) 134 0 m_.toNat (S0_.2.2.1 134 0 m_.toNat))) rfl ?_
            refine sm_T_iald (n := 16) rfl rfl (by omega) (by omega) ?_
            have bx36_ : 0 ≤ S0_.2.2.1 135 0 m_.toNat ∧ S0_.2.2.1 135 0 m_.toNat ≤ 1073741823 := hI_.2 135 0 _
            refine sm_T_go 2 (c1 := (166, [some (.inr (.inr (some (13, 0)))), some (.inl m_), some (.inl so_), some (.inl th), some (.inl (40 * m_ + (S0_.2.2.1 126 0 m_.toNat)))], [.inl 5, .inl so_, .inl (S0_.2.2.1 135 0 m_.toNat), .inl m_, .inr (.inr (some (135, 0)))], sm_aI (sm_aI (sm_aI (sm_aI (sm_aI (sm_aI (sm_aI (sm_aI (sm_aI S0_ 127 0 (40 * m_ + (S0_.2.2.1 126 0 m_.toNat)).toNat (S0_.1 13 0 25)) 128 0 (40 * m_ + (S0_.2.2.1 126 0 m_.toNat)).toNat so_) 129 0 (40 * m_ + (S0_.2.2.1 126 0 m_.toNat)).toNat (S0_.1 13 0 26)) 130 0 (40 * m_ + (S0_.2.2.1 126 0 m_.toNat)).toNat th) 131 0 (40 * m_ + (S0_.2.2.1 126 0 m_.toNat)).toNat 0) 126 0 m_.toNat ((S0_.2.2.1 126 0 m_.toNat) + 1)) 132 0 m_.toNat (S0_.2.2.1 132 0 m_.toNat)) 133 0 m_.toNat (S0_.2.2.1 133 0 m_.toNat)) 134 0 m_.toNat (S0_.2.2.1 134 0 m_.toNat))) rfl ?_
            refine sm_T_br (a := 1) (z := 14) rfl (fun cx37_ => ?_) (fun cx37_ => ?_)
            · have cx37_ : so_ ≠ 5 := of_decide_eq_true cx37_
              refine sm_T_go 1 (c1 := (181, [some (.inr (.inr (some (13, 0)))), some (.inl m_), some (.inl so_), some (.inl th), some (.inl (40 * m_ + (S0_.2.2.1 126 0 m_.toNat)))], [.inl 0, .inl (S0_.2.2.1 135 0 m_.toNat), .inl m_, .inr (.inr (some (135, 0)))], sm_aI (sm_aI (sm_aI (sm_aI (sm_aI (sm_aI (sm_aI (sm_aI (sm_aI S0_ 127 0 (40 * m_ + (S0_.2.2.1 126 0 m_.toNat)).toNat (S0_.1 13 0 25)) 128 0 (40 * m_ + (S0_.2.2.1 126 0 m_.toNat)).toNat so_) 129 0 (40 * m_ + (S0_.2.2.1 126 0 m_.toNat)).toNat (S0_.1 13 0 26)) 130 0 (40 * m_ + (S0_.2.2.1 126 0 m_.toNat)).toNat th) 131 0 (40 * m_ + (S0_.2.2.1 126 0 m_.toNat)).toNat 0) 126 0 m_.toNat ((S0_.2.2.1 126 0 m_.toNat) + 1)) 132 0 m_.toNat (S0_.2.2.1 132 0 m_.toNat)) 133 0 m_.toNat (S0_.2.2.1 133 0 m_.toNat)) 134 0 m_.toNat (S0_.2.2.1 134 0 m_.toNat))) rfl ?_
              refine sm_T_bin (w := (S0_.2.2.1 135 0 m_.toNat)) rfl (bi_add (by omega) (by omega) (by omega)) ?_
              refine sm_T_iast (n := 16) rfl rfl (by omega) (by omega) ?_
              have hIx38_ : gi (sm_aI (sm_aI (sm_aI (sm_aI (sm_aI (sm_aI (sm_aI (sm_aI (sm_aI (sm_aI S0_ 127 0 (40 * m_ + (S0_.2.2.1 126 0 m_.toNat)).toNat (S0_.1 13 0 25)) 128 0 (40 * m_ + (S0_.2.2.1 126 0 m_.toNat)).toNat so_) 129 0 (40 * m_ + (S0_.2.2.1 126 0 m_.toNat)).toNat (S0_.1 13 0 26)) 130 0 (40 * m_ + (S0_.2.2.1 126 0 m_.toNat)).toNat th) 131 0 (40 * m_ + (S0_.2.2.1 126 0 m_.toNat)).toNat 0) 126 0 m_.toNat ((S0_.2.2.1 126 0 m_.toNat) + 1)) 132 0 m_.toNat (S0_.2.2.1 132 0 m_.toNat)) 133 0 m_.toNat (S0_.2.2.1 133 0 m_.toNat)) 134 0 m_.toNat (S0_.2.2.1 134 0 m_.toNat)) 135 0 m_.toNat (S0_.2.2.1 135 0 m_.toNat)) := gi_aI hIx34_ (show 0 ≤ (S0_.2.2.1 135 0 m_.toNat) ∧ (S0_.2.2.1 135 0 m_.toNat) ≤ 1073741823 from ⟨by omega, by omega⟩)
              have hFx39_ : ai_fr (sx_W vw_308) S0_ (sm_aI (sm_aI (sm_aI (sm_aI (sm_aI (sm_aI (sm_aI (sm_aI (sm_aI (sm_aI S0_ 127 0 (40 * m_ + (S0_.2.2.1 126 0 m_.toNat)).toNat (S0_.1 13 0 25)) 128 0 (40 * m_ + (S0_.2.2.1 126 0 m_.toNat)).toNat so_) 129 0 (40 * m_ + (S0_.2.2.1 126 0 m_.toNat)).toNat (S0_.1 13 0 26)) 130 0 (40 * m_ + (S0_.2.2.1 126 0 m_.toNat)).toNat th) 131 0 (40 * m_ + (S0_.2.2.1 126 0 m_.toNat)).toNat 0) 126 0 m_.toNat ((S0_.2.2.1 126 0 m_.toNat) + 1)) 132 0 m_.toNat (S0_.2.2.1 132 0 m_.toNat)) 133 0 m_.toNat (S0_.2.2.1 133 0 m_.toNat)) 134 0 m_.toNat (S0_.2.2.1 134 0 m_.toNat)) 135 0 m_.toNat (S0_.2.2.1 135 0 m_.toNat)) := ai_fr_tr hFx35_ (ai_fr_aI rfl)
              refine sm_T_go 0 (c1 := (183, [some (.inr (.inr (some (13, 0)))), some (.inl m_), some (.inl so_), some (.inl th), some (.inl (40 * m_ + (S0_.2.2.1 126 0 m_.toNat)))], [], sm_aI (sm_aI (sm_aI (sm_aI (sm_aI (sm_aI (sm_aI (sm_aI (sm_aI (sm_aI S0_ 127 0 (40 * m_ + (S0_.2.2.1 126 0 m_.toNat)).toNat (S0_.1 13 0 25)) 128 0 (40 * m_ + (S0_.2.2.1 126 0 m_.toNat)).toNat so_) 129 0 (40 * m_ + (S0_.2.2.1 126 0 m_.toNat)).toNat (S0_.1 13 0 26)) 130 0 (40 * m_ + (S0_.2.2.1 126 0 m_.toNat)).toNat th) 131 0 (40 * m_ + (S0_.2.2.1 126 0 m_.toNat)).toNat 0) 126 0 m_.toNat ((S0_.2.2.1 126 0 m_.toNat) + 1)) 132 0 m_.toNat (S0_.2.2.1 132 0 m_.toNat)) 133 0 m_.toNat (S0_.2.2.1 133 0 m_.toNat)) 134 0 m_.toNat (S0_.2.2.1 134 0 m_.toNat)) 135 0 m_.toNat (S0_.2.2.1 135 0 m_.toNat))) rfl ?_
              refine sm_T_wk [some (.inr (.inr (some (13, 0)))), some (.inl m_), some (.inl so_), some (.inl th), none] (by exact ⟨rfl, rfl, rfl, rfl, trivial⟩) ?_
              refine (vl_308 m_ so_ th b_ n_ T_ x_ A_ M_ cs_ S0_ hI0_ hx_ hmm_ hso_ hr_ _)  (sm_aI (sm_aI (sm_aI (sm_aI (sm_aI (sm_aI (sm_aI (sm_aI (sm_aI (sm_aI S0_ 127 0 (40 * m_ + (S0_.2.2.1 126 0 m_.toNat)).toNat (S0_.1 13 0 25)) 128 0 (40 * m_ + (S0_.2.2.1 126 0 m_.toNat)).toNat so_) 129 0 (40 * m_ + (S0_.2.2.1 126 0 m_.toNat)).toNat (S0_.1 13 0 26)) 130 0 (40 * m_ + (S0_.2.2.1 126 0 m_.toNat)).toNat th) 131 0 (40 * m_ + (S0_.2.2.1 126 0 m_.toNat)).toNat 0) 126 0 m_.toNat ((S0_.2.2.1 126 0 m_.toNat) + 1)) 132 0 m_.toNat (S0_.2.2.1 132 0 m_.toNat)) 133 0 m_.toNat (S0_.2.2.1 133 0 m_.toNat)) 134 0 m_.toNat (S0_.2.2.1 134 0 m_.toNat)) 135 0 m_.toNat (S0_.2.2.1 135 0 m_.toNat)) hIx38_ hFx39_ ⟨?_, ?_, ?_, ?_, ?_, ?_, ?_, ?_, ?_, ?_, ?_, trivial⟩ (Nat.lt_succ_self _)
              · exact ⟨p_, hp1_⟩
              · (intro j_); (try simp only [rd_eq, rd_ne, rf_eq, rf_nk, rf_nt, rd_fa, rd_af, rd_fl, rd_al, rd_lf, rd_la, rd_leq, rd_lne, rd_fr, rd_ar, ne_eq, Nat.reduceEqDiff, not_false_eq_true]); (try simp only [iM_]); (try simp only [mM_]); (repeat' split); all_goals omega
              · (intro j_); (try simp only [rd_eq, rd_ne, rf_eq, rf_nk, rf_nt, rd_fa, rd_af, rd_fl, rd_al, rd_lf, rd_la, rd_leq, rd_lne, rd_fr, rd_ar, ne_eq, Nat.reduceEqDiff, not_false_eq_true]); (try simp only [iM_]); (try simp only [mM_]); (repeat' split); all_goals omega
              · (intro j_); (try simp only [rd_eq, rd_ne, rf_eq, rf_nk, rf_nt, rd_fa, rd_af, rd_fl, rd_al, rd_lf, rd_la, rd_leq, rd_lne, rd_fr, rd_ar, ne_eq, Nat.reduceEqDiff, not_false_eq_true]); (try simp only [iM_]); (try simp only [mM_]); (repeat' split); all_goals omega
              · (intro j_); (try simp only [rd_eq, rd_ne, rf_eq, rf_nk, rf_nt, rd_fa, rd_af, rd_fl, rd_al, rd_lf, rd_la, rd_leq, rd_lne, rd_fr, rd_ar, ne_eq, Nat.reduceEqDiff, not_false_eq_true]); (try simp only [iM_]); (try simp only [mM_]); (repeat' split); all_goals omega
              · (intro j_); (try simp only [rd_eq, rd_ne, rf_eq, rf_nk, rf_nt, rd_fa, rd_af, rd_fl, rd_al, rd_lf, rd_la, rd_leq, rd_lne, rd_fr, rd_ar, ne_eq, Nat.reduceEqDiff, not_false_eq_true]); (try simp only [iM_]); (try simp only [mM_]); (repeat' split); all_goals omega
              · (intro j_); (try simp only [rd_eq, rd_ne, rf_eq, rf_nk, rf_nt, rd_fa, rd_af, rd_fl, rd_al, rd_lf, rd_la, rd_leq, rd_lne, rd_fr, rd_ar, ne_eq, Nat.reduceEqDiff, not_false_eq_true]); (try simp only [iM_]); (try simp only [mM_]); (repeat' split); all_goals omega
              · (intro j_); (try simp only [rd_eq, rd_ne, rf_eq, rf_nk, rf_nt, rd_fa, rd_af, rd_fl, rd_al, rd_lf, rd_la, rd_leq, rd_lne, rd_fr, rd_ar, ne_eq, Nat.reduceEqDiff, not_false_eq_true]); (try simp only [iM_]); (try simp only [mM_]); (repeat' split); all_goals omega
              · (intro j_); (try simp only [rd_eq, rd_ne, rf_eq, rf_nk, rf_nt, rd_fa, rd_af, rd_fl, rd_al, rd_lf, rd_la, rd_leq, rd_lne, rd_fr, rd_ar, ne_eq, Nat.reduceEqDiff, not_false_eq_true]); (try simp only [iM_]); (try simp only [mM_]); (repeat' split); all_goals omega
              · (intro j_); (try simp only [rd_eq, rd_ne, rf_eq, rf_nk, rf_nt, rd_fa, rd_af, rd_fl, rd_al, rd_lf, rd_la, rd_leq, rd_lne, rd_fr, rd_ar, ne_eq, Nat.reduceEqDiff, not_false_eq_true]); (try simp only [iM_]); (try simp only [mM_]); (repeat' split); all_goals omega
              · (intro j_); (try simp only [rd_eq, rd_ne, rf_eq, rf_nk, rf_nt, rd_fa, rd_af, rd_fl, rd_al, rd_lf, rd_la, rd_leq, rd_lne, rd_fr, rd_ar, ne_eq, Nat.reduceEqDiff, not_false_eq_true]); (try simp only [iM_]); (try simp only [mM_]); (repeat' split); all_goals omega
            · have cx37_ : ¬ (so_ ≠ 5) := of_decide_eq_false cx37_
              refine sm_T_go 4 (c1 := (175, [some (.inr (.inr (some (13, 0)))), some (.inl m_), some (.inl so_), some (.inl th), some (.inl (40 * m_ + (S0_.2.2.1 126 0 m_.toNat)))], [.inl th, .inr (.inr (some (135, 0))), .inl 1, .inl (S0_.2.2.1 135 0 m_.toNat), .inl m_, .inr (.inr (some (135, 0)))], sm_aI (sm_aI (sm_aI (sm_aI (sm_aI (sm_aI (sm_aI (sm_aI (sm_aI S0_ 127 0 (40 * m_ + (S0_.2.2.1 126 0 m_.toNat)).toNat (S0_.1 13 0 25)) 128 0 (40 * m_ + (S0_.2.2.1 126 0 m_.toNat)).toNat so_) 129 0 (40 * m_ + (S0_.2.2.1 126 0 m_.toNat)).toNat (S0_.1 13 0 26)) 130 0 (40 * m_ + (S0_.2.2.1 126 0 m_.toNat)).toNat th) 131 0 (40 * m_ + (S0_.2.2.1 126 0 m_.toNat)).toNat 0) 126 0 m_.toNat ((S0_.2.2.1 126 0 m_.toNat) + 1)) 132 0 m_.toNat (S0_.2.2.1 132 0 m_.toNat)) 133 0 m_.toNat (S0_.2.2.1 133 0 m_.toNat)) 134 0 m_.toNat (S0_.2.2.1 134 0 m_.toNat))) rfl ?_
              refine sm_T_iald (n := 16) rfl rfl (by omega) (by omega) ?_
              have bx40_ : 0 ≤ S0_.2.2.1 135 0 th.toNat ∧ S0_.2.2.1 135 0 th.toNat ≤ 1073741823 := hI_.2 135 0 _
              refine sm_T_go 0 (c1 := (176, [some (.inr (.inr (some (13, 0)))), some (.inl m_), some (.inl so_), some (.inl th), some (.inl (40 * m_ + (S0_.2.2.1 126 0 m_.toNat)))], [.inl (S0_.2.2.1 135 0 th.toNat), .inl 1, .inl (S0_.2.2.1 135 0 m_.toNat), .inl m_, .inr (.inr (some (135, 0)))], sm_aI (sm_aI (sm_aI (sm_aI (sm_aI (sm_aI (sm_aI (sm_aI (sm_aI S0_ 127 0 (40 * m_ + (S0_.2.2.1 126 0 m_.toNat)).toNat (S0_.1 13 0 25)) 128 0 (40 * m_ + (S0_.2.2.1 126 0 m_.toNat)).toNat so_) 129 0 (40 * m_ + (S0_.2.2.1 126 0 m_.toNat)).toNat (S0_.1 13 0 26)) 130 0 (40 * m_ + (S0_.2.2.1 126 0 m_.toNat)).toNat th) 131 0 (40 * m_ + (S0_.2.2.1 126 0 m_.toNat)).toNat 0) 126 0 m_.toNat ((S0_.2.2.1 126 0 m_.toNat) + 1)) 132 0 m_.toNat (S0_.2.2.1 132 0 m_.toNat)) 133 0 m_.toNat (S0_.2.2.1 133 0 m_.toNat)) 134 0 m_.toNat (S0_.2.2.1 134 0 m_.toNat))) rfl ?_
              refine sm_T_bin (w := (S0_.2.2.1 135 0 th.toNat) + 1) rfl (bi_add (by omega) (by omega) (by omega)) ?_
              refine sm_T_go 1 (c1 := (181, [some (.inr (.inr (some (13, 0)))), some (.inl m_), some (.inl so_), some (.inl th), some (.inl (40 * m_ + (S0_.2.2.1 126 0 m_.toNat)))], [.inl ((S0_.2.2.1 135 0 th.toNat) + 1), .inl (S0_.2.2.1 135 0 m_.toNat), .inl m_, .inr (.inr (some (135, 0)))], sm_aI (sm_aI (sm_aI (sm_aI (sm_aI (sm_aI (sm_aI (sm_aI (sm_aI S0_ 127 0 (40 * m_ + (S0_.2.2.1 126 0 m_.toNat)).toNat (S0_.1 13 0 25)) 128 0 (40 * m_ + (S0_.2.2.1 126 0 m_.toNat)).toNat so_) 129 0 (40 * m_ + (S0_.2.2.1 126 0 m_.toNat)).toNat (S0_.1 13 0 26)) 130 0 (40 * m_ + (S0_.2.2.1 126 0 m_.toNat)).toNat th) 131 0 (40 * m_ + (S0_.2.2.1 126 0 m_.toNat)).toNat 0) 126 0 m_.toNat ((S0_.2.2.1 126 0 m_.toNat) + 1)) 132 0 m_.toNat (S0_.2.2.1 132 0 m_.toNat)) 133 0 m_.toNat (S0_.2.2.1 133 0 m_.toNat)) 134 0 m_.toNat (S0_.2.2.1 134 0 m_.toNat))) rfl ?_
              refine sm_T_bin (w := (S0_.2.2.1 135 0 m_.toNat) + (S0_.2.2.1 135 0 th.toNat) + 1) rfl (bi_add (by omega) (by omega) (by omega)) ?_
              refine sm_T_iast (n := 16) rfl rfl (by omega) (by omega) ?_
              have hIx41_ : gi (sm_aI (sm_aI (sm_aI (sm_aI (sm_aI (sm_aI (sm_aI (sm_aI (sm_aI (sm_aI S0_ 127 0 (40 * m_ + (S0_.2.2.1 126 0 m_.toNat)).toNat (S0_.1 13 0 25)) 128 0 (40 * m_ + (S0_.2.2.1 126 0 m_.toNat)).toNat so_) 129 0 (40 * m_ + (S0_.2.2.1 126 0 m_.toNat)).toNat (S0_.1 13 0 26)) 130 0 (40 * m_ + (S0_.2.2.1 126 0 m_.toNat)).toNat th) 131 0 (40 * m_ + (S0_.2.2.1 126 0 m_.toNat)).toNat 0) 126 0 m_.toNat ((S0_.2.2.1 126 0 m_.toNat) + 1)) 132 0 m_.toNat (S0_.2.2.1 132 0 m_.toNat)) 133 0 m_.toNat (S0_.2.2.1 133 0 m_.toNat)) 134 0 m_.toNat (S0_.2.2.1 134 0 m_.toNat)) 135 0 m_.toNat ((S0_.2.2.1 135 0 m_.toNat) + (S0_.2.2.1 135 0 th.toNat) + 1)) := gi_aI hIx34_ (show 0 ≤ (S0_.2.2.1 135 0 m_.toNat) + (S0_.2.2.1 135 0 th.toNat) + 1 ∧ (S0_.2.2.1 135 0 m_.toNat) + (S0_.2.2.1 135 0 th.toNat) + 1 ≤ 1073741823 from ⟨by omega, by omega⟩)
              have hFx42_ : ai_fr (sx_W vw_308) S0_ (sm_aI (sm_aI (sm_aI (sm_aI (sm_aI (sm_aI (sm_aI (sm_aI (sm_aI (sm_aI S0_ 127 0 (40 * m_ + (S0_.2.2.1 126 0 m_.toNat)).toNat (S0_.1 13 0 25)) 128 0 (40 * m_ + (S0_.2.2.1 126 0 m_.toNat)).toNat so_) 129 0 (40 * m_ + (S0_.2.2.1 126 0 m_.toNat)).toNat (S0_.1 13 0 26)) 130 0 (40 * m_ + (S0_.2.2.1 126 0 m_.toNat)).toNat th) 131 0 (40 * m_ + (S0_.2.2.1 126 0 m_.toNat)).toNat 0) 126 0 m_.toNat ((S0_.2.2.1 126 0 m_.toNat) + 1)) 132 0 m_.toNat (S0_.2.2.1 132 0 m_.toNat)) 133 0 m_.toNat (S0_.2.2.1 133 0 m_.toNat)) 134 0 m_.toNat (S0_.2.2.1 134 0 m_.toNat)) 135 0 m_.toNat ((S0_.2.2.1 135 0 m_.toNat) + (S0_.2.2.1 135 0 th.toNat) + 1)) := ai_fr_tr hFx35_ (ai_fr_aI rfl)
              refine sm_T_go 0 (c1 := (183, [some (.inr (.inr (some (13, 0)))), some (.inl m_), some (.inl so_), some (.inl th), some (.inl (40 * m_ + (S0_.2.2.1 126 0 m_.toNat)))], [], sm_aI (sm_aI (sm_aI (sm_aI (sm_aI (sm_aI (sm_aI (sm_aI (sm_aI (sm_aI S0_ 127 0 (40 * m_ + (S0_.2.2.1 126 0 m_.toNat)).toNat (S0_.1 13 0 25)) 128 0 (40 * m_ + (S0_.2.2.1 126 0 m_.toNat)).toNat so_) 129 0 (40 * m_ + (S0_.2.2.1 126 0 m_.toNat)).toNat (S0_.1 13 0 26)) 130 0 (40 * m_ + (S0_.2.2.1 126 0 m_.toNat)).toNat th) 131 0 (40 * m_ + (S0_.2.2.1 126 0 m_.toNat)).toNat 0) 126 0 m_.toNat ((S0_.2.2.1 126 0 m_.toNat) + 1)) 132 0 m_.toNat (S0_.2.2.1 132 0 m_.toNat)) 133 0 m_.toNat (S0_.2.2.1 133 0 m_.toNat)) 134 0 m_.toNat (S0_.2.2.1 134 0 m_.toNat)) 135 0 m_.toNat ((S0_.2.2.1 135 0 m_.toNat) + (S0_.2.2.1 135 0 th.toNat) + 1))) rfl ?_
              refine sm_T_wk [some (.inr (.inr (some (13, 0)))), some (.inl m_), some (.inl so_), some (.inl th), none] (by exact ⟨rfl, rfl, rfl, rfl, trivial⟩) ?_
              refine (vl_308 m_ so_ th b_ n_ T_ x_ A_ M_ cs_ S0_ hI0_ hx_ hmm_ hso_ hr_ _)  (sm_aI (sm_aI (sm_aI (sm_aI (sm_aI (sm_aI (sm_aI (sm_aI (sm_aI (sm_aI S0_ 127 0 (40 * m_ + (S0_.2.2.1 126 0 m_.toNat)).toNat (S0_.1 13 0 25)) 128 0 (40 * m_ + (S0_.2.2.1 126 0 m_.toNat)).toNat so_) 129 0 (40 * m_ + (S0_.2.2.1 126 0 m_.toNat)).toNat (S0_.1 13 0 26)) 130 0 (40 * m_ + (S0_.2.2.1 126 0 m_.toNat)).toNat th) 131 0 (40 * m_ + (S0_.2.2.1 126 0 m_.toNat)).toNat 0) 126 0 m_.toNat ((S0_.2.2.1 126 0 m_.toNat) + 1)) 132 0 m_.toNat (S0_.2.2.1 132 0 m_.toNat)) 133 0 m_.toNat (S0_.2.2.1 133 0 m_.toNat)) 134 0 m_.toNat (S0_.2.2.1 134 0 m_.toNat)) 135 0 m_.toNat ((S0_.2.2.1 135 0 m_.toNat) + (S0_.2.2.1 135 0 th.toNat) + 1)) hIx41_ hFx42_ ⟨?_, ?_, ?_, ?_, ?_, ?_, ?_, ?_, ?_, ?_, ?_, trivial⟩ (Nat.lt_succ_self _)
              · exact ⟨p_, hp1_⟩
              · (intro j_); (try simp only [rd_eq, rd_ne, rf_eq, rf_nk, rf_nt, rd_fa, rd_af, rd_fl, rd_al, rd_lf, rd_la, rd_leq, rd_lne, rd_fr, rd_ar, ne_eq, Nat.reduceEqDiff, not_false_eq_true]); (try simp only [iM_]); (try simp only [mM_]); (repeat' split); all_goals omega
              · (intro j_); (try simp only [rd_eq, rd_ne, rf_eq, rf_nk, rf_nt, rd_fa, rd_af, rd_fl, rd_al, rd_lf, rd_la, rd_leq, rd_lne, rd_fr, rd_ar, ne_eq, Nat.reduceEqDiff, not_false_eq_true]); (try simp only [iM_]); (try simp only [mM_]); (repeat' split); all_goals omega
              · (intro j_); (try simp only [rd_eq, rd_ne, rf_eq, rf_nk, rf_nt, rd_fa, rd_af, rd_fl, rd_al, rd_lf, rd_la, rd_leq, rd_lne, rd_fr, rd_ar, ne_eq, Nat.reduceEqDiff, not_false_eq_true]); (try simp only [iM_]); (try simp only [mM_]); (repeat' split); all_goals omega
              · (intro j_); (try simp only [rd_eq, rd_ne, rf_eq, rf_nk, rf_nt, rd_fa, rd_af, rd_fl, rd_al, rd_lf, rd_la, rd_leq, rd_lne, rd_fr, rd_ar, ne_eq, Nat.reduceEqDiff, not_false_eq_true]); (try simp only [iM_]); (try simp only [mM_]); (repeat' split); all_goals omega
              · (intro j_); (try simp only [rd_eq, rd_ne, rf_eq, rf_nk, rf_nt, rd_fa, rd_af, rd_fl, rd_al, rd_lf, rd_la, rd_leq, rd_lne, rd_fr, rd_ar, ne_eq, Nat.reduceEqDiff, not_false_eq_true]); (try simp only [iM_]); (try simp only [mM_]); (repeat' split); all_goals omega
              · (intro j_); (try simp only [rd_eq, rd_ne, rf_eq, rf_nk, rf_nt, rd_fa, rd_af, rd_fl, rd_al, rd_lf, rd_la, rd_leq, rd_lne, rd_fr, rd_ar, ne_eq, Nat.reduceEqDiff, not_false_eq_true]); (try simp only [iM_]); (try simp only [mM_]); (repeat' split); all_goals omega
              · (intro j_); (try simp only [rd_eq, rd_ne, rf_eq, rf_nk, rf_nt, rd_fa, rd_af, rd_fl, rd_al, rd_lf, rd_la, rd_leq, rd_lne, rd_fr, rd_ar, ne_eq, Nat.reduceEqDiff, not_false_eq_true]); (try simp only [iM_]); (try simp only [mM_]); (repeat' split); all_goals omega
              · (intro j_); (try simp only [rd_eq, rd_ne, rf_eq, rf_nk, rf_nt, rd_fa, rd_af, rd_fl, rd_al, rd_lf, rd_la, rd_leq, rd_lne, rd_fr, rd_ar, ne_eq, Nat.reduceEqDiff, not_false_eq_true]); (try simp only [iM_]); (try simp only [mM_]); (repeat' split); all_goals omega
              · (intro j_); (try simp only [rd_eq, rd_ne, rf_eq, rf_nk, rf_nt, rd_fa, rd_af, rd_fl, rd_al, rd_lf, rd_la, rd_leq, rd_lne, rd_fr, rd_ar, ne_eq, Nat.reduceEqDiff, not_false_eq_true]); (try simp only [iM_]); (try simp only [mM_]); (repeat' split); all_goals omega
              · (intro j_); (try simp only [rd_eq, rd_ne, rf_eq, rf_nk, rf_nt, rd_fa, rd_af, rd_fl, rd_al, rd_lf, rd_la, rd_leq, rd_lne, rd_fr, rd_ar, ne_eq, Nat.reduceEqDiff, not_false_eq_true]); (try simp only [iM_]); (try simp only [mM_]); (repeat' split); all_goals omega
          · have cx33_ : ¬ (so_ ≠ 5) := of_decide_eq_false cx33_
            refine sm_T_go 3 (c1 := (150, [some (.inr (.inr (some (13, 0)))), some (.inl m_), some (.inl so_), some (.inl th), some (.inl (40 * m_ + (S0_.2.2.1 126 0 m_.toNat)))], [.inl th, .inr (.inr (some (134, 0))), .inl (S0_.2.2.1 134 0 m_.toNat), .inl m_, .inr (.inr (some (134, 0)))], sm_aI (sm_aI (sm_aI (sm_aI (sm_aI (sm_aI (sm_aI (sm_aI S0_ 127 0 (40 * m_ + (S0_.2.2.1 126 0 m_.toNat)).toNat (S0_.1 13 0 25)) 128 0 (40 * m_ + (S0_.2.2.1 126 0 m_.toNat)).toNat so_) 129 0 (40 * m_ + (S0_.2.2.1 126 0 m_.toNat)).toNat (S0_.1 13 0 26)) 130 0 (40 * m_ + (S0_.2.2.1 126 0 m_.toNat)).toNat th) 131 0 (40 * m_ + (S0_.2.2.1 126 0 m_.toNat)).toNat 0) 126 0 m_.toNat ((S0_.2.2.1 126 0 m_.toNat) + 1)) 132 0 m_.toNat (S0_.2.2.1 132 0 m_.toNat)) 133 0 m_.toNat (S0_.2.2.1 133 0 m_.toNat))) rfl ?_
            refine sm_T_iald (n := 16) rfl rfl (by omega) (by omega) ?_
            have bx43_ : 0 ≤ S0_.2.2.1 134 0 th.toNat ∧ S0_.2.2.1 134 0 th.toNat ≤ 1073741823 := hI_.2 134 0 _
            refine sm_T_go 1 (c1 := (155, [some (.inr (.inr (some (13, 0)))), some (.inl m_), some (.inl so_), some (.inl th), some (.inl (40 * m_ + (S0_.2.2.1 126 0 m_.toNat)))], [.inl (S0_.2.2.1 134 0 th.toNat), .inl (S0_.2.2.1 134 0 m_.toNat), .inl m_, .inr (.inr (some (134, 0)))], sm_aI (sm_aI (sm_aI (sm_aI (sm_aI (sm_aI (sm_aI (sm_aI S0_ 127 0 (40 * m_ + (S0_.2.2.1 126 0 m_.toNat)).toNat (S0_.1 13 0 25)) 128 0 (40 * m_ + (S0_.2.2.1 126 0 m_.toNat)).toNat so_) 129 0 (40 * m_ + (S0_.2.2.1 126 0 m_.toNat)).toNat (S0_.1 13 0 26)) 130 0 (40 * m_ + (S0_.2.2.1 126 0 m_.toNat)).toNat th) 131 0 (40 * m_ + (S0_.2.2.1 126 0 m_.toNat)).toNat 0) 126 0 m_.toNat ((S0_.2.2.1 126 0 m_.toNat) + 1)) 132 0 m_.toNat (S0_.2.2.1 132 0 m_.toNat)) 133 0 m_.toNat (S0_.2.2.1 133 0 m_.toNat))) rfl ?_
            refine sm_T_bin (w := (S0_.2.2.1 134 0 m_.toNat) + (S0_.2.2.1 134 0 th.toNat)) rfl (bi_add (by omega) (by omega) (by omega)) ?_
            refine sm_T_iast (n := 16) rfl rfl (by omega) (by omega) ?_
            have hIx44_ : gi (sm_aI (sm_aI (sm_aI (sm_aI (sm_aI (sm_aI (sm_aI (sm_aI (sm_aI S0_ 127 0 (40 * m_ + (S0_.2.2.1 126 0 m_.toNat)).toNat (S0_.1 13 0 25)) 128 0 (40 * m_ + (S0_.2.2.1 126 0 m_.toNat)).toNat so_) 129 0 (40 * m_ + (S0_.2.2.1 126 0 m_.toNat)).toNat (S0_.1 13 0 26)) 130 0 (40 * m_ + (S0_.2.2.1 126 0 m_.toNat)).toNat th) 131 0 (40 * m_ + (S0_.2.2.1 126 0 m_.toNat)).toNat 0) 126 0 m_.toNat ((S0_.2.2.1 126 0 m_.toNat) + 1)) 132 0 m_.toNat (S0_.2.2.1 132 0 m_.toNat)) 133 0 m_.toNat (S0_.2.2.1 133 0 m_.toNat)) 134 0 m_.toNat ((S0_.2.2.1 134 0 m_.toNat) + (S0_.2.2.1 134 0 th.toNat))) := gi_aI hIx29_ (show 0 ≤ (S0_.2.2.1 134 0 m_.toNat) + (S0_.2.2.1 134 0 th.toNat) ∧ (S0_.2.2.1 134 0 m_.toNat) + (S0_.2.2.1 134 0 th.toNat) ≤ 1073741823 from ⟨by omega, by omega⟩)
            have hFx45_ : ai_fr (sx_W vw_308) S0_ (sm_aI (sm_aI (sm_aI (sm_aI (sm_aI (sm_aI (sm_aI (sm_aI (sm_aI S0_ 127 0 (40 * m_ + (S0_.2.2.1 126 0 m_.toNat)).toNat (S0_.1 13 0 25)) 128 0 (40 * m_ + (S0_.2.2.1 126 0 m_.toNat)).toNat so_) 129 0 (40 * m_ + (S0_.2.2.1 126 0 m_.toNat)).toNat (S0_.1 13 0 26)) 130 0 (40 * m_ + (S0_.2.2.1 126 0 m_.toNat)).toNat th) 131 0 (40 * m_ + (S0_.2.2.1 126 0 m_.toNat)).toNat 0) 126 0 m_.toNat ((S0_.2.2.1 126 0 m_.toNat) + 1)) 132 0 m_.toNat (S0_.2.2.1 132 0 m_.toNat)) 133 0 m_.toNat (S0_.2.2.1 133 0 m_.toNat)) 134 0 m_.toNat ((S0_.2.2.1 134 0 m_.toNat) + (S0_.2.2.1 134 0 th.toNat))) := ai_fr_tr hFx30_ (ai_fr_aI rfl)
            refine sm_T_go 4 (c1 := (163, [some (.inr (.inr (some (13, 0)))), some (.inl m_), some (.inl so_), some (.inl th), some (.inl (40 * m_ + (S0_.2.2.1 126 0 m_.toNat)))], [.inl m_, .inr (.inr (some (135, 0))), .inl m_, .inr (.inr (some (135, 0)))], sm_aI (sm_aI (sm_aI (sm_aI (sm_aI (sm_aI (sm_aI (sm_aI (sm_aI S0_ 127 0 (40 * m_ + (S0_.2.2.1 126 0 m_.toNat)).toNat (S0_.1 13 0 25)) 128 0 (40 * m_ + (S0_.2.2.1 126 0 m_.toNat)).toNat so_) 129 0 (40 * m_ + (S0_.2.2.1 126 0 m_.toNat)).toNat (S0_.1 13 0 26)) 130 0 (40 * m_ + (S0_.2.2.1 126 0 m_.toNat)).toNat th) 131 0 (40 * m_ + (S0_.2.2.1 126 0 m_.toNat)).toNat 0) 126 0 m_.toNat ((S0_.2.2.1 126 0 m_.toNat) + 1)) 132 0 m_.toNat (S0_.2.2.1 132 0 m_.toNat)) 133 0 m_.toNat (S0_.2.2.1 133 0 m_.toNat)) 134 0 m_.toNat ((S0_.2.2.1 134 0 m_.toNat) + (S0_.2.2.1 134 0 th.toNat)))) rfl ?_
            refine sm_T_iald (n := 16) rfl rfl (by omega) (by omega) ?_
            have bx46_ : 0 ≤ S0_.2.2.1 135 0 m_.toNat ∧ S0_.2.2.1 135 0 m_.toNat ≤ 1073741823 := hI_.2 135 0 _
            refine sm_T_go 2 (c1 := (166, [some (.inr (.inr (some (13, 0)))), some (.inl m_), some (.inl so_), some (.inl th), some (.inl (40 * m_ + (S0_.2.2.1 126 0 m_.toNat)))], [.inl 5, .inl so_, .inl (S0_.2.2.1 135 0 m_.toNat), .inl m_, .inr (.inr (some (135, 0)))], sm_aI (sm_aI (sm_aI (sm_aI (sm_aI (sm_aI (sm_aI (sm_aI (sm_aI S0_ 127 0 (40 * m_ + (S0_.2.2.1 126 0 m_.toNat)).toNat (S0_.1 13 0 25)) 128 0 (40 * m_ + (S0_.2.2.1 126 0 m_.toNat)).toNat so_) 129 0 (40 * m_ + (S0_.2.2.1 126 0 m_.toNat)).toNat (S0_.1 13 0 26)) 130 0 (40 * m_ + (S0_.2.2.1 126 0 m_.toNat)).toNat th) 131 0 (40 * m_ + (S0_.2.2.1 126 0 m_.toNat)).toNat 0) 126 0 m_.toNat ((S0_.2.2.1 126 0 m_.toNat) + 1)) 132 0 m_.toNat (S0_.2.2.1 132 0 m_.toNat)) 133 0 m_.toNat (S0_.2.2.1 133 0 m_.toNat)) 134 0 m_.toNat ((S0_.2.2.1 134 0 m_.toNat) + (S0_.2.2.1 134 0 th.toNat)))) rfl ?_
            refine sm_T_br (a := 1) (z := 14) rfl (fun cx47_ => ?_) (fun cx47_ => ?_)
            · have cx47_ : so_ ≠ 5 := of_decide_eq_true cx47_
              exfalso; omega
            · have cx47_ : ¬ (so_ ≠ 5) := of_decide_eq_false cx47_
              refine sm_T_go 4 (c1 := (175, [some (.inr (.inr (some (13, 0)))), some (.inl m_), some (.inl so_), some (.inl th), some (.inl (40 * m_ + (S0_.2.2.1 126 0 m_.toNat)))], [.inl th, .inr (.inr (some (135, 0))), .inl 1, .inl (S0_.2.2.1 135 0 m_.toNat), .inl m_, .inr (.inr (some (135, 0)))], sm_aI (sm_aI (sm_aI (sm_aI (sm_aI (sm_aI (sm_aI (sm_aI (sm_aI S0_ 127 0 (40 * m_ + (S0_.2.2.1 126 0 m_.toNat)).toNat (S0_.1 13 0 25)) 128 0 (40 * m_ + (S0_.2.2.1 126 0 m_.toNat)).toNat so_) 129 0 (40 * m_ + (S0_.2.2.1 126 0 m_.toNat)).toNat (S0_.1 13 0 26)) 130 0 (40 * m_ + (S0_.2.2.1 126 0 m_.toNat)).toNat th) 131 0 (40 * m_ + (S0_.2.2.1 126 0 m_.toNat)).toNat 0) 126 0 m_.toNat ((S0_.2.2.1 126 0 m_.toNat) + 1)) 132 0 m_.toNat (S0_.2.2.1 132 0 m_.toNat)) 133 0 m_.toNat (S0_.2.2.1 133 0 m_.toNat)) 134 0 m_.toNat ((S0_.2.2.1 134 0 m_.toNat) + (S0_.2.2.1 134 0 th.toNat)))) rfl ?_
              refine sm_T_iald (n := 16) rfl rfl (by omega) (by omega) ?_
              have bx48_ : 0 ≤ S0_.2.2.1 135 0 th.toNat ∧ S0_.2.2.1 135 0 th.toNat ≤ 1073741823 := hI_.2 135 0 _
              refine sm_T_go 0 (c1 := (176, [some (.inr (.inr (some (13, 0)))), some (.inl m_), some (.inl so_), some (.inl th), some (.inl (40 * m_ + (S0_.2.2.1 126 0 m_.toNat)))], [.inl (S0_.2.2.1 135 0 th.toNat), .inl 1, .inl (S0_.2.2.1 135 0 m_.toNat), .inl m_, .inr (.inr (some (135, 0)))], sm_aI (sm_aI (sm_aI (sm_aI (sm_aI (sm_aI (sm_aI (sm_aI (sm_aI S0_ 127 0 (40 * m_ + (S0_.2.2.1 126 0 m_.toNat)).toNat (S0_.1 13 0 25)) 128 0 (40 * m_ + (S0_.2.2.1 126 0 m_.toNat)).toNat so_) 129 0 (40 * m_ + (S0_.2.2.1 126 0 m_.toNat)).toNat (S0_.1 13 0 26)) 130 0 (40 * m_ + (S0_.2.2.1 126 0 m_.toNat)).toNat th) 131 0 (40 * m_ + (S0_.2.2.1 126 0 m_.toNat)).toNat 0) 126 0 m_.toNat ((S0_.2.2.1 126 0 m_.toNat) + 1)) 132 0 m_.toNat (S0_.2.2.1 132 0 m_.toNat)) 133 0 m_.toNat (S0_.2.2.1 133 0 m_.toNat)) 134 0 m_.toNat ((S0_.2.2.1 134 0 m_.toNat) + (S0_.2.2.1 134 0 th.toNat)))) rfl ?_
              refine sm_T_bin (w := (S0_.2.2.1 135 0 th.toNat) + 1) rfl (bi_add (by omega) (by omega) (by omega)) ?_
              refine sm_T_go 1 (c1 := (181, [some (.inr (.inr (some (13, 0)))), some (.inl m_), some (.inl so_), some (.inl th), some (.inl (40 * m_ + (S0_.2.2.1 126 0 m_.toNat)))], [.inl ((S0_.2.2.1 135 0 th.toNat) + 1), .inl (S0_.2.2.1 135 0 m_.toNat), .inl m_, .inr (.inr (some (135, 0)))], sm_aI (sm_aI (sm_aI (sm_aI (sm_aI (sm_aI (sm_aI (sm_aI (sm_aI S0_ 127 0 (40 * m_ + (S0_.2.2.1 126 0 m_.toNat)).toNat (S0_.1 13 0 25)) 128 0 (40 * m_ + (S0_.2.2.1 126 0 m_.toNat)).toNat so_) 129 0 (40 * m_ + (S0_.2.2.1 126 0 m_.toNat)).toNat (S0_.1 13 0 26)) 130 0 (40 * m_ + (S0_.2.2.1 126 0 m_.toNat)).toNat th) 131 0 (40 * m_ + (S0_.2.2.1 126 0 m_.toNat)).toNat 0) 126 0 m_.toNat ((S0_.2.2.1 126 0 m_.toNat) + 1)) 132 0 m_.toNat (S0_.2.2.1 132 0 m_.toNat)) 133 0 m_.toNat (S0_.2.2.1 133 0 m_.toNat)) 134 0 m_.toNat ((S0_.2.2.1 134 0 m_.toNat) + (S0_.2.2.1 134 0 th.toNat)))) rfl ?_
              refine sm_T_bin (w := (S0_.2.2.1 135 0 m_.toNat) + (S0_.2.2.1 135 0 th.toNat) + 1) rfl (bi_add (by omega) (by omega) (by omega)) ?_
              refine sm_T_iast (n := 16) rfl rfl (by omega) (by omega) ?_
              have hIx49_ : gi (sm_aI (sm_aI (sm_aI (sm_aI (sm_aI (sm_aI (sm_aI (sm_aI (sm_aI (sm_aI S0_ 127 0 (40 * m_ + (S0_.2.2.1 126 0 m_.toNat)).toNat (S0_.1 13 0 25)) 128 0 (40 * m_ + (S0_.2.2.1 126 0 m_.toNat)).toNat so_) 129 0 (40 * m_ + (S0_.2.2.1 126 0 m_.toNat)).toNat (S0_.1 13 0 26)) 130 0 (40 * m_ + (S0_.2.2.1 126 0 m_.toNat)).toNat th) 131 0 (40 * m_ + (S0_.2.2.1 126 0 m_.toNat)).toNat 0) 126 0 m_.toNat ((S0_.2.2.1 126 0 m_.toNat) + 1)) 132 0 m_.toNat (S0_.2.2.1 132 0 m_.toNat)) 133 0 m_.toNat (S0_.2.2.1 133 0 m_.toNat)) 134 0 m_.toNat ((S0_.2.2.1 134 0 m_.toNat) + (S0_.2.2.1 134 0 th.toNat))) 135 0 m_.toNat ((S0_.2.2.1 135 0 m_.toNat) + (S0_.2.2.1 135 0 th.toNat) + 1)) := gi_aI hIx44_ (show 0 ≤ (S0_.2.2.1 135 0 m_.toNat) + (S0_.2.2.1 135 0 th.toNat) + 1 ∧ (S0_.2.2.1 135 0 m_.toNat) + (S0_.2.2.1 135 0 th.toNat) + 1 ≤ 1073741823 from ⟨by omega, by omega⟩)
              have hFx50_ : ai_fr (sx_W vw_308) S0_ (sm_aI (sm_aI (sm_aI (sm_aI (sm_aI (sm_aI (sm_aI (sm_aI (sm_aI (sm_aI S0_ 127 0 (40 * m_ + (S0_.2.2.1 126 0 m_.toNat)).toNat (S0_.1 13 0 25)) 128 0 (40 * m_ + (S0_.2.2.1 126 0 m_.toNat)).toNat so_) 129 0 (40 * m_ + (S0_.2.2.1 126 0 m_.toNat)).toNat (S0_.1 13 0 26)) 130 0 (40 * m_ + (S0_.2.2.1 126 0 m_.toNat)).toNat th) 131 0 (40 * m_ + (S0_.2.2.1 126 0 m_.toNat)).toNat 0) 126 0 m_.toNat ((S0_.2.2.1 126 0 m_.toNat) + 1)) 132 0 m_.toNat (S0_.2.2.1 132 0 m_.toNat)) 133 0 m_.toNat (S0_.2.2.1 133 0 m_.toNat)) 134 0 m_.toNat ((S0_.2.2.1 134 0 m_.toNat) + (S0_.2.2.1 134 0 th.toNat))) 135 0 m_.toNat ((S0_.2.2.1 135 0 m_.toNat) + (S0_.2.2.1 135 0 th.toNat) + 1)) := ai_fr_tr hFx45_ (ai_fr_aI rfl)
              refine sm_T_go 0 (c1 := (183, [some (.inr (.inr (some (13, 0)))), some (.inl m_), some (.inl so_), some (.inl th), some (.inl (40 * m_ + (S0_.2.2.1 126 0 m_.toNat)))], [], sm_aI (sm_aI (sm_aI (sm_aI (sm_aI (sm_aI (sm_aI (sm_aI (sm_aI (sm_aI S0_ 127 0 (40 * m_ + (S0_.2.2.1 126 0 m_.toNat)).toNat (S0_.1 13 0 25)) 128 0 (40 * m_ + (S0_.2.2.1 126 0 m_.toNat)).toNat so_) 129 0 (40 * m_ + (S0_.2.2.1 126 0 m_.toNat)).toNat (S0_.1 13 0 26)) 130 0 (40 * m_ + (S0_.2.2.1 126 0 m_.toNat)).toNat th) 131 0 (40 * m_ + (S0_.2.2.1 126 0 m_.toNat)).toNat 0) 126 0 m_.toNat ((S0_.2.2.1 126 0 m_.toNat) + 1)) 132 0 m_.toNat (S0_.2.2.1 132 0 m_.toNat)) 133 0 m_.toNat (S0_.2.2.1 133 0 m_.toNat)) 134 0 m_.toNat ((S0_.2.2.1 134 0 m_.toNat) + (S0_.2.2.1 134 0 th.toNat))) 135 0 m_.toNat ((S0_.2.2.1 135 0 m_.toNat) + (S0_.2.2.1 135 0 th.toNat) + 1))) rfl ?_
              refine sm_T_wk [some (.inr (.inr (some (13, 0)))), some (.inl m_), some (.inl so_), some (.inl th), none] (by exact ⟨rfl, rfl, rfl, rfl, trivial⟩) ?_
              refine (vl_308 m_ so_ th b_ n_ T_ x_ A_ M_ cs_ S0_ hI0_ hx_ hmm_ hso_ hr_ _)  (sm_aI (sm_aI (sm_aI (sm_aI (sm_aI (sm_aI (sm_aI (sm_aI (sm_aI (sm_aI S0_ 127 0 (40 * m_ + (S0_.2.2.1 126 0 m_.toNat)).toNat (S0_.1 13 0 25)) 128 0 (40 * m_ + (S0_.2.2.1 126 0 m_.toNat)).toNat so_) 129 0 (40 * m_ + (S0_.2.2.1 126 0 m_.toNat)).toNat (S0_.1 13 0 26)) 130 0 (40 * m_ + (S0_.2.2.1 126 0 m_.toNat)).toNat th) 131 0 (40 * m_ + (S0_.2.2.1 126 0 m_.toNat)).toNat 0) 126 0 m_.toNat ((S0_.2.2.1 126 0 m_.toNat) + 1)) 132 0 m_.toNat (S0_.2.2.1 132 0 m_.toNat)) 133 0 m_.toNat (S0_.2.2.1 133 0 m_.toNat)) 134 0 m_.toNat ((S0_.2.2.1 134 0 m_.toNat) + (S0_.2.2.1 134 0 th.toNat))) 135 0 m_.toNat ((S0_.2.2.1 135 0 m_.toNat) + (S0_.2.2.1 135 0 th.toNat) + 1)) hIx49_ hFx50_ ⟨?_, ?_, ?_, ?_, ?_, ?_, ?_, ?_, ?_, ?_, ?_, trivial⟩ (Nat.lt_succ_self _)
              · exact ⟨p_, hp1_⟩
              · (intro j_); (try simp only [rd_eq, rd_ne, rf_eq, rf_nk, rf_nt, rd_fa, rd_af, rd_fl, rd_al, rd_lf, rd_la, rd_leq, rd_lne, rd_fr, rd_ar, ne_eq, Nat.reduceEqDiff, not_false_eq_true]); (try simp only [iM_]); (try simp only [mM_]); (repeat' split); all_goals omega
              · (intro j_); (try simp only [rd_eq, rd_ne, rf_eq, rf_nk, rf_nt, rd_fa, rd_af, rd_fl, rd_al, rd_lf, rd_la, rd_leq, rd_lne, rd_fr, rd_ar, ne_eq, Nat.reduceEqDiff, not_false_eq_true]); (try simp only [iM_]); (try simp only [mM_]); (repeat' split); all_goals omega
              · (intro j_); (try simp only [rd_eq, rd_ne, rf_eq, rf_nk, rf_nt, rd_fa, rd_af, rd_fl, rd_al, rd_lf, rd_la, rd_leq, rd_lne, rd_fr, rd_ar, ne_eq, Nat.reduceEqDiff, not_false_eq_true]); (try simp only [iM_]); (try simp only [mM_]); (repeat' split); all_goals omega
              · (intro j_); (try simp only [rd_eq, rd_ne, rf_eq, rf_nk, rf_nt, rd_fa, rd_af, rd_fl, rd_al, rd_lf, rd_la, rd_leq, rd_lne, rd_fr, rd_ar, ne_eq, Nat.reduceEqDiff, not_false_eq_true]); (try simp only [iM_]); (try simp only [mM_]); (repeat' split); all_goals omega
              · (intro j_); (try simp only [rd_eq, rd_ne, rf_eq, rf_nk, rf_nt, rd_fa, rd_af, rd_fl, rd_al, rd_lf, rd_la, rd_leq, rd_lne, rd_fr, rd_ar, ne_eq, Nat.reduceEqDiff, not_false_eq_true]); (try simp only [iM_]); (try simp only [mM_]); (repeat' split); all_goals omega
              · (intro j_); (try simp only [rd_eq, rd_ne, rf_eq, rf_nk, rf_nt, rd_fa, rd_af, rd_fl, rd_al, rd_lf, rd_la, rd_leq, rd_lne, rd_fr, rd_ar, ne_eq, Nat.reduceEqDiff, not_false_eq_true]); (try simp only [iM_]); (try simp only [mM_]); (repeat' split); all_goals omega
              · (intro j_); (try simp only [rd_eq, rd_ne, rf_eq, rf_nk, rf_nt, rd_fa, rd_af, rd_fl, rd_al, rd_lf, rd_la, rd_leq, rd_lne, rd_fr, rd_ar, ne_eq, Nat.reduceEqDiff, not_false_eq_true]); (try simp only [iM_]); (try simp only [mM_]); (repeat' split); all_goals omega
              · (intro j_); (try simp only [rd_eq, rd_ne, rf_eq, rf_nk, rf_nt, rd_fa, rd_af, rd_fl, rd_al, rd_lf, rd_la, rd_leq, rd_lne, rd_fr, rd_ar, ne_eq, Nat.reduceEqDiff, not_false_eq_true]); (try simp only [iM_]); (try simp only [mM_]); (repeat' split); all_goals omega
              · (intro j_); (try simp only [rd_eq, rd_ne, rf_eq, rf_nk, rf_nt, rd_fa, rd_af, rd_fl, rd_al, rd_lf, rd_la, rd_leq, rd_lne, rd_fr, rd_ar, ne_eq, Nat.reduceEqDiff, not_false_eq_true]); (try simp only [iM_]); (try simp only [mM_]); (repeat' split); all_goals omega
              · (intro j_); (try simp only [rd_eq, rd_ne, rf_eq, rf_nk, rf_nt, rd_fa, rd_af, rd_fl, rd_al, rd_lf, rd_la, rd_leq, rd_lne, rd_fr, rd_ar, ne_eq, Nat.reduceEqDiff, not_false_eq_true]); (try simp only [iM_]); (try simp only [mM_]); (repeat' split); all_goals omega
        · have cx32_ : ¬ (so_ ≠ 4) := of_decide_eq_false cx32_
          refine sm_T_go 3 (c1 := (155, [some (.inr (.inr (some (13, 0)))), some (.inl m_), some (.inl so_), some (.inl th), some (.inl (40 * m_ + (S0_.2.2.1 126 0 m_.toNat)))], [.inl (S0_.1 13 0 26), .inl (S0_.2.2.1 134 0 m_.toNat), .inl m_, .inr (.inr (some (134, 0)))], sm_aI (sm_aI (sm_aI (sm_aI (sm_aI (sm_aI (sm_aI (sm_aI S0_ 127 0 (40 * m_ + (S0_.2.2.1 126 0 m_.toNat)).toNat (S0_.1 13 0 25)) 128 0 (40 * m_ + (S0_.2.2.1 126 0 m_.toNat)).toNat so_) 129 0 (40 * m_ + (S0_.2.2.1 126 0 m_.toNat)).toNat (S0_.1 13 0 26)) 130 0 (40 * m_ + (S0_.2.2.1 126 0 m_.toNat)).toNat th) 131 0 (40 * m_ + (S0_.2.2.1 126 0 m_.toNat)).toNat 0) 126 0 m_.toNat ((S0_.2.2.1 126 0 m_.toNat) + 1)) 132 0 m_.toNat (S0_.2.2.1 132 0 m_.toNat)) 133 0 m_.toNat (S0_.2.2.1 133 0 m_.toNat))) rfl ?_
          refine sm_T_bin (w := (S0_.2.2.1 134 0 m_.toNat) + (S0_.1 13 0 26)) rfl (bi_add (by omega) (by omega) (by omega)) ?_
          refine sm_T_iast (n := 16) rfl rfl (by omega) (by omega) ?_
          have hIx51_ : gi (sm_aI (sm_aI (sm_aI (sm_aI (sm_aI (sm_aI (sm_aI (sm_aI (sm_aI S0_ 127 0 (40 * m_ + (S0_.2.2.1 126 0 m_.toNat)).toNat (S0_.1 13 0 25)) 128 0 (40 * m_ + (S0_.2.2.1 126 0 m_.toNat)).toNat so_) 129 0 (40 * m_ + (S0_.2.2.1 126 0 m_.toNat)).toNat (S0_.1 13 0 26)) 130 0 (40 * m_ + (S0_.2.2.1 126 0 m_.toNat)).toNat th) 131 0 (40 * m_ + (S0_.2.2.1 126 0 m_.toNat)).toNat 0) 126 0 m_.toNat ((S0_.2.2.1 126 0 m_.toNat) + 1)) 132 0 m_.toNat (S0_.2.2.1 132 0 m_.toNat)) 133 0 m_.toNat (S0_.2.2.1 133 0 m_.toNat)) 134 0 m_.toNat ((S0_.2.2.1 134 0 m_.toNat) + (S0_.1 13 0 26))) := gi_aI hIx29_ (show 0 ≤ (S0_.2.2.1 134 0 m_.toNat) + (S0_.1 13 0 26) ∧ (S0_.2.2.1 134 0 m_.toNat) + (S0_.1 13 0 26) ≤ 1073741823 from ⟨by omega, by omega⟩)
          have hFx52_ : ai_fr (sx_W vw_308) S0_ (sm_aI (sm_aI (sm_aI (sm_aI (sm_aI (sm_aI (sm_aI (sm_aI (sm_aI S0_ 127 0 (40 * m_ + (S0_.2.2.1 126 0 m_.toNat)).toNat (S0_.1 13 0 25)) 128 0 (40 * m_ + (S0_.2.2.1 126 0 m_.toNat)).toNat so_) 129 0 (40 * m_ + (S0_.2.2.1 126 0 m_.toNat)).toNat (S0_.1 13 0 26)) 130 0 (40 * m_ + (S0_.2.2.1 126 0 m_.toNat)).toNat th) 131 0 (40 * m_ + (S0_.2.2.1 126 0 m_.toNat)).toNat 0) 126 0 m_.toNat ((S0_.2.2.1 126 0 m_.toNat) + 1)) 132 0 m_.toNat (S0_.2.2.1 132 0 m_.toNat)) 133 0 m_.toNat (S0_.2.2.1 133 0 m_.toNat)) 134 0 m_.toNat ((S0_.2.2.1 134 0 m_.toNat) + (S0_.1 13 0 26))) := ai_fr_tr hFx30_ (ai_fr_aI rfl)
          refine sm_T_go 4 (c1 := (163, [some (.inr (.inr (some (13, 0)))), some (.inl m_), some (.inl so_), some (.inl th), some (.inl (40 * m_ + (S0_.2.2.1 126 0 m_.toNat)))], [.inl m_, .inr (.inr (some (135, 0))), .inl m_, .inr (.inr (some (135, 0)))], sm_aI (sm_aI (sm_aI (sm_aI (sm_aI (sm_aI (sm_aI (sm_aI (sm_aI S0_ 127 0 (40 * m_ + (S0_.2.2.1 126 0 m_.toNat)).toNat (S0_.1 13 0 25)) 128 0 (40 * m_ + (S0_.2.2.1 126 0 m_.toNat)).toNat so_) 129 0 (40 * m_ + (S0_.2.2.1 126 0 m_.toNat)).toNat (S0_.1 13 0 26)) 130 0 (40 * m_ + (S0_.2.2.1 126 0 m_.toNat)).toNat th) 131 0 (40 * m_ + (S0_.2.2.1 126 0 m_.toNat)).toNat 0) 126 0 m_.toNat ((S0_.2.2.1 126 0 m_.toNat) + 1)) 132 0 m_.toNat (S0_.2.2.1 132 0 m_.toNat)) 133 0 m_.toNat (S0_.2.2.1 133 0 m_.toNat)) 134 0 m_.toNat ((S0_.2.2.1 134 0 m_.toNat) + (S0_.1 13 0 26)))) rfl ?_
          refine sm_T_iald (n := 16) rfl rfl (by omega) (by omega) ?_
          have bx53_ : 0 ≤ S0_.2.2.1 135 0 m_.toNat ∧ S0_.2.2.1 135 0 m_.toNat ≤ 1073741823 := hI_.2 135 0 _
          refine sm_T_go 2 (c1 := (166, [some (.inr (.inr (some (13, 0)))), some (.inl m_), some (.inl so_), some (.inl th), some (.inl (40 * m_ + (S0_.2.2.1 126 0 m_.toNat)))], [.inl 5, .inl so_, .inl (S0_.2.2.1 135 0 m_.toNat), .inl m_, .inr (.inr (some (135, 0)))], sm_aI (sm_aI (sm_aI (sm_aI (sm_aI (sm_aI (sm_aI (sm_aI (sm_aI S0_ 127 0 (40 * m_ + (S0_.2.2.1 126 0 m_.toNat)).toNat (S0_.1 13 0 25)) 128 0 (40 * m_ + (S0_.2.2.1 126 0 m_.toNat)).toNat so_) 129 0 (40 * m_ + (S0_.2.2.1 126 0 m_.toNat)).toNat (S0_.1 13 0 26)) 130 0 (40 * m_ + (S0_.2.2.1 126 0 m_.toNat)).toNat th) 131 0 (40 * m_ + (S0_.2.2.1 126 0 m_.toNat)).toNat 0) 126 0 m_.toNat ((S0_.2.2.1 126 0 m_.toNat) + 1)) 132 0 m_.toNat (S0_.2.2.1 132 0 m_.toNat)) 133 0 m_.toNat (S0_.2.2.1 133 0 m_.toNat)) 134 0 m_.toNat ((S0_.2.2.1 134 0 m_.toNat) + (S0_.1 13 0 26)))) rfl ?_
          refine sm_T_br (a := 1) (z := 14) rfl (fun cx54_ => ?_) (fun cx54_ => ?_)
          · have cx54_ : so_ ≠ 5 := of_decide_eq_true cx54_
            refine sm_T_go 1 (c1 := (181, [some (.inr (.inr (some (13, 0)))), some (.inl m_), some (.inl so_), some (.inl th), some (.inl (40 * m_ + (S0_.2.2.1 126 0 m_.toNat)))], [.inl 0, .inl (S0_.2.2.1 135 0 m_.toNat), .inl m_, .inr (.inr (some (135, 0)))], sm_aI (sm_aI (sm_aI (sm_aI (sm_aI (sm_aI (sm_aI (sm_aI (sm_aI S0_ 127 0 (40 * m_ + (S0_.2.2.1 126 0 m_.toNat)).toNat (S0_.1 13 0 25)) 128 0 (40 * m_ + (S0_.2.2.1 126 0 m_.toNat)).toNat so_) 129 0 (40 * m_ + (S0_.2.2.1 126 0 m_.toNat)).toNat (S0_.1 13 0 26)) 130 0 (40 * m_ + (S0_.2.2.1 126 0 m_.toNat)).toNat th) 131 0 (40 * m_ + (S0_.2.2.1 126 0 m_.toNat)).toNat 0) 126 0 m_.toNat ((S0_.2.2.1 126 0 m_.toNat) + 1)) 132 0 m_.toNat (S0_.2.2.1 132 0 m_.toNat)) 133 0 m_.toNat (S0_.2.2.1 133 0 m_.toNat)) 134 0 m_.toNat ((S0_.2.2.1 134 0 m_.toNat) + (S0_.1 13 0 26)))) rfl ?_
            refine sm_T_bin (w := (S0_.2.2.1 135 0 m_.toNat)) rfl (bi_add (by omega) (by omega) (by omega)) ?_
            refine sm_T_iast (n := 16) rfl rfl (by omega) (by omega) ?_
            have hIx55_ : gi (sm_aI (sm_aI (sm_aI (sm_aI (sm_aI (sm_aI (sm_aI (sm_aI (sm_aI (sm_aI S0_ 127 0 (40 * m_ + (S0_.2.2.1 126 0 m_.toNat)).toNat (S0_.1 13 0 25)) 128 0 (40 * m_ + (S0_.2.2.1 126 0 m_.toNat)).toNat so_) 129 0 (40 * m_ + (S0_.2.2.1 126 0 m_.toNat)).toNat (S0_.1 13 0 26)) 130 0 (40 * m_ + (S0_.2.2.1 126 0 m_.toNat)).toNat th) 131 0 (40 * m_ + (S0_.2.2.1 126 0 m_.toNat)).toNat 0) 126 0 m_.toNat ((S0_.2.2.1 126 0 m_.toNat) + 1)) 132 0 m_.toNat (S0_.2.2.1 132 0 m_.toNat)) 133 0 m_.toNat (S0_.2.2.1 133 0 m_.toNat)) 134 0 m_.toNat ((S0_.2.2.1 134 0 m_.toNat) + (S0_.1 13 0 26))) 135 0 m_.toNat (S0_.2.2.1 135 0 m_.toNat)) := gi_aI hIx51_ (show 0 ≤ (S0_.2.2.1 135 0 m_.toNat) ∧ (S0_.2.2.1 135 0 m_.toNat) ≤ 1073741823 from ⟨by omega, by omega⟩)
            have hFx56_ : ai_fr (sx_W vw_308) S0_ (sm_aI (sm_aI (sm_aI (sm_aI (sm_aI (sm_aI (sm_aI (sm_aI (sm_aI (sm_aI S0_ 127 0 (40 * m_ + (S0_.2.2.1 126 0 m_.toNat)).toNat (S0_.1 13 0 25)) 128 0 (40 * m_ + (S0_.2.2.1 126 0 m_.toNat)).toNat so_) 129 0 (40 * m_ + (S0_.2.2.1 126 0 m_.toNat)).toNat (S0_.1 13 0 26)) 130 0 (40 * m_ + (S0_.2.2.1 126 0 m_.toNat)).toNat th) 131 0 (40 * m_ + (S0_.2.2.1 126 0 m_.toNat)).toNat 0) 126 0 m_.toNat ((S0_.2.2.1 126 0 m_.toNat) + 1)) 132 0 m_.toNat (S0_.2.2.1 132 0 m_.toNat)) 133 0 m_.toNat (S0_.2.2.1 133 0 m_.toNat)) 134 0 m_.toNat ((S0_.2.2.1 134 0 m_.toNat) + (S0_.1 13 0 26))) 135 0 m_.toNat (S0_.2.2.1 135 0 m_.toNat)) := ai_fr_tr hFx52_ (ai_fr_aI rfl)
            refine sm_T_go 0 (c1 := (183, [some (.inr (.inr (some (13, 0)))), some (.inl m_), some (.inl so_), some (.inl th), some (.inl (40 * m_ + (S0_.2.2.1 126 0 m_.toNat)))], [], sm_aI (sm_aI (sm_aI (sm_aI (sm_aI (sm_aI (sm_aI (sm_aI (sm_aI (sm_aI S0_ 127 0 (40 * m_ + (S0_.2.2.1 126 0 m_.toNat)).toNat (S0_.1 13 0 25)) 128 0 (40 * m_ + (S0_.2.2.1 126 0 m_.toNat)).toNat so_) 129 0 (40 * m_ + (S0_.2.2.1 126 0 m_.toNat)).toNat (S0_.1 13 0 26)) 130 0 (40 * m_ + (S0_.2.2.1 126 0 m_.toNat)).toNat th) 131 0 (40 * m_ + (S0_.2.2.1 126 0 m_.toNat)).toNat 0) 126 0 m_.toNat ((S0_.2.2.1 126 0 m_.toNat) + 1)) 132 0 m_.toNat (S0_.2.2.1 132 0 m_.toNat)) 133 0 m_.toNat (S0_.2.2.1 133 0 m_.toNat)) 134 0 m_.toNat ((S0_.2.2.1 134 0 m_.toNat) + (S0_.1 13 0 26))) 135 0 m_.toNat (S0_.2.2.1 135 0 m_.toNat))) rfl ?_
            refine sm_T_wk [some (.inr (.inr (some (13, 0)))), some (.inl m_), some (.inl so_), some (.inl th), none] (by exact ⟨rfl, rfl, rfl, rfl, trivial⟩) ?_
            refine (vl_308 m_ so_ th b_ n_ T_ x_ A_ M_ cs_ S0_ hI0_ hx_ hmm_ hso_ hr_ _)  (sm_aI (sm_aI (sm_aI (sm_aI (sm_aI (sm_aI (sm_aI (sm_aI (sm_aI (sm_aI S0_ 127 0 (40 * m_ + (S0_.2.2.1 126 0 m_.toNat)).toNat (S0_.1 13 0 25)) 128 0 (40 * m_ + (S0_.2.2.1 126 0 m_.toNat)).toNat so_) 129 0 (40 * m_ + (S0_.2.2.1 126 0 m_.toNat)).toNat (S0_.1 13 0 26)) 130 0 (40 * m_ + (S0_.2.2.1 126 0 m_.toNat)).toNat th) 131 0 (40 * m_ + (S0_.2.2.1 126 0 m_.toNat)).toNat 0) 126 0 m_.toNat ((S0_.2.2.1 126 0 m_.toNat) + 1)) 132 0 m_.toNat (S0_.2.2.1 132 0 m_.toNat)) 133 0 m_.toNat (S0_.2.2.1 133 0 m_.toNat)) 134 0 m_.toNat ((S0_.2.2.1 134 0 m_.toNat) + (S0_.1 13 0 26))) 135 0 m_.toNat (S0_.2.2.1 135 0 m_.toNat)) hIx55_ hFx56_ ⟨?_, ?_, ?_, ?_, ?_, ?_, ?_, ?_, ?_, ?_, ?_, trivial⟩ (Nat.lt_succ_self _)
            · exact ⟨p_, hp1_⟩
            · (intro j_); (try simp only [rd_eq, rd_ne, rf_eq, rf_nk, rf_nt, rd_fa, rd_af, rd_fl, rd_al, rd_lf, rd_la, rd_leq, rd_lne, rd_fr, rd_ar, ne_eq, Nat.reduceEqDiff, not_false_eq_true]); (try simp only [iM_]); (try simp only [mM_]); (repeat' split); all_goals omega
            · (intro j_); (try simp only [rd_eq, rd_ne, rf_eq, rf_nk, rf_nt, rd_fa, rd_af, rd_fl, rd_al, rd_lf, rd_la, rd_leq, rd_lne, rd_fr, rd_ar, ne_eq, Nat.reduceEqDiff, not_false_eq_true]); (try simp only [iM_]); (try simp only [mM_]); (repeat' split); all_goals omega
            · (intro j_); (try simp only [rd_eq, rd_ne, rf_eq, rf_nk, rf_nt, rd_fa, rd_af, rd_fl, rd_al, rd_lf, rd_la, rd_leq, rd_lne, rd_fr, rd_ar, ne_eq, Nat.reduceEqDiff, not_false_eq_true]); (try simp only [iM_]); (try simp only [mM_]); (repeat' split); all_goals omega
            · (intro j_); (try simp only [rd_eq, rd_ne, rf_eq, rf_nk, rf_nt, rd_fa, rd_af, rd_fl, rd_al, rd_lf, rd_la, rd_leq, rd_lne, rd_fr, rd_ar, ne_eq, Nat.reduceEqDiff, not_false_eq_true]); (try simp only [iM_]); (try simp only [mM_]); (repeat' split); all_goals omega
            · (intro j_); (try simp only [rd_eq, rd_ne, rf_eq, rf_nk, rf_nt, rd_fa, rd_af, rd_fl, rd_al, rd_lf, rd_la, rd_leq, rd_lne, rd_fr, rd_ar, ne_eq, Nat.reduceEqDiff, not_false_eq_true]); (try simp only [iM_]); (try simp only [mM_]); (repeat' split); all_goals omega
            · (intro j_); (try simp only [rd_eq, rd_ne, rf_eq, rf_nk, rf_nt, rd_fa, rd_af, rd_fl, rd_al, rd_lf, rd_la, rd_leq, rd_lne, rd_fr, rd_ar, ne_eq, Nat.reduceEqDiff, not_false_eq_true]); (try simp only [iM_]); (try simp only [mM_]); (repeat' split); all_goals omega
            · (intro j_); (try simp only [rd_eq, rd_ne, rf_eq, rf_nk, rf_nt, rd_fa, rd_af, rd_fl, rd_al, rd_lf, rd_la, rd_leq, rd_lne, rd_fr, rd_ar, ne_eq, Nat.reduceEqDiff, not_false_eq_true]); (try simp only [iM_]); (try simp only [mM_]); (repeat' split); all_goals omega
            · (intro j_); (try simp only [rd_eq, rd_ne, rf_eq, rf_nk, rf_nt, rd_fa, rd_af, rd_fl, rd_al, rd_lf, rd_la, rd_leq, rd_lne, rd_fr, rd_ar, ne_eq, Nat.reduceEqDiff, not_false_eq_true]); (try simp only [iM_]); (try simp only [mM_]); (repeat' split); all_goals omega
            · (intro j_); (try simp only [rd_eq, rd_ne, rf_eq, rf_nk, rf_nt, rd_fa, rd_af, rd_fl, rd_al, rd_lf, rd_la, rd_leq, rd_lne, rd_fr, rd_ar, ne_eq, Nat.reduceEqDiff, not_false_eq_true]); (try simp only [iM_]); (try simp only [mM_]); (repeat' split); all_goals omega
            · (intro j_); (try simp only [rd_eq, rd_ne, rf_eq, rf_nk, rf_nt, rd_fa, rd_af, rd_fl, rd_al, rd_lf, rd_la, rd_leq, rd_lne, rd_fr, rd_ar, ne_eq, Nat.reduceEqDiff, not_false_eq_true]); (try simp only [iM_]); (try simp only [mM_]); (repeat' split); all_goals omega
          · have cx54_ : ¬ (so_ ≠ 5) := of_decide_eq_false cx54_
            exfalso; omega
      · have cx28_ : ¬ (so_ ≠ 2) := of_decide_eq_false cx28_
        refine sm_T_go 3 (c1 := (119, [some (.inr (.inr (some (13, 0)))), some (.inl m_), some (.inl so_), some (.inl th), some (.inl (40 * m_ + (S0_.2.2.1 126 0 m_.toNat)))], [.inl (S0_.1 13 0 26), .inl (S0_.2.2.1 133 0 m_.toNat), .inl m_, .inr (.inr (some (133, 0)))], sm_aI (sm_aI (sm_aI (sm_aI (sm_aI (sm_aI (sm_aI S0_ 127 0 (40 * m_ + (S0_.2.2.1 126 0 m_.toNat)).toNat (S0_.1 13 0 25)) 128 0 (40 * m_ + (S0_.2.2.1 126 0 m_.toNat)).toNat so_) 129 0 (40 * m_ + (S0_.2.2.1 126 0 m_.toNat)).toNat (S0_.1 13 0 26)) 130 0 (40 * m_ + (S0_.2.2.1 126 0 m_.toNat)).toNat th) 131 0 (40 * m_ + (S0_.2.2.1 126 0 m_.toNat)).toNat 0) 126 0 m_.toNat ((S0_.2.2.1 126 0 m_.toNat) + 1)) 132 0 m_.toNat (S0_.2.2.1 132 0 m_.toNat))) rfl ?_
        refine sm_T_bin (w := (S0_.2.2.1 133 0 m_.toNat) + (S0_.1 13 0 26)) rfl (bi_add (by omega) (by omega) (by omega)) ?_
        refine sm_T_iast (n := 16) rfl rfl (by omega) (by omega) ?_
        have hIx57_ : gi (sm_aI (sm_aI (sm_aI (sm_aI (sm_aI (sm_aI (sm_aI (sm_aI S0_ 127 0 (40 * m_ + (S0_.2.2.1 126 0 m_.toNat)).toNat (S0_.1 13 0 25)) 128 0 (40 * m_ + (S0_.2.2.1 126 0 m_.toNat)).toNat so_) 129 0 (40 * m_ + (S0_.2.2.1 126 0 m_.toNat)).toNat (S0_.1 13 0 26)) 130 0 (40 * m_ + (S0_.2.2.1 126 0 m_.toNat)).toNat th) 131 0 (40 * m_ + (S0_.2.2.1 126 0 m_.toNat)).toNat 0) 126 0 m_.toNat ((S0_.2.2.1 126 0 m_.toNat) + 1)) 132 0 m_.toNat (S0_.2.2.1 132 0 m_.toNat)) 133 0 m_.toNat ((S0_.2.2.1 133 0 m_.toNat) + (S0_.1 13 0 26))) := gi_aI hIx25_ (show 0 ≤ (S0_.2.2.1 133 0 m_.toNat) + (S0_.1 13 0 26) ∧ (S0_.2.2.1 133 0 m_.toNat) + (S0_.1 13 0 26) ≤ 320 from ⟨by omega, by omega⟩)
        have hFx58_ : ai_fr (sx_W vw_308) S0_ (sm_aI (sm_aI (sm_aI (sm_aI (sm_aI (sm_aI (sm_aI (sm_aI S0_ 127 0 (40 * m_ + (S0_.2.2.1 126 0 m_.toNat)).toNat (S0_.1 13 0 25)) 128 0 (40 * m_ + (S0_.2.2.1 126 0 m_.toNat)).toNat so_) 129 0 (40 * m_ + (S0_.2.2.1 126 0 m_.toNat)).toNat (S0_.1 13 0 26)) 130 0 (40 * m_ + (S0_.2.2.1 126 0 m_.toNat)).toNat th) 131 0 (40 * m_ + (S0_.2.2.1 126 0 m_.toNat)).toNat 0) 126 0 m_.toNat ((S0_.2.2.1 126 0 m_.toNat) + 1)) 132 0 m_.toNat (S0_.2.2.1 132 0 m_.toNat)) 133 0 m_.toNat ((S0_.2.2.1 133 0 m_.toNat) + (S0_.1 13 0 26))) := ai_fr_tr hFx26_ (ai_fr_aI rfl)
        refine sm_T_go 4 (c1 := (127, [some (.inr (.inr (some (13, 0)))), some (.inl m_), some (.inl so_), some (.inl th), some (.inl (40 * m_ + (S0_.2.2.1 126 0 m_.toNat)))], [.inl m_, .inr (.inr (some (134, 0))), .inl m_, .inr (.inr (some (134, 0)))], sm_aI (sm_aI (sm_aI (sm_aI (sm_aI (sm_aI (sm_aI (sm_aI S0_ 127 0 (40 * m_ + (S0_.2.2.1 126 0 m_.toNat)).toNat (S0_.1 13 0 25)) 128 0 (40 * m_ + (S0_.2.2.1 126 0 m_.toNat)).toNat so_) 129 0 (40 * m_ + (S0_.2.2.1 126 0 m_.toNat)).toNat (S0_.1 13 0 26)) 130 0 (40 * m_ + (S0_.2.2.1 126 0 m_.toNat)).toNat th) 131 0 (40 * m_ + (S0_.2.2.1 126 0 m_.toNat)).toNat 0) 126 0 m_.toNat ((S0_.2.2.1 126 0 m_.toNat) + 1)) 132 0 m_.toNat (S0_.2.2.1 132 0 m_.toNat)) 133 0 m_.toNat ((S0_.2.2.1 133 0 m_.toNat) + (S0_.1 13 0 26)))) rfl ?_
        refine sm_T_iald (n := 16) rfl rfl (by omega) (by omega) ?_
        have bx59_ : 0 ≤ S0_.2.2.1 134 0 m_.toNat ∧ S0_.2.2.1 134 0 m_.toNat ≤ 1073741823 := hI_.2 134 0 _
        refine sm_T_go 2 (c1 := (130, [some (.inr (.inr (some (13, 0)))), some (.inl m_), some (.inl so_), some (.inl th), some (.inl (40 * m_ + (S0_.2.2.1 126 0 m_.toNat)))], [.inl 4, .inl so_, .inl (S0_.2.2.1 134 0 m_.toNat), .inl m_, .inr (.inr (some (134, 0)))], sm_aI (sm_aI (sm_aI (sm_aI (sm_aI (sm_aI (sm_aI (sm_aI S0_ 127 0 (40 * m_ + (S0_.2.2.1 126 0 m_.toNat)).toNat (S0_.1 13 0 25)) 128 0 (40 * m_ + (S0_.2.2.1 126 0 m_.toNat)).toNat so_) 129 0 (40 * m_ + (S0_.2.2.1 126 0 m_.toNat)).toNat (S0_.1 13 0 26)) 130 0 (40 * m_ + (S0_.2.2.1 126 0 m_.toNat)).toNat th) 131 0 (40 * m_ + (S0_.2.2.1 126 0 m_.toNat)).toNat 0) 126 0 m_.toNat ((S0_.2.2.1 126 0 m_.toNat) + 1)) 132 0 m_.toNat (S0_.2.2.1 132 0 m_.toNat)) 133 0 m_.toNat ((S0_.2.2.1 133 0 m_.toNat) + (S0_.1 13 0 26)))) rfl ?_
        refine sm_T_br (a := 1) (z := 10) rfl (fun cx60_ => ?_) (fun cx60_ => ?_)
        · have cx60_ : so_ ≠ 4 := of_decide_eq_true cx60_
          refine sm_T_go 2 (c1 := (142, [some (.inr (.inr (some (13, 0)))), some (.inl m_), some (.inl so_), some (.inl th), some (.inl (40 * m_ + (S0_.2.2.1 126 0 m_.toNat)))], [.inl 5, .inl so_, .inl (S0_.2.2.1 134 0 m_.toNat), .inl m_, .inr (.inr (some (134, 0)))], sm_aI (sm_aI (sm_aI (sm_aI (sm_aI (sm_aI (sm_aI (sm_aI S0_ 127 0 (40 * m_ + (S0_.2.2.1 126 0 m_.toNat)).toNat (S0_.1 13 0 25)) 128 0 (40 * m_ + (S0_.2.2.1 126 0 m_.toNat)).toNat so_) 129 0 (40 * m_ + (S0_.2.2.1 126 0 m_.toNat)).toNat (S0_.1 13 0 26)) 130 0 (40 * m_ + (S0_.2.2.1 126 0 m_.toNat)).toNat th) 131 0 (40 * m_ + (S0_.2.2.1 126 0 m_.toNat)).toNat 0) 126 0 m_.toNat ((S0_.2.2.1 126 0 m_.toNat) + 1)) 132 0 m_.toNat (S0_.2.2.1 132 0 m_.toNat)) 133 0 m_.toNat ((S0_.2.2.1 133 0 m_.toNat) + (S0_.1 13 0 26)))) rfl ?_
          refine sm_T_br (a := 1) (z := 12) rfl (fun cx61_ => ?_) (fun cx61_ => ?_)
          · have cx61_ : so_ ≠ 5 := of_decide_eq_true cx61_
            refine sm_T_go 1 (c1 := (155, [some (.inr (.inr (some (13, 0)))), some (.inl m_), some (.inl so_), some (.inl th), some (.inl (40 * m_ + (S0_.2.2.1 126 0 m_.toNat)))], [.inl 0, .inl (S0_.2.2.1 134 0 m_.toNat), .inl m_, .inr (.inr (some (134, 0)))], sm_aI (sm_aI (sm_aI (sm_aI (sm_aI (sm_aI (sm_aI (sm_aI S0_ 127 0 (40 * m_ + (S0_.2.2.1 126 0 m_.toNat)).toNat (S0_.1 13 0 25)) 128 0 (40 * m_ + (S0_.2.2.1 126 0 m_.toNat)).toNat so_) 129 0 (40 * m_ + (S0_.2.2.1 126 0 m_.toNat)).toNat (S0_.1 13 0 26)) 130 0 (40 * m_ + (S0_.2.2.1 126 0 m_.toNat)).toNat th) 131 0 (40 * m_ + (S0_.2.2.1 126 0 m_.toNat)).toNat 0) 126 0 m_.toNat ((S0_.2.2.1 126 0 m_.toNat) + 1)) 132 0 m_.toNat (S0_.2.2.1 132 0 m_.toNat)) 133 0 m_.toNat ((S0_.2.2.1 133 0 m_.toNat) + (S0_.1 13 0 26)))) rfl ?_
            refine sm_T_bin (w := (S0_.2.2.1 134 0 m_.toNat)) rfl (bi_add (by omega) (by omega) (by omega)) ?_
            refine sm_T_iast (n := 16) rfl rfl (by omega) (by omega) ?_
            have hIx62_ : gi (sm_aI (sm_aI (sm_aI (sm_aI (sm_aI (sm_aI (sm_aI (sm_aI (sm_aI S0_ 127 0 (40 * m_ + (S0_.2.2.1 126 0 m_.toNat)).toNat (S0_.1 13 0 25)) 128 0 (40 * m_ + (S0_.2.2.1 126 0 m_.toNat)).toNat so_) 129 0 (40 * m_ + (S0_.2.2.1 126 0 m_.toNat)).toNat (S0_.1 13 0 26)) 130 0 (40 * m_ + (S0_.2.2.1 126 0 m_.toNat)).toNat th) 131 0 (40 * m_ + (S0_.2.2.1 126 0 m_.toNat)).toNat 0) 126 0 m_.toNat ((S0_.2.2.1 126 0 m_.toNat) + 1)) 132 0 m_.toNat (S0_.2.2.1 132 0 m_.toNat)) 133 0 m_.toNat ((S0_.2.2.1 133 0 m_.toNat) + (S0_.1 13 0 26))) 134 0 m_.toNat (S0_.2.2.1 134 0 m_.toNat)) := gi_aI hIx57_ (show 0 ≤ (S0_.2.2.1 134 0 m_.toNat) ∧ (S0_.2.2.1 134 0 m_.toNat) ≤ 1073741823 from ⟨by omega, by omega⟩)
            have hFx63_ : ai_fr (sx_W vw_308) S0_ (sm_aI (sm_aI (sm_aI (sm_aI (sm_aI (sm_aI (sm_aI (sm_aI (sm_aI S0_ 127 0 (40 * m_ + (S0_.2.2.1 126 0 m_.toNat)).toNat (S0_.1 13 0 25)) 128 0 (40 * m_ + (S0_.2.2.1 126 0 m_.toNat)).toNat so_) 129 0 (40 * m_ + (S0_.2.2.1 126 0 m_.toNat)).toNat (S0_.1 13 0 26)) 130 0 (40 * m_ + (S0_.2.2.1 126 0 m_.toNat)).toNat th) 131 0 (40 * m_ + (S0_.2.2.1 126 0 m_.toNat)).toNat 0) 126 0 m_.toNat ((S0_.2.2.1 126 0 m_.toNat) + 1)) 132 0 m_.toNat (S0_.2.2.1 132 0 m_.toNat)) 133 0 m_.toNat ((S0_.2.2.1 133 0 m_.toNat) + (S0_.1 13 0 26))) 134 0 m_.toNat (S0_.2.2.1 134 0 m_.toNat)) := ai_fr_tr hFx58_ (ai_fr_aI rfl)
            refine sm_T_go 4 (c1 := (163, [some (.inr (.inr (some (13, 0)))), some (.inl m_), some (.inl so_), some (.inl th), some (.inl (40 * m_ + (S0_.2.2.1 126 0 m_.toNat)))], [.inl m_, .inr (.inr (some (135, 0))), .inl m_, .inr (.inr (some (135, 0)))], sm_aI (sm_aI (sm_aI (sm_aI (sm_aI (sm_aI (sm_aI (sm_aI (sm_aI S0_ 127 0 (40 * m_ + (S0_.2.2.1 126 0 m_.toNat)).toNat (S0_.1 13 0 25)) 128 0 (40 * m_ + (S0_.2.2.1 126 0 m_.toNat)).toNat so_) 129 0 (40 * m_ + (S0_.2.2.1 126 0 m_.toNat)).toNat (S0_.1 13 0 26)) 130 0 (40 * m_ + (S0_.2.2.1 126 0 m_.toNat)).toNat th) 131 0 (40 * m_ + (S0_.2.2.1 126 0 m_.toNat)).toNat 0) 126 0 m_.toNat ((S0_.2.2.1 126 0 m_.toNat) + 1)) 132 0 m_.toNat (S0_.2.2.1 132 0 m_.toNat)) 133 0 m_.toNat ((S0_.2.2.1 133 0 m_.toNat) + (S0_.1 13 0 26))) 134 0 m_.toNat (S0_.2.2.1 134 0 m_.toNat))) rfl ?_
            refine sm_T_iald (n := 16) rfl rfl (by omega) (by omega) ?_
            have bx64_ : 0 ≤ S0_.2.2.1 135 0 m_.toNat ∧ S0_.2.2.1 135 0 m_.toNat ≤ 1073741823 := hI_.2 135 0 _
            refine sm_T_go 2 (c1 := (166, [some (.inr (.inr (some (13, 0)))), some (.inl m_), some (.inl so_), some (.inl th), some (.inl (40 * m_ + (S0_.2.2.1 126 0 m_.toNat)))], [.inl 5, .inl so_, .inl (S0_.2.2.1 135 0 m_.toNat), .inl m_, .inr (.inr (some (135, 0)))], sm_aI (sm_aI (sm_aI (sm_aI (sm_aI (sm_aI (sm_aI (sm_aI (sm_aI S0_ 127 0 (40 * m_ + (S0_.2.2.1 126 0 m_.toNat)).toNat (S0_.1 13 0 25)) 128 0 (40 * m_ + (S0_.2.2.1 126 0 m_.toNat)).toNat so_) 129 0 (40 * m_ + (S0_.2.2.1 126 0 m_.toNat)).toNat (S0_.1 13 0 26)) 130 0 (40 * m_ + (S0_.2.2.1 126 0 m_.toNat)).toNat th) 131 0 (40 * m_ + (S0_.2.2.1 126 0 m_.toNat)).toNat 0) 126 0 m_.toNat ((S0_.2.2.1 126 0 m_.toNat) + 1)) 132 0 m_.toNat (S0_.2.2.1 132 0 m_.toNat)) 133 0 m_.toNat ((S0_.2.2.1 133 0 m_.toNat) + (S0_.1 13 0 26))) 134 0 m_.toNat (S0_.2.2.1 134 0 m_.toNat))) rfl ?_
            refine sm_T_br (a := 1) (z := 14) rfl (fun cx65_ => ?_) (fun cx65_ => ?_)
            · have cx65_ : so_ ≠ 5 := of_decide_eq_true cx65_
              refine sm_T_go 1 (c1 := (181, [some (.inr (.inr (some (13, 0)))), some (.inl m_), some (.inl so_), some (.inl th), some (.inl (40 * m_ + (S0_.2.2.1 126 0 m_.toNat)))], [.inl 0, .inl (S0_.2.2.1 135 0 m_.toNat), .inl m_, .inr (.inr (some (135, 0)))], sm_aI (sm_aI (sm_aI (sm_aI (sm_aI (sm_aI (sm_aI (sm_aI (sm_aI S0_ 127 0 (40 * m_ + (S0_.2.2.1 126 0 m_.toNat)).toNat (S0_.1 13 0 25)) 128 0 (40 * m_ + (S0_.2.2.1 126 0 m_.toNat)).toNat so_) 129 0 (40 * m_ + (S0_.2.2.1 126 0 m_.toNat)).toNat (S0_.1 13 0 26)) 130 0 (40 * m_ + (S0_.2.2.1 126 0 m_.toNat)).toNat th) 131 0 (40 * m_ + (S0_.2.2.1 126 0 m_.toNat)).toNat 0) 126 0 m_.toNat ((S0_.2.2.1 126 0 m_.toNat) + 1)) 132 0 m_.toNat (S0_.2.2.1 132 0 m_.toNat)) 133 0 m_.toNat ((S0_.2.2.1 133 0 m_.toNat) + (S0_.1 13 0 26))) 134 0 m_.toNat (S0_.2.2.1 134 0 m_.toNat))) rfl ?_
              refine sm_T_bin (w := (S0_.2.2.1 135 0 m_.toNat)) rfl (bi_add (by omega) (by omega) (by omega)) ?_
              refine sm_T_iast (n := 16) rfl rfl (by omega) (by omega) ?_
              have hIx66_ : gi (sm_aI (sm_aI (sm_aI (sm_aI (sm_aI (sm_aI (sm_aI (sm_aI (sm_aI (sm_aI S0_ 127 0 (40 * m_ + (S0_.2.2.1 126 0 m_.toNat)).toNat (S0_.1 13 0 25)) 128 0 (40 * m_ + (S0_.2.2.1 126 0 m_.toNat)).toNat so_) 129 0 (40 * m_ + (S0_.2.2.1 126 0 m_.toNat)).toNat (S0_.1 13 0 26)) 130 0 (40 * m_ + (S0_.2.2.1 126 0 m_.toNat)).toNat th) 131 0 (40 * m_ + (S0_.2.2.1 126 0 m_.toNat)).toNat 0) 126 0 m_.toNat ((S0_.2.2.1 126 0 m_.toNat) + 1)) 132 0 m_.toNat (S0_.2.2.1 132 0 m_.toNat)) 133 0 m_.toNat ((S0_.2.2.1 133 0 m_.toNat) + (S0_.1 13 0 26))) 134 0 m_.toNat (S0_.2.2.1 134 0 m_.toNat)) 135 0 m_.toNat (S0_.2.2.1 135 0 m_.toNat)) := gi_aI hIx62_ (show 0 ≤ (S0_.2.2.1 135 0 m_.toNat) ∧ (S0_.2.2.1 135 0 m_.toNat) ≤ 1073741823 from ⟨by omega, by omega⟩)
              have hFx67_ : ai_fr (sx_W vw_308) S0_ (sm_aI (sm_aI (sm_aI (sm_aI (sm_aI (sm_aI (sm_aI (sm_aI (sm_aI (sm_aI S0_ 127 0 (40 * m_ + (S0_.2.2.1 126 0 m_.toNat)).toNat (S0_.1 13 0 25)) 128 0 (40 * m_ + (S0_.2.2.1 126 0 m_.toNat)).toNat so_) 129 0 (40 * m_ + (S0_.2.2.1 126 0 m_.toNat)).toNat (S0_.1 13 0 26)) 130 0 (40 * m_ + (S0_.2.2.1 126 0 m_.toNat)).toNat th) 131 0 (40 * m_ + (S0_.2.2.1 126 0 m_.toNat)).toNat 0) 126 0 m_.toNat ((S0_.2.2.1 126 0 m_.toNat) + 1)) 132 0 m_.toNat (S0_.2.2.1 132 0 m_.toNat)) 133 0 m_.toNat ((S0_.2.2.1 133 0 m_.toNat) + (S0_.1 13 0 26))) 134 0 m_.toNat (S0_.2.2.1 134 0 m_.toNat)) 135 0 m_.toNat (S0_.2.2.1 135 0 m_.toNat)) := ai_fr_tr hFx63_ (ai_fr_aI rfl)
              refine sm_T_go 0 (c1 := (183, [some (.inr (.inr (some (13, 0)))), some (.inl m_), some (.inl so_), some (.inl th), some (.inl (40 * m_ + (S0_.2.2.1 126 0 m_.toNat)))], [], sm_aI (sm_aI (sm_aI (sm_aI (sm_aI (sm_aI (sm_aI (sm_aI (sm_aI (sm_aI S0_ 127 0 (40 * m_ + (S0_.2.2.1 126 0 m_.toNat)).toNat (S0_.1 13 0 25)) 128 0 (40 * m_ + (S0_.2.2.1 126 0 m_.toNat)).toNat so_) 129 0 (40 * m_ + (S0_.2.2.1 126 0 m_.toNat)).toNat (S0_.1 13 0 26)) 130 0 (40 * m_ + (S0_.2.2.1 126 0 m_.toNat)).toNat th) 131 0 (40 * m_ + (S0_.2.2.1 126 0 m_.toNat)).toNat 0) 126 0 m_.toNat ((S0_.2.2.1 126 0 m_.toNat) + 1)) 132 0 m_.toNat (S0_.2.2.1 132 0 m_.toNat)) 133 0 m_.toNat ((S0_.2.2.1 133 0 m_.toNat) + (S0_.1 13 0 26))) 134 0 m_.toNat (S0_.2.2.1 134 0 m_.toNat)) 135 0 m_.toNat (S0_.2.2.1 135 0 m_.toNat))) rfl ?_
              refine sm_T_wk [some (.inr (.inr (some (13, 0)))), some (.inl m_), some (.inl so_), some (.inl th), none] (by exact ⟨rfl, rfl, rfl, rfl, trivial⟩) ?_
              refine (vl_308 m_ so_ th b_ n_ T_ x_ A_ M_ cs_ S0_ hI0_ hx_ hmm_ hso_ hr_ _)  (sm_aI (sm_aI (sm_aI (sm_aI (sm_aI (sm_aI (sm_aI (sm_aI (sm_aI (sm_aI S0_ 127 0 (40 * m_ + (S0_.2.2.1 126 0 m_.toNat)).toNat (S0_.1 13 0 25)) 128 0 (40 * m_ + (S0_.2.2.1 126 0 m_.toNat)).toNat so_) 129 0 (40 * m_ + (S0_.2.2.1 126 0 m_.toNat)).toNat (S0_.1 13 0 26)) 130 0 (40 * m_ + (S0_.2.2.1 126 0 m_.toNat)).toNat th) 131 0 (40 * m_ + (S0_.2.2.1 126 0 m_.toNat)).toNat 0) 126 0 m_.toNat ((S0_.2.2.1 126 0 m_.toNat) + 1)) 132 0 m_.toNat (S0_.2.2.1 132 0 m_.toNat)) 133 0 m_.toNat ((S0_.2.2.1 133 0 m_.toNat) + (S0_.1 13 0 26))) 134 0 m_.toNat (S0_.2.2.1 134 0 m_.toNat)) 135 0 m_.toNat (S0_.2.2.1 135 0 m_.toNat)) hIx66_ hFx67_ ⟨?_, ?_, ?_, ?_, ?_, ?_, ?_, ?_, ?_, ?_, ?_, trivial⟩ (Nat.lt_succ_self _)
              · exact ⟨p_, hp1_⟩
              · (intro j_); (try simp only [rd_eq, rd_ne, rf_eq, rf_nk, rf_nt, rd_fa, rd_af, rd_fl, rd_al, rd_lf, rd_la, rd_leq, rd_lne, rd_fr, rd_ar, ne_eq, Nat.reduceEqDiff, not_false_eq_true]); (try simp only [iM_]); (try simp only [mM_]); (repeat' split); all_goals omega
              · (intro j_); (try simp only [rd_eq, rd_ne, rf_eq, rf_nk, rf_nt, rd_fa, rd_af, rd_fl, rd_al, rd_lf, rd_la, rd_leq, rd_lne, rd_fr, rd_ar, ne_eq, Nat.reduceEqDiff, not_false_eq_true]); (try simp only [iM_]); (try simp only [mM_]); (repeat' split); all_goals omega
              · (intro j_); (try simp only [rd_eq, rd_ne, rf_eq, rf_nk, rf_nt, rd_fa, rd_af, rd_fl, rd_al, rd_lf, rd_la, rd_leq, rd_lne, rd_fr, rd_ar, ne_eq, Nat.reduceEqDiff, not_false_eq_true]); (try simp only [iM_]); (try simp only [mM_]); (repeat' split); all_goals omega
              · (intro j_); (try simp only [rd_eq, rd_ne, rf_eq, rf_nk, rf_nt, rd_fa, rd_af, rd_fl, rd_al, rd_lf, rd_la, rd_leq, rd_lne, rd_fr, rd_ar, ne_eq, Nat.reduceEqDiff, not_false_eq_true]); (try simp only [iM_]); (try simp only [mM_]); (repeat' split); all_goals omega
              · (intro j_); (try simp only [rd_eq, rd_ne, rf_eq, rf_nk, rf_nt, rd_fa, rd_af, rd_fl, rd_al, rd_lf, rd_la, rd_leq, rd_lne, rd_fr, rd_ar, ne_eq, Nat.reduceEqDiff, not_false_eq_true]); (try simp only [iM_]); (try simp only [mM_]); (repeat' split); all_goals omega
              · (intro j_); (try simp only [rd_eq, rd_ne, rf_eq, rf_nk, rf_nt, rd_fa, rd_af, rd_fl, rd_al, rd_lf, rd_la, rd_leq, rd_lne, rd_fr, rd_ar, ne_eq, Nat.reduceEqDiff, not_false_eq_true]); (try simp only [iM_]); (try simp only [mM_]); (repeat' split); all_goals omega
              · (intro j_); (try simp only [rd_eq, rd_ne, rf_eq, rf_nk, rf_nt, rd_fa, rd_af, rd_fl, rd_al, rd_lf, rd_la, rd_leq, rd_lne, rd_fr, rd_ar, ne_eq, Nat.reduceEqDiff, not_false_eq_true]); (try simp only [iM_]); (try simp only [mM_]); (repeat' split); all_goals omega
              · (intro j_); (try simp only [rd_eq, rd_ne, rf_eq, rf_nk, rf_nt, rd_fa, rd_af, rd_fl, rd_al, rd_lf, rd_la, rd_leq, rd_lne, rd_fr, rd_ar, ne_eq, Nat.reduceEqDiff, not_false_eq_true]); (try simp only [iM_]); (try simp only [mM_]); (repeat' split); all_goals omega
              · (intro j_); (try simp only [rd_eq, rd_ne, rf_eq, rf_nk, rf_nt, rd_fa, rd_af, rd_fl, rd_al, rd_lf, rd_la, rd_leq, rd_lne, rd_fr, rd_ar, ne_eq, Nat.reduceEqDiff, not_false_eq_true]); (try simp only [iM_]); (try simp only [mM_]); (repeat' split); all_goals omega
              · (intro j_); (try simp only [rd_eq, rd_ne, rf_eq, rf_nk, rf_nt, rd_fa, rd_af, rd_fl, rd_al, rd_lf, rd_la, rd_leq, rd_lne, rd_fr, rd_ar, ne_eq, Nat.reduceEqDiff, not_false_eq_true]); (try simp only [iM_]); (try simp only [mM_]); (repeat' split); all_goals omega
            · have cx65_ : ¬ (so_ ≠ 5) := of_decide_eq_false cx65_
              exfalso; omega
          · have cx61_ : ¬ (so_ ≠ 5) := of_decide_eq_false cx61_
            exfalso; omega
        · have cx60_ : ¬ (so_ ≠ 4) := of_decide_eq_false cx60_
          exfalso; omega
    · have cx24_ : ¬ (so_ ≠ 1) := of_decide_eq_false cx24_
      refine sm_T_go 3 (c1 := (97, [some (.inr (.inr (some (13, 0)))), some (.inl m_), some (.inl so_), some (.inl th), some (.inl (40 * m_ + (S0_.2.2.1 126 0 m_.toNat)))], [.inl (S0_.1 13 0 26), .inl (S0_.2.2.1 132 0 m_.toNat), .inl m_, .inr (.inr (some (132, 0)))], sm_aI (sm_aI (sm_aI (sm_aI (sm_aI (sm_aI S0_ 127 0 (40 * m_ + (S0_.2.2.1 126 0 m_.toNat)).toNat (S0_.1 13 0 25)) 128 0 (40 * m_ + (S0_.2.2.1 126 0 m_.toNat)).toNat so_) 129 0 (40 * m_ + (S0_.2.2.1 126 0 m_.toNat)).toNat (S0_.1 13 0 26)) 130 0 (40 * m_ + (S0_.2.2.1 126 0 m_.toNat)).toNat th) 131 0 (40 * m_ + (S0_.2.2.1 126 0 m_.toNat)).toNat 0) 126 0 m_.toNat ((S0_.2.2.1 126 0 m_.toNat) + 1))) rfl ?_
      refine sm_T_bin (w := (S0_.2.2.1 132 0 m_.toNat) + (S0_.1 13 0 26)) rfl (bi_add (by omega) (by omega) (by omega)) ?_
      refine sm_T_iast (n := 16) rfl rfl (by omega) (by omega) ?_
      have hIx68_ : gi (sm_aI (sm_aI (sm_aI (sm_aI (sm_aI (sm_aI (sm_aI S0_ 127 0 (40 * m_ + (S0_.2.2.1 126 0 m_.toNat)).toNat (S0_.1 13 0 25)) 128 0 (40 * m_ + (S0_.2.2.1 126 0 m_.toNat)).toNat so_) 129 0 (40 * m_ + (S0_.2.2.1 126 0 m_.toNat)).toNat (S0_.1 13 0 26)) 130 0 (40 * m_ + (S0_.2.2.1 126 0 m_.toNat)).toNat th) 131 0 (40 * m_ + (S0_.2.2.1 126 0 m_.toNat)).toNat 0) 126 0 m_.toNat ((S0_.2.2.1 126 0 m_.toNat) + 1)) 132 0 m_.toNat ((S0_.2.2.1 132 0 m_.toNat) + (S0_.1 13 0 26))) := gi_aI hIx21_ (show 0 ≤ (S0_.2.2.1 132 0 m_.toNat) + (S0_.1 13 0 26) ∧ (S0_.2.2.1 132 0 m_.toNat) + (S0_.1 13 0 26) ≤ 320 from ⟨by omega, by omega⟩)
      have hFx69_ : ai_fr (sx_W vw_308) S0_ (sm_aI (sm_aI (sm_aI (sm_aI (sm_aI (sm_aI (sm_aI S0_ 127 0 (40 * m_ + (S0_.2.2.1 126 0 m_.toNat)).toNat (S0_.1 13 0 25)) 128 0 (40 * m_ + (S0_.2.2.1 126 0 m_.toNat)).toNat so_) 129 0 (40 * m_ + (S0_.2.2.1 126 0 m_.toNat)).toNat (S0_.1 13 0 26)) 130 0 (40 * m_ + (S0_.2.2.1 126 0 m_.toNat)).toNat th) 131 0 (40 * m_ + (S0_.2.2.1 126 0 m_.toNat)).toNat 0) 126 0 m_.toNat ((S0_.2.2.1 126 0 m_.toNat) + 1)) 132 0 m_.toNat ((S0_.2.2.1 132 0 m_.toNat) + (S0_.1 13 0 26))) := ai_fr_tr hFx22_ (ai_fr_aI rfl)
      refine sm_T_go 4 (c1 := (105, [some (.inr (.inr (some (13, 0)))), some (.inl m_), some (.inl so_), some (.inl th), some (.inl (40 * m_ + (S0_.2.2.1 126 0 m_.toNat)))], [.inl m_, .inr (.inr (some (133, 0))), .inl m_, .inr (.inr (some (133, 0)))], sm_aI (sm_aI (sm_aI (sm_aI (sm_aI (sm_aI (sm_aI S0_ 127 0 (40 * m_ + (S0_.2.2.1 126 0 m_.toNat)).toNat (S0_.1 13 0 25)) 128 0 (40 * m_ + (S0_.2.2.1 126 0 m_.toNat)).toNat so_) 129 0 (40 * m_ + (S0_.2.2.1 126 0 m_.toNat)).toNat (S0_.1 13 0 26)) 130 0 (40 * m_ + (S0_.2.2.1 126 0 m_.toNat)).toNat th) 131 0 (40 * m_ + (S0_.2.2.1 126 0 m_.toNat)).toNat 0) 126 0 m_.toNat ((S0_.2.2.1 126 0 m_.toNat) + 1)) 132 0 m_.toNat ((S0_.2.2.1 132 0 m_.toNat) + (S0_.1 13 0 26)))) rfl ?_
      refine sm_T_iald (n := 16) rfl rfl (by omega) (by omega) ?_
      have bx70_ : 0 ≤ S0_.2.2.1 133 0 m_.toNat ∧ S0_.2.2.1 133 0 m_.toNat ≤ 320 := hI_.2 133 0 _
      refine sm_T_go 2 (c1 := (108, [some (.inr (.inr (some (13, 0)))), some (.inl m_), some (.inl so_), some (.inl th), some (.inl (40 * m_ + (S0_.2.2.1 126 0 m_.toNat)))], [.inl 2, .inl so_, .inl (S0_.2.2.1 133 0 m_.toNat), .inl m_, .inr (.inr (some (133, 0)))], sm_aI (sm_aI (sm_aI (sm_aI (sm_aI (sm_aI (sm_aI S0_ 127 0 (40 * m_ + (S0_.2.2.1 126 0 m_.toNat)).toNat (S0_.1 13 0 25)) 128 0 (40 * m_ + (S0_.2.2.1 126 0 m_.toNat)).toNat so_) 129 0 (40 * m_ + (S0_.2.2.1 126 0 m_.toNat)).toNat (S0_.1 13 0 26)) 130 0 (40 * m_ + (S0_.2.2.1 126 0 m_.toNat)).toNat th) 131 0 (40 * m_ + (S0_.2.2.1 126 0 m_.toNat)).toNat 0) 126 0 m_.toNat ((S0_.2.2.1 126 0 m_.toNat) + 1)) 132 0 m_.toNat ((S0_.2.2.1 132 0 m_.toNat) + (S0_.1 13 0 26)))) rfl ?_
      refine sm_T_br (a := 1) (z := 10) rfl (fun cx71_ => ?_) (fun cx71_ => ?_)
      · have cx71_ : so_ ≠ 2 := of_decide_eq_true cx71_
        refine sm_T_go 1 (c1 := (119, [some (.inr (.inr (some (13, 0)))), some (.inl m_), some (.inl so_), some (.inl th), some (.inl (40 * m_ + (S0_.2.2.1 126 0 m_.toNat)))], [.inl 0, .inl (S0_.2.2.1 133 0 m_.toNat), .inl m_, .inr (.inr (some (133, 0)))], sm_aI (sm_aI (sm_aI (sm_aI (sm_aI (sm_aI (sm_aI S0_ 127 0 (40 * m_ + (S0_.2.2.1 126 0 m_.toNat)).toNat (S0_.1 13 0 25)) 128 0 (40 * m_ + (S0_.2.2.1 126 0 m_.toNat)).toNat so_) 129 0 (40 * m_ + (S0_.2.2.1 126 0 m_.toNat)).toNat (S0_.1 13 0 26)) 130 0 (40 * m_ + (S0_.2.2.1 126 0 m_.toNat)).toNat th) 131 0 (40 * m_ + (S0_.2.2.1 126 0 m_.toNat)).toNat 0) 126 0 m_.toNat ((S0_.2.2.1 126 0 m_.toNat) + 1)) 132 0 m_.toNat ((S0_.2.2.1 132 0 m_.toNat) + (S0_.1 13 0 26)))) rfl ?_
        refine sm_T_bin (w := (S0_.2.2.1 133 0 m_.toNat)) rfl (bi_add (by omega) (by omega) (by omega)) ?_
        refine sm_T_iast (n := 16) rfl rfl (by omega) (by omega) ?_
        have hIx72_ : gi (sm_aI (sm_aI (sm_aI (sm_aI (sm_aI (sm_aI (sm_aI (sm_aI S0_ 127 0 (40 * m_ + (S0_.2.2.1 126 0 m_.toNat)).toNat (S0_.1 13 0 25)) 128 0 (40 * m_ + (S0_.2.2.1 126 0 m_.toNat)).toNat so_) 129 0 (40 * m_ + (S0_.2.2.1 126 0 m_.toNat)).toNat (S0_.1 13 0 26)) 130 0 (40 * m_ + (S0_.2.2.1 126 0 m_.toNat)).toNat th) 131 0 (40 * m_ + (S0_.2.2.1 126 0 m_.toNat)).toNat 0) 126 0 m_.toNat ((S0_.2.2.1 126 0 m_.toNat) + 1)) 132 0 m_.toNat ((S0_.2.2.1 132 0 m_.toNat) + (S0_.1 13 0 26))) 133 0 m_.toNat (S0_.2.2.1 133 0 m_.toNat)) := gi_aI hIx68_ (show 0 ≤ (S0_.2.2.1 133 0 m_.toNat) ∧ (S0_.2.2.1 133 0 m_.toNat) ≤ 320 from ⟨by omega, by omega⟩)
        have hFx73_ : ai_fr (sx_W vw_308) S0_ (sm_aI (sm_aI (sm_aI (sm_aI (sm_aI (sm_aI (sm_aI (sm_aI S0_ 127 0 (40 * m_ + (S0_.2.2.1 126 0 m_.toNat)).toNat (S0_.1 13 0 25)) 128 0 (40 * m_ + (S0_.2.2.1 126 0 m_.toNat)).toNat so_) 129 0 (40 * m_ + (S0_.2.2.1 126 0 m_.toNat)).toNat (S0_.1 13 0 26)) 130 0 (40 * m_ + (S0_.2.2.1 126 0 m_.toNat)).toNat th) 131 0 (40 * m_ + (S0_.2.2.1 126 0 m_.toNat)).toNat 0) 126 0 m_.toNat ((S0_.2.2.1 126 0 m_.toNat) + 1)) 132 0 m_.toNat ((S0_.2.2.1 132 0 m_.toNat) + (S0_.1 13 0 26))) 133 0 m_.toNat (S0_.2.2.1 133 0 m_.toNat)) := ai_fr_tr hFx69_ (ai_fr_aI rfl)
        refine sm_T_go 4 (c1 := (127, [some (.inr (.inr (some (13, 0)))), some (.inl m_), some (.inl so_), some (.inl th), some (.inl (40 * m_ + (S0_.2.2.1 126 0 m_.toNat)))], [.inl m_, .inr (.inr (some (134, 0))), .inl m_, .inr (.inr (some (134, 0)))], sm_aI (sm_aI (sm_aI (sm_aI (sm_aI (sm_aI (sm_aI (sm_aI S0_ 127 0 (40 * m_ + (S0_.2.2.1 126 0 m_.toNat)).toNat (S0_.1 13 0 25)) 128 0 (40 * m_ + (S0_.2.2.1 126 0 m_.toNat)).toNat so_) 129 0 (40 * m_ + (S0_.2.2.1 126 0 m_.toNat)).toNat (S0_.1 13 0 26)) 130 0 (40 * m_ + (S0_.2.2.1 126 0 m_.toNat)).toNat th) 131 0 (40 * m_ + (S0_.2.2.1 126 0 m_.toNat)).toNat 0) 126 0 m_.toNat ((S0_.2.2.1 126 0 m_.toNat) + 1)) 132 0 m_.toNat ((S0_.2.2.1 132 0 m_.toNat) + (S0_.1 13 0 26))) 133 0 m_.toNat (S0_.2.2.1 133 0 m_.toNat))) rfl ?_
        refine sm_T_iald (n := 16) rfl rfl (by omega) (by omega) ?_
        have bx74_ : 0 ≤ S0_.2.2.1 134 0 m_.toNat ∧ S0_.2.2.1 134 0 m_.toNat ≤ 1073741823 := hI_.2 134 0 _
        refine sm_T_go 2 (c1 := (130, [some (.inr (.inr (some (13, 0)))), some (.inl m_), some (.inl so_), some (.inl th), some (.inl (40 * m_ + (S0_.2.2.1 126 0 m_.toNat)))], [.inl 4, .inl so_, .inl (S0_.2.2.1 134 0 m_.toNat), .inl m_, .inr (.inr (some (134, 0)))], sm_aI (sm_aI (sm_aI (sm_aI (sm_aI (sm_aI (sm_aI (sm_aI S0_ 127 0 (40 * m_ + (S0_.2.2.1 126 0 m_.toNat)).toNat (S0_.1 13 0 25)) 128 0 (40 * m_ + (S0_.2.2.1 126 0 m_.toNat)).toNat so_) 129 0 (40 * m_ + (S0_.2.2.1 126 0 m_.toNat)).toNat (S0_.1 13 0 26)) 130 0 (40 * m_ + (S0_.2.2.1 126 0 m_.toNat)).toNat th) 131 0 (40 * m_ + (S0_.2.2.1 126 0 m_.toNat)).toNat 0) 126 0 m_.toNat ((S0_.2.2.1 126 0 m_.toNat) + 1)) 132 0 m_.toNat ((S0_.2.2.1 132 0 m_.toNat) + (S0_.1 13 0 26))) 133 0 m_.toNat (S0_.2.2.1 133 0 m_.toNat))) rfl ?_
        refine sm_T_br (a := 1) (z := 10) rfl (fun cx75_ => ?_) (fun cx75_ => ?_)
        · have cx75_ : so_ ≠ 4 := of_decide_eq_true cx75_
          refine sm_T_go 2 (c1 := (142, [some (.inr (.inr (some (13, 0)))), some (.inl m_), some (.inl so_), some (.inl th), some (.inl (40 * m_ + (S0_.2.2.1 126 0 m_.toNat)))], [.inl 5, .inl so_, .inl (S0_.2.2.1 134 0 m_.toNat), .inl m_, .inr (.inr (some (134, 0)))], sm_aI (sm_aI (sm_aI (sm_aI (sm_aI (sm_aI (sm_aI (sm_aI S0_ 127 0 (40 * m_ + (S0_.2.2.1 126 0 m_.toNat)).toNat (S0_.1 13 0 25)) 128 0 (40 * m_ + (S0_.2.2.1 126 0 m_.toNat)).toNat so_) 129 0 (40 * m_ + (S0_.2.2.1 126 0 m_.toNat)).toNat (S0_.1 13 0 26)) 130 0 (40 * m_ + (S0_.2.2.1 126 0 m_.toNat)).toNat th) 131 0 (40 * m_ + (S0_.2.2.1 126 0 m_.toNat)).toNat 0) 126 0 m_.toNat ((S0_.2.2.1 126 0 m_.toNat) + 1)) 132 0 m_.toNat ((S0_.2.2.1 132 0 m_.toNat) + (S0_.1 13 0 26))) 133 0 m_.toNat (S0_.2.2.1 133 0 m_.toNat))) rfl ?_
          refine sm_T_br (a := 1) (z := 12) rfl (fun cx76_ => ?_) (fun cx76_ => ?_)
          · have cx76_ : so_ ≠ 5 := of_decide_eq_true cx76_
            refine sm_T_go 1 (c1 := (155, [some (.inr (.inr (some (13, 0)))), some (.inl m_), some (.inl so_), some (.inl th), some (.inl (40 * m_ + (S0_.2.2.1 126 0 m_.toNat)))], [.inl 0, .inl (S0_.2.2.1 134 0 m_.toNat), .inl m_, .inr (.inr (some (134, 0)))], sm_aI (sm_aI (sm_aI (sm_aI (sm_aI (sm_aI (sm_aI (sm_aI S0_ 127 0 (40 * m_ + (S0_.2.2.1 126 0 m_.toNat)).toNat (S0_.1 13 0 25)) 128 0 (40 * m_ + (S0_.2.2.1 126 0 m_.toNat)).toNat so_) 129 0 (40 * m_ + (S0_.2.2.1 126 0 m_.toNat)).toNat (S0_.1 13 0 26)) 130 0 (40 * m_ + (S0_.2.2.1 126 0 m_.toNat)).toNat th) 131 0 (40 * m_ + (S0_.2.2.1 126 0 m_.toNat)).toNat 0) 126 0 m_.toNat ((S0_.2.2.1 126 0 m_.toNat) + 1)) 132 0 m_.toNat ((S0_.2.2.1 132 0 m_.toNat) + (S0_.1 13 0 26))) 133 0 m_.toNat (S0_.2.2.1 133 0 m_.toNat))) rfl ?_
            refine sm_T_bin (w := (S0_.2.2.1 134 0 m_.toNat)) rfl (bi_add (by omega) (by omega) (by omega)) ?_
            refine sm_T_iast (n := 16) rfl rfl (by omega) (by omega) ?_
            have hIx77_ : gi (sm_aI (sm_aI (sm_aI (sm_aI (sm_aI (sm_aI (sm_aI (sm_aI (sm_aI S0_ 127 0 (40 * m_ + (S0_.2.2.1 126 0 m_.toNat)).toNat (S0_.1 13 0 25)) 128 0 (40 * m_ + (S0_.2.2.1 126 0 m_.toNat)).toNat so_) 129 0 (40 * m_ + (S0_.2.2.1 126 0 m_.toNat)).toNat (S0_.1 13 0 26)) 130 0 (40 * m_ + (S0_.2.2.1 126 0 m_.toNat)).toNat th) 131 0 (40 * m_ + (S0_.2.2.1 126 0 m_.toNat)).toNat 0) 126 0 m_.toNat ((S0_.2.2.1 126 0 m_.toNat) + 1)) 132 0 m_.toNat ((S0_.2.2.1 132 0 m_.toNat) + (S0_.1 13 0 26))) 133 0 m_.toNat (S0_.2.2.1 133 0 m_.toNat)) 134 0 m_.toNat (S0_.2.2.1 134 0 m_.toNat)) := gi_aI hIx72_ (show 0 ≤ (S0_.2.2.1 134 0 m_.toNat) ∧ (S0_.2.2.1 134 0 m_.toNat) ≤ 1073741823 from ⟨by omega, by omega⟩)
            have hFx78_ : ai_fr (sx_W vw_308) S0_ (sm_aI (sm_aI (sm_aI (sm_aI (sm_aI (sm_aI (sm_aI (sm_aI (sm_aI S0_ 127 0 (40 * m_ + (S0_.2.2.1 126 0 m_.toNat)).toNat (S0_.1 13 0 25)) 128 0 (40 * m_ + (S0_.2.2.1 126 0 m_.toNat)).toNat so_) 129 0 (40 * m_ + (S0_.2.2.1 126 0 m_.toNat)).toNat (S0_.1 13 0 26)) 130 0 (40 * m_ + (S0_.2.2.1 126 0 m_.toNat)).toNat th) 131 0 (40 * m_ + (S0_.2.2.1 126 0 m_.toNat)).toNat 0) 126 0 m_.toNat ((S0_.2.2.1 126 0 m_.toNat) + 1)) 132 0 m_.toNat ((S0_.2.2.1 132 0 m_.toNat) + (S0_.1 13 0 26))) 133 0 m_.toNat (S0_.2.2.1 133 0 m_.toNat)) 134 0 m_.toNat (S0_.2.2.1 134 0 m_.toNat)) := ai_fr_tr hFx73_ (ai_fr_aI rfl)
            refine sm_T_go 4 (c1 := (163, [some (.inr (.inr (some (13, 0)))), some (.inl m_), some (.inl so_), some (.inl th), some (.inl (40 * m_ + (S0_.2.2.1 126 0 m_.toNat)))], [.inl m_, .inr (.inr (some (135, 0))), .inl m_, .inr (.inr (some (135, 0)))], sm_aI (sm_aI (sm_aI (sm_aI (sm_aI (sm_aI (sm_aI (sm_aI (sm_aI S0_ 127 0 (40 * m_ + (S0_.2.2.1 126 0 m_.toNat)).toNat (S0_.1 13 0 25)) 128 0 (40 * m_ + (S0_.2.2.1 126 0 m_.toNat)).toNat so_) 129 0 (40 * m_ + (S0_.2.2.1 126 0 m_.toNat)).toNat (S0_.1 13 0 26)) 130 0 (40 * m_ + (S0_.2.2.1 126 0 m_.toNat)).toNat th) 131 0 (40 * m_ + (S0_.2.2.1 126 0 m_.toNat)).toNat 0) 126 0 m_.toNat ((S0_.2.2.1 126 0 m_.toNat) + 1)) 132 0 m_.toNat ((S0_.2.2.1 132 0 m_.toNat) + (S0_.1 13 0 26))) 133 0 m_.toNat (S0_.2.2.1 133 0 m_.toNat)) 134 0 m_.toNat (S0_.2.2.1 134 0 m_.toNat))) rfl ?_
            refine sm_T_iald (n := 16) rfl rfl (by omega) (by omega) ?_
            have bx79_ : 0 ≤ S0_.2.2.1 135 0 m_.toNat ∧ S0_.2.2.1 135 0 m_.toNat ≤ 1073741823 := hI_.2 135 0 _
            refine sm_T_go 2 (c1 := (166, [some (.inr (.inr (some (13, 0)))), some (.inl m_), some (.inl so_), some (.inl th), some (.inl (40 * m_ + (S0_.2.2.1 126 0 m_.toNat)))], [.inl 5, .inl so_, .inl (S0_.2.2.1 135 0 m_.toNat), .inl m_, .inr (.inr (some (135, 0)))], sm_aI (sm_aI (sm_aI (sm_aI (sm_aI (sm_aI (sm_aI (sm_aI (sm_aI S0_ 127 0 (40 * m_ + (S0_.2.2.1 126 0 m_.toNat)).toNat (S0_.1 13 0 25)) 128 0 (40 * m_ + (S0_.2.2.1 126 0 m_.toNat)).toNat so_) 129 0 (40 * m_ + (S0_.2.2.1 126 0 m_.toNat)).toNat (S0_.1 13 0 26)) 130 0 (40 * m_ + (S0_.2.2.1 126 0 m_.toNat)).toNat th) 131 0 (40 * m_ + (S0_.2.2.1 126 0 m_.toNat)).toNat 0) 126 0 m_.toNat ((S0_.2.2.1 126 0 m_.toNat) + 1)) 132 0 m_.toNat ((S0_.2.2.1 132 0 m_.toNat) + (S0_.1 13 0 26))) 133 0 m_.toNat (S0_.2.2.1 133 0 m_.toNat)) 134 0 m_.toNat (S0_.2.2.1 134 0 m_.toNat))) rfl ?_
            refine sm_T_br (a := 1) (z := 14) rfl (fun cx80_ => ?_) (fun cx80_ => ?_)
            · have cx80_ : so_ ≠ 5 := of_decide_eq_true cx80_
              refine sm_T_go 1 (c1 := (181, [some (.inr (.inr (some (13, 0)))), some (.inl m_), some (.inl so_), some (.inl th), some (.inl (40 * m_ + (S0_.2.2.1 126 0 m_.toNat)))], [.inl 0, .inl (S0_.2.2.1 135 0 m_.toNat), .inl m_, .inr (.inr (some (135, 0)))], sm_aI (sm_aI (sm_aI (sm_aI (sm_aI (sm_aI (sm_aI (sm_aI (sm_aI S0_ 127 0 (40 * m_ + (S0_.2.2.1 126 0 m_.toNat)).toNat (S0_.1 13 0 25)) 128 0 (40 * m_ + (S0_.2.2.1 126 0 m_.toNat)).toNat so_) 129 0 (40 * m_ + (S0_.2.2.1 126 0 m_.toNat)).toNat (S0_.1 13 0 26)) 130 0 (40 * m_ + (S0_.2.2.1 126 0 m_.toNat)).toNat th) 131 0 (40 * m_ + (S0_.2.2.1 126 0 m_.toNat)).toNat 0) 126 0 m_.toNat ((S0_.2.2.1 126 0 m_.toNat) + 1)) 132 0 m_.toNat ((S0_.2.2.1 132 0 m_.toNat) + (S0_.1 13 0 26))) 133 0 m_.toNat (S0_.2.2.1 133 0 m_.toNat)) 134 0 m_.toNat (S0_.2.2.1 134 0 m_.toNat))) rfl ?_
              refine sm_T_bin (w := (S0_.2.2.1 135 0 m_.toNat)) rfl (bi_add (by omega) (by omega) (by omega)) ?_
              refine sm_T_iast (n := 16) rfl rfl (by omega) (by omega) ?_
              have hIx81_ : gi (sm_aI (sm_aI (sm_aI (sm_aI (sm_aI (sm_aI (sm_aI (sm_aI (sm_aI (sm_aI S0_ 127 0 (40 * m_ + (S0_.2.2.1 126 0 m_.toNat)).toNat (S0_.1 13 0 25)) 128 0 (40 * m_ + (S0_.2.2.1 126 0 m_.toNat)).toNat so_) 129 0 (40 * m_ + (S0_.2.2.1 126 0 m_.toNat)).toNat (S0_.1 13 0 26)) 130 0 (40 * m_ + (S0_.2.2.1 126 0 m_.toNat)).toNat th) 131 0 (40 * m_ + (S0_.2.2.1 126 0 m_.toNat)).toNat 0) 126 0 m_.toNat ((S0_.2.2.1 126 0 m_.toNat) + 1)) 132 0 m_.toNat ((S0_.2.2.1 132 0 m_.toNat) + (S0_.1 13 0 26))) 133 0 m_.toNat (S0_.2.2.1 133 0 m_.toNat)) 134 0 m_.toNat (S0_.2.2.1 134 0 m_.toNat)) 135 0 m_.toNat (S0_.2.2.1 135 0 m_.toNat)) := gi_aI hIx77_ (show 0 ≤ (S0_.2.2.1 135 0 m_.toNat) ∧ (S0_.2.2.1 135 0 m_.toNat) ≤ 1073741823 from ⟨by omega, by omega⟩)
              have hFx82_ : ai_fr (sx_W vw_308) S0_ (sm_aI (sm_aI (sm_aI (sm_aI (sm_aI (sm_aI (sm_aI (sm_aI (sm_aI (sm_aI S0_ 127 0 (40 * m_ + (S0_.2.2.1 126 0 m_.toNat)).toNat (S0_.1 13 0 25)) 128 0 (40 * m_ + (S0_.2.2.1 126 0 m_.toNat)).toNat so_) 129 0 (40 * m_ + (S0_.2.2.1 126 0 m_.toNat)).toNat (S0_.1 13 0 26)) 130 0 (40 * m_ + (S0_.2.2.1 126 0 m_.toNat)).toNat th) 131 0 (40 * m_ + (S0_.2.2.1 126 0 m_.toNat)).toNat 0) 126 0 m_.toNat ((S0_.2.2.1 126 0 m_.toNat) + 1)) 132 0 m_.toNat ((S0_.2.2.1 132 0 m_.toNat) + (S0_.1 13 0 26))) 133 0 m_.toNat (S0_.2.2.1 133 0 m_.toNat)) 134 0 m_.toNat (S0_.2.2.1 134 0 m_.toNat)) 135 0 m_.toNat (S0_.2.2.1 135 0 m_.toNat)) := ai_fr_tr hFx78_ (ai_fr_aI rfl)
              refine sm_T_go 0 (c1 := (183, [some (.inr (.inr (some (13, 0)))), some (.inl m_), some (.inl so_), some (.inl th), some (.inl (40 * m_ + (S0_.2.2.1 126 0 m_.toNat)))], [], sm_aI (sm_aI (sm_aI (sm_aI (sm_aI (sm_aI (sm_aI (sm_aI (sm_aI (sm_aI S0_ 127 0 (40 * m_ + (S0_.2.2.1 126 0 m_.toNat)).toNat (S0_.1 13 0 25)) 128 0 (40 * m_ + (S0_.2.2.1 126 0 m_.toNat)).toNat so_) 129 0 (40 * m_ + (S0_.2.2.1 126 0 m_.toNat)).toNat (S0_.1 13 0 26)) 130 0 (40 * m_ + (S0_.2.2.1 126 0 m_.toNat)).toNat th) 131 0 (40 * m_ + (S0_.2.2.1 126 0 m_.toNat)).toNat 0) 126 0 m_.toNat ((S0_.2.2.1 126 0 m_.toNat) + 1)) 132 0 m_.toNat ((S0_.2.2.1 132 0 m_.toNat) + (S0_.1 13 0 26))) 133 0 m_.toNat (S0_.2.2.1 133 0 m_.toNat)) 134 0 m_.toNat (S0_.2.2.1 134 0 m_.toNat)) 135 0 m_.toNat (S0_.2.2.1 135 0 m_.toNat))) rfl ?_
              refine sm_T_wk [some (.inr (.inr (some (13, 0)))), some (.inl m_), some (.inl so_), some (.inl th), none] (by exact ⟨rfl, rfl, rfl, rfl, trivial⟩) ?_
              refine (vl_308 m_ so_ th b_ n_ T_ x_ A_ M_ cs_ S0_ hI0_ hx_ hmm_ hso_ hr_ _)  (sm_aI (sm_aI (sm_aI (sm_aI (sm_aI (sm_aI (sm_aI (sm_aI (sm_aI (sm_aI S0_ 127 0 (40 * m_ + (S0_.2.2.1 126 0 m_.toNat)).toNat (S0_.1 13 0 25)) 128 0 (40 * m_ + (S0_.2.2.1 126 0 m_.toNat)).toNat so_) 129 0 (40 * m_ + (S0_.2.2.1 126 0 m_.toNat)).toNat (S0_.1 13 0 26)) 130 0 (40 * m_ + (S0_.2.2.1 126 0 m_.toNat)).toNat th) 131 0 (40 * m_ + (S0_.2.2.1 126 0 m_.toNat)).toNat 0) 126 0 m_.toNat ((S0_.2.2.1 126 0 m_.toNat) + 1)) 132 0 m_.toNat ((S0_.2.2.1 132 0 m_.toNat) + (S0_.1 13 0 26))) 133 0 m_.toNat (S0_.2.2.1 133 0 m_.toNat)) 134 0 m_.toNat (S0_.2.2.1 134 0 m_.toNat)) 135 0 m_.toNat (S0_.2.2.1 135 0 m_.toNat)) hIx81_ hFx82_ ⟨?_, ?_, ?_, ?_, ?_, ?_, ?_, ?_, ?_, ?_, ?_, trivial⟩ (Nat.lt_succ_self _)
              · exact ⟨p_, hp1_⟩
              · (intro j_); (try simp only [rd_eq, rd_ne, rf_eq, rf_nk, rf_nt, rd_fa, rd_af, rd_fl, rd_al, rd_lf, rd_la, rd_leq, rd_lne, rd_fr, rd_ar, ne_eq, Nat.reduceEqDiff, not_false_eq_true]); (try simp only [iM_]); (try simp only [mM_]); (repeat' split); all_goals omega
              · (intro j_); (try simp only [rd_eq, rd_ne, rf_eq, rf_nk, rf_nt, rd_fa, rd_af, rd_fl, rd_al, rd_lf, rd_la, rd_leq, rd_lne, rd_fr, rd_ar, ne_eq, Nat.reduceEqDiff, not_false_eq_true]); (try simp only [iM_]); (try simp only [mM_]); (repeat' split); all_goals omega
              · (intro j_); (try simp only [rd_eq, rd_ne, rf_eq, rf_nk, rf_nt, rd_fa, rd_af, rd_fl, rd_al, rd_lf, rd_la, rd_leq, rd_lne, rd_fr, rd_ar, ne_eq, Nat.reduceEqDiff, not_false_eq_true]); (try simp only [iM_]); (try simp only [mM_]); (repeat' split); all_goals omega
              · (intro j_); (try simp only [rd_eq, rd_ne, rf_eq, rf_nk, rf_nt, rd_fa, rd_af, rd_fl, rd_al, rd_lf, rd_la, rd_leq, rd_lne, rd_fr, rd_ar, ne_eq, Nat.reduceEqDiff, not_false_eq_true]); (try simp only [iM_]); (try simp only [mM_]); (repeat' split); all_goals omega
              · (intro j_); (try simp only [rd_eq, rd_ne, rf_eq, rf_nk, rf_nt, rd_fa, rd_af, rd_fl, rd_al, rd_lf, rd_la, rd_leq, rd_lne, rd_fr, rd_ar, ne_eq, Nat.reduceEqDiff, not_false_eq_true]); (try simp only [iM_]); (try simp only [mM_]); (repeat' split); all_goals omega
              · (intro j_); (try simp only [rd_eq, rd_ne, rf_eq, rf_nk, rf_nt, rd_fa, rd_af, rd_fl, rd_al, rd_lf, rd_la, rd_leq, rd_lne, rd_fr, rd_ar, ne_eq, Nat.reduceEqDiff, not_false_eq_true]); (try simp only [iM_]); (try simp only [mM_]); (repeat' split); all_goals omega
              · (intro j_); (try simp only [rd_eq, rd_ne, rf_eq, rf_nk, rf_nt, rd_fa, rd_af, rd_fl, rd_al, rd_lf, rd_la, rd_leq, rd_lne, rd_fr, rd_ar, ne_eq, Nat.reduceEqDiff, not_false_eq_true]); (try simp only [iM_]); (try simp only [mM_]); (repeat' split); all_goals omega
              · (intro j_); (try simp only [rd_eq, rd_ne, rf_eq, rf_nk, rf_nt, rd_fa, rd_af, rd_fl, rd_al, rd_lf, rd_la, rd_leq, rd_lne, rd_fr, rd_ar, ne_eq, Nat.reduceEqDiff, not_false_eq_true]); (try simp only [iM_]); (try simp only [mM_]); (repeat' split); all_goals omega
              · (intro j_); (try simp only [rd_eq, rd_ne, rf_eq, rf_nk, rf_nt, rd_fa, rd_af, rd_fl, rd_al, rd_lf, rd_la, rd_leq, rd_lne, rd_fr, rd_ar, ne_eq, Nat.reduceEqDiff, not_false_eq_true]); (try simp only [iM_]); (try simp only [mM_]); (repeat' split); all_goals omega
              · (intro j_); (try simp only [rd_eq, rd_ne, rf_eq, rf_nk, rf_nt, rd_fa, rd_af, rd_fl, rd_al, rd_lf, rd_la, rd_leq, rd_lne, rd_fr, rd_ar, ne_eq, Nat.reduceEqDiff, not_false_eq_true]); (try simp only [iM_]); (try simp only [mM_]); (repeat' split); all_goals omega
            · have cx80_ : ¬ (so_ ≠ 5) := of_decide_eq_false cx80_
              exfalso; omega
          · have cx76_ : ¬ (so_ ≠ 5) := of_decide_eq_false cx76_
            exfalso; omega
        · have cx75_ : ¬ (so_ ≠ 4) := of_decide_eq_false cx75_
          exfalso; omega
      · have cx71_ : ¬ (so_ ≠ 2) := of_decide_eq_false cx71_
        exfalso; omega
  · have cx7_ : ¬ (vx6_ ≠ 0) := of_decide_eq_false cx7_
    refine sm_T_rv rfl ⟨_, _, rfl, rfl, hI_, hF_, ?_⟩
    refine ⟨hx_, fun p9_ q9_ hp9_ _ => ?_⟩
    rw [hp9_] at hx_
    exact absurd hx_.1 (wr_if e1_ (by omega))
end
/-! 99.yla -/
section
/-! the reference: values told; written by wip/p55/gen/vg -/

/-! chains -/
theorem pb_as {α β γ : Type} {z_ : pE α} {f_ : α → pE β} {g_ : β → pE γ} : pb (pb z_ f_) g_ = pb z_ fun a_ => pb (f_ a_) g_ := by cases z_ <;> rfl
theorem pb_ir {α β : Type} {a_ : α} {f_ : α → pE β} : pb (.inr a_) f_ = f_ a_ := rfl
theorem pb_id {α : Type} {z_ : pE α} : (pb z_ fun a_ => .inr a_) = z_ := by cases z_ <;> rfl
theorem rg_pb {α β : Type} {b_ : Nat → Int} {n_ T_ : Nat} {z_ : pE α} {f_ : α → pE β} {ps_ : α → Nat} {pt_ : β → Nat} {g_ : Nat → pE Nat} {S_ : sm_S} (h_ : rg b_ n_ T_ (pb (pb z_ fun a_ => .inr (ps_ a_)) g_) S_) (hg_ : ∀ a_, z_ = .inr a_ → g_ (ps_ a_) = pb (f_ a_) fun r_ => .inr (pt_ r_)) : rg b_ n_ T_ (pb (pb z_ f_) fun r_ => .inr (pt_ r_)) S_ := by
  cases z_ with
  | inl e_ => exact h_
  | inr a_ =>
    have h1_ : rg b_ n_ T_ (g_ (ps_ a_)) S_ := h_
    rw [hg_ a_ rfl] at h1_
    exact h1_
theorem rg_at {α : Type} {b_ : Nat → Int} {n_ T_ : Nat} {z_ : pE α} {ps_ : α → Nat} {S_ : sm_S} {a_ : α} (h_ : rg b_ n_ T_ (pb z_ fun a_ => .inr (ps_ a_)) S_) (e_ : z_ = .inr a_) : rg b_ n_ T_ (.inr (ps_ a_)) S_ := by
  subst e_
  exact h_
theorem rg_le {b_ : Nat → Int} {n_ T_ p_ : Nat} {S_ : sm_S} (ht_ : rtab b_ n_ T_ S_) (h_ : rg b_ n_ T_ (.inr p_) S_) : p_ ≤ n_ ∧ lx_kd b_ n_ p_ ≠ -1 ∧ S_.2.2.1 120 0 (S_.1 13 0 9).toNat = (p_ : Int) := by
  obtain ⟨i_, h1_, h2_⟩ := h_.2
  have h3_ := rp_at ht_ h2_
  exact ⟨h3_.2.2.2.1, h2_.2.2.1, by rw [show (S_.1 13 0 9).toNat = i_ by omega]; exact h3_.2.1⟩
theorem rg_rt {α : Type} {b_ : Nat → Int} {n_ T_ : Nat} {z_ : pE α} {ps_ : α → Nat} {S_ : sm_S} (h_ : rg b_ n_ T_ (pb z_ fun a_ => .inr (ps_ a_)) S_) (h0_ : S_.1 13 0 10 = 0) : ∃ a_, z_ = .inr a_ := by
  cases z_ with
  | inl e_ => exact absurd (h_.1.symm.trans h0_) h_.2.2
  | inr a_ => exact ⟨a_, rfl⟩
theorem rg_wr {α : Type} {b_ : Nat → Int} {n_ T_ : Nat} {z_ : pE α} {ps_ : α → Nat} {S_ : sm_S} (h_ : rg b_ n_ T_ (pb z_ fun a_ => .inr (ps_ a_)) S_) (h0_ : S_.1 13 0 10 ≠ 0) : ∃ e_, z_ = .inl e_ := by
  cases z_ with
  | inl e_ => exact ⟨e_, rfl⟩
  | inr a_ => exact absurd h_.1 h0_
/-- a_ flaw that names a_ place -/
theorem rg_fb {α : Type} {b_ : Nat → Int} {n_ T_ : Nat} {z_ : pE α} {ps_ : α → Nat} {f_ : α → pE α} {S_ S'_ : sm_S} {fl_ : Int} {pl_ : Nat} (h_ : rg b_ n_ T_ (pb z_ fun a_ => .inr (ps_ a_)) S_) (h0_ : S_.1 13 0 10 = 0) (hf_ : ∀ a_, z_ = .inr a_ → f_ a_ = .inl (fl_, pl_)) (hfl_ : fl_ ≠ 0) (h1_ : (S_.1 13 0 10 ≠ 0 ∧ S'_.1 13 0 10 = S_.1 13 0 10 ∧ S'_.1 13 0 11 = S_.1 13 0 11) ∨ (S_.1 13 0 10 = 0 ∧ S'_.1 13 0 10 = fl_ ∧ S'_.1 13 0 11 = (pl_ : Int))) : rg b_ n_ T_ (pb (pb z_ f_) fun a_ => .inr (ps_ a_)) S'_ := by
  obtain ⟨a_, rfl⟩ := rg_rt h_ h0_
  rcases h1_ with w_ | w_
  · exact absurd h0_ w_.1
  · show rg b_ n_ T_ (pb (f_ a_) fun a_ => .inr (ps_ a_)) S'_
    rw [hf_ a_ rfl]
    exact ⟨w_.2.1, w_.2.2, hfl_⟩
theorem rg_ok {α : Type} {b_ : Nat → Int} {n_ T_ : Nat} {z_ : pE α} {ps_ : α → Nat} {f_ : α → pE α} {S_ : sm_S} (h_ : rg b_ n_ T_ (pb z_ fun a_ => .inr (ps_ a_)) S_) (hf_ : ∀ a_, z_ = .inr a_ → f_ a_ = .inr a_) : rg b_ n_ T_ (pb (pb z_ f_) fun a_ => .inr (ps_ a_)) S_ := by
  cases z_ with
  | inl e_ => exact h_
  | inr a_ =>
    show rg b_ n_ T_ (pb (f_ a_) fun a_ => .inr (ps_ a_)) S_
    rw [hf_ a_ rfl]
    exact h_
theorem nd_ok {b_ : Nat → Int} {n_ p_ q_ : Nat} {s_ : Int} (hp_ : p_ ≤ n_) (hs_ : s_ ≠ 0) (h_ : p_nd b_ n_ s_ p_ = .inr q_) : p_ < q_ ∧ q_ ≤ n_ ∧ lx_kd b_ n_ q_ ≠ -1 ∧ lx_kd b_ n_ p_ = s_ := by
  unfold p_nd at h_
  split at h_
  · rename_i g_
    have := p_ad_ok hp_ (by omega) h_
    exact ⟨this.2.1, this.2.2.1, this.2.2.2, g_⟩
  · cases h_
theorem nw_ok {b_ : Nat → Int} {n_ M_ p_ r_ : Nat} {A_ : pA} (h_ : p_nw b_ n_ A_ M_ p_ = .inr r_) : lx_kd b_ n_ p_ = 1 ∧ A_.1 M_ ≠ 40 ∧ p_ad b_ n_ p_ = .inr r_ := by
  unfold p_nw p_nn at h_
  split at h_
  · rename_i g_
    split at h_
    · split at h_
      · cases h_
      · rename_i g2_
        exact ⟨g_, by omega, h_⟩
    · cases h_
  · cases h_
/-- between the_ items of_ a_ module -/
def rm (b_ : Nat → Int) (n_ T_ M_ : Nat) (y_ : pE pT) (S_ : sm_S) : Prop := rg b_ n_ T_ (pb y_ fun r_ => .inr r_.2.2) S_ ∧ ∀ r_, y_ = .inr r_ → a_ok b_ n_ r_.1 M_ ∧ (∀ m_, m_ ≤ M_ → re1 b_ n_ T_ r_.1 m_ S_) ∧ (∀ m_, m_ ≤ M_ → rs1 r_.1 m_ S_) ∧ r_.2.1.length ≤ 3 * r_.2.2
theorem rs1_fr {w_ : sx_Wl} {A_ : pA} {m_ : Nat} {S_ S'_ : sm_S} (h_ : rs1 A_ m_ S_) (g_ : ai_fr (sx_W w_) S_ S'_) (h0_ : (sx_W w_).2.1 132 = false) (h1_ : (sx_W w_).2.1 133 = false) (h2_ : (sx_W w_).2.1 134 = false) (h3_ : (sx_W w_).2.1 135 = false) : rs1 A_ m_ S'_ := by
  unfold rs1 at h_ ⊢
  rw [fr_arr g_ h0_, fr_arr g_ h1_, fr_arr g_ h2_, fr_arr g_ h3_]
  exact h_
theorem xd_0 {b_ : Nat → Int} {n_ M_ K_ p_ : Nat} {A_ : pA} {f_ : Nat → Nat} {c_ : List Int} : p_ex b_ n_ (mdo 0) (p_pm b_ n_ (mdo 0) A_ M_ K_ f_) c_ p_ = p_xd b_ n_ A_ M_ c_ p_ := by
  unfold p_xd p_pm
  rw [show mdo 0 = false from rfl, if_neg (by decide)]
theorem pm_0 {b_ : Nat → Int} {n_ M_ K_ : Nat} {A_ : pA} {f_ : Nat → Nat} (h_ : a_ok b_ n_ A_ M_) : pr_ok b_ n_ (p_pm b_ n_ (mdo 0) A_ M_ K_ f_) := by
  unfold p_pm
  rw [show mdo 0 = false from rfl, if_neg (by decide)]
  exact pd_ok h_
theorem xd_ok {b_ : Nat → Int} {n_ M_ p_ : Nat} {A_ : pA} {c_ : List Int} {r_ : pR} (hn_ : n_ ≤ 1280) (hA_ : a_ok b_ n_ A_ M_) (hp_ : p_ ≤ n_) (hk_ : lx_kd b_ n_ p_ ≠ -1) (hc_ : c_.length ≤ 3 * p_) (e_ : p_xd b_ n_ A_ M_ c_ p_ = .inr r_) : p_ < r_.1 ∧ r_.1 ≤ n_ ∧ lx_kd b_ n_ r_.1 ≠ -1 ∧ r_.2.1.length = 1 ∧ h_ok r_.2.1 ∧ r_.2.2.length ≤ 3 * r_.1 := pex_ok hn_ (pd_ok hA_) hp_ hk_ hc_ e_
theorem en_0 {b_ : Nat → Int} {n_ T_ M_ K_ : Nat} {A_ : pA} {f_ : Nat → Nat} {S_ : sm_S} (h1_ : a_ok b_ n_ A_ M_) (h2_ : S_.1 13 0 28 = (M_ : Int)) (h3_ : ∀ m_, m_ ≤ M_ → re1 b_ n_ T_ A_ m_ S_) : r_en b_ n_ T_ 0 A_ M_ K_ f_ S_ := ⟨fun _ => ⟨h1_, h2_, h3_⟩, fun z_ => absurd z_ (by decide)⟩
theorem vs_1 {g_ : List Int} {S_ : sm_S} (h_ : vs 0 g_ S_) (h1_ : g_.length = 1) : S_.2.2.1 138 0 0 = h_tp g_ := by
  cases g_ with
  | nil => cases h1_
  | cons a_ l_ =>
    cases l_ with
    | nil => exact (h_.2.1 (by decide)).1
    | cons a2_ l2_ => simp only [List.length_cons] at h1_; omega
end
/-! 99.ylb -/
section
/-! values -/
def z_nw (b_ : Nat → Int) (n_ : Nat) (A_ : pA) (M_ p_ : Nat) : pE (Nat × Nat) := pb (p_ad b_ n_ p_) fun q_ => pb (p_nw b_ n_ A_ M_ q_) fun r_ => .inr (q_, r_)
def z_wi (b_ : Nat → Int) (n_ : Nat) (A_ : pA) (M_ p_ : Nat) : pE (Nat × Nat × Int) := pb (z_nw b_ n_ A_ M_ p_) fun a_ => pb (p_wi b_ n_ a_.2) fun u_ => .inr (a_.1, u_)
theorem z_nw_ok {b_ : Nat → Int} {n_ M_ p_ : Nat} {A_ : pA} {a_ : Nat × Nat} (hp_ : p_ ≤ n_) (hk_ : lx_kd b_ n_ p_ ≠ 0) (h_ : z_nw b_ n_ A_ M_ p_ = .inr a_) : nmp b_ n_ a_.1 ∧ A_.1 M_ ≠ 40 ∧ p_ < a_.1 ∧ a_.1 < a_.2 ∧ a_.2 ≤ n_ ∧ lx_kd b_ n_ a_.2 ≠ -1 := by
  obtain ⟨q_, h1_, h_⟩ := pb_inr h_
  obtain ⟨r_, h2_, h_⟩ := pb_inr h_
  cases h_
  have k1_ := p_ad_ok hp_ hk_ h1_
  have k2_ := nw_ok h2_
  have k3_ := p_ad_ok k1_.2.2.1 (by omega) k2_.2.2
  exact ⟨⟨k1_.2.2.1, k2_.1⟩, k2_.2.1, k1_.2.1, k3_.2.1, k3_.2.2.1, k3_.2.2.2⟩
theorem z_wi_ok {b_ : Nat → Int} {n_ M_ p_ : Nat} {A_ : pA} {a_ : Nat × Nat × Int} (hp_ : p_ ≤ n_) (hk_ : lx_kd b_ n_ p_ ≠ 0) (h_ : z_wi b_ n_ A_ M_ p_ = .inr a_) : nmp b_ n_ a_.1 ∧ A_.1 M_ ≠ 40 ∧ p_ + 1 < a_.2.1 ∧ a_.2.1 ≤ n_ ∧ lx_kd b_ n_ a_.2.1 ≠ -1 ∧ 1 ≤ a_.2.2 ∧ a_.2.2 ≤ 8 := by
  obtain ⟨q_, h1_, h_⟩ := pb_inr h_
  obtain ⟨r_, h2_, h_⟩ := pb_inr h_
  cases h_
  have k1_ := z_nw_ok hp_ hk_ h1_
  have k2_ := p_wi_ok k1_.2.2.2.2.1 k1_.2.2.2.2.2 h2_
  have k3_ := k1_.2.2.1
  have k4_ := k1_.2.2.2.1
  exact ⟨k1_.1, k1_.2.1, by show p_ + 1 < r_.1; omega, k2_.2.1, k2_.2.2.1, k2_.2.2.2⟩
abbrev pV : Type := (Nat × Nat × Int) × pR
def z_va (b_ : Nat → Int) (n_ : Nat) (A_ : pA) (M_ : Nat) (c_ : List Int) (p_ : Nat) : pE pV := pb (z_wi b_ n_ A_ M_ p_) fun a_ => pb (p_nd b_ n_ 61 a_.2.1) fun v_ => pb (p_xd b_ n_ A_ M_ c_ v_) fun x_ => .inr (a_, x_)
def z_vw (a_ : pV) : pE pV := if h_tp a_.2.2.1 = a_.1.2.2 then .inr a_ else .inl (13, a_.1.2.1)
def z_vs (b_ : Nat → Int) (n_ : Nat) (a_ : pV) : pE (pV × Nat) := pb (p_nd b_ n_ 59 a_.2.1) fun y_ => .inr (a_, y_)
def k_va (A_ : pA) (M_ : Nat) (so_ : Int) (a_ : pV × Nat) : pT := (a_te A_ M_ a_.1.1.1 so_ a_.1.1.2.2 0, cw 12 (A_.1 M_) 0 :: a_.1.2.2.2, a_.2)
theorem va_eq {b_ : Nat → Int} {n_ M_ p_ : Nat} {A_ : pA} {so_ : Int} {c_ : List Int} : p_va b_ n_ A_ M_ so_ c_ p_ = pb (pb (pb (z_va b_ n_ A_ M_ c_ p_) z_vw) (z_vs b_ n_)) fun a_ => .inr (k_va A_ M_ so_ a_) := by
  unfold p_va z_va z_wi z_nw
  simp only [pb_as, pb_ir]
  refine congrArg (pb (p_ad b_ n_ p_)) (funext fun q_ => congrArg (pb _) (funext fun r_ => congrArg (pb _) (funext fun u_ => congrArg (pb _) (funext fun v_ => congrArg (pb _) (funext fun x_ => ?_)))))
  unfold z_vw
  show _ = pb (if h_tp x_.2.1 = u_.2 then .inr ((q_, u_), x_) else .inl (13, u_.1)) _
  by_cases g_ : h_tp x_.2.1 = u_.2
  · rw [if_pos g_, if_pos g_]
    show _ = pb (pb (p_nd b_ n_ 59 x_.1) fun y_ => .inr (((q_, u_), x_), y_)) _
    rw [pb_as]
    rfl
  · rw [if_neg g_, if_neg g_]
    rfl
theorem va_ok {b_ : Nat → Int} {n_ M_ p_ : Nat} {A_ : pA} {so_ : Int} {c_ : List Int} {r_ : pT} (hn_ : n_ ≤ 1280) (hA_ : a_ok b_ n_ A_ M_) (hso_ : 0 ≤ so_ ∧ so_ ≤ 2) (hp_ : p_ ≤ n_) (hk_ : lx_kd b_ n_ p_ ≠ 0) (hc_ : c_.length ≤ 3 * p_) (h_ : p_va b_ n_ A_ M_ so_ c_ p_ = .inr r_) : a_ok b_ n_ r_.1 M_ ∧ r_.2.1.length ≤ 3 * r_.2.2 ∧ p_ < r_.2.2 := by
  rw [va_eq] at h_
  obtain ⟨a_, h1_, h_⟩ := pb_inr h_
  cases h_
  obtain ⟨a1_, h2_, h1_⟩ := pb_inr h1_
  obtain ⟨a0_, h3_, h2_⟩ := pb_inr h2_
  obtain ⟨a2_, h4_, h3_⟩ := pb_inr h3_
  obtain ⟨v_, h5_, h3_⟩ := pb_inr h3_
  obtain ⟨x_, h6_, h3_⟩ := pb_inr h3_
  cases h3_
  have k1_ := z_wi_ok hp_ hk_ h4_
  have k2_ := nd_ok k1_.2.2.2.1 (by decide) h5_
  have k3_ := xd_ok hn_ hA_ k2_.2.1 k2_.2.2.1 (by omega) h6_
  unfold z_vw at h2_
  split at h2_
  · cases h2_
    obtain ⟨y_, h7_, h1_⟩ := pb_inr h1_
    cases h1_
    have k4_ := nd_ok k3_.2.1 (by decide) h7_
    have k5_ := (hA_.2 M_ (Nat.le_refl M_)).1
    have k6_ := k1_.2.1
    refine ⟨a_te_ok hA_ (by omega) k1_.1 (by omega) ⟨by have := k1_.2.2.2.2.2.1; show (0 : Int) ≤ a2_.2.2; omega, k1_.2.2.2.2.2.2⟩ (fun _ => k1_.2.2.2.2.2.1) (fun z_ => by omega) (by decide), ?_, ?_⟩
    · show x_.2.2.length + 1 ≤ 3 * y_
      have := k3_.2.2.2.2.2
      have : x_.1 < y_ := k4_.1
      omega
    · show p_ < y_
      have : x_.1 < y_ := k4_.1
      have := k3_.1
      have := k2_.1
      have := k1_.2.2.1
      omega
  · cases h2_
end
/-! 99.ylc -/
section
/-! M_.tellValue -/
def vw_335 : sx_Wl := ([(13, 9), (13, 10), (13, 11), (13, 25), (13, 26), (13, 32), (13, 33), (13, 34)], [126, 127, 128, 129, 130, 131, 132, 133, 134, 135, 136, 137, 138, 139], [])
def vq_335 (m_ : Int) (so_ : Int) (b_ : Nat → Int) (n_ : Nat) (T_ : Nat) (A_ : pA) (M_ : Nat) (c_ : List Int) (p_ : Nat) (cs_ : Int) (S0_ : sm_S) (u_ : Option sm_V) (S1_ : sm_S) : Prop := u_ = none ∧ gi S1_ ∧ ai_fr (sx_W vw_335) S0_ S1_ ∧ (rm b_ n_ T_ M_ (p_va b_ n_ A_ M_ cs_ c_ p_) S1_)
set_option maxHeartbeats 1500000 in
theorem vl_335 {sc_ : Nat × (Nat → Int)} (m_ : Int) (so_ : Int) (b_ : Nat → Int) (n_ : Nat) (T_ : Nat) (A_ : pA) (M_ : Nat) (c_ : List Int) (p_ : Nat) (cs_ : Int) (S0_ : sm_S) (ht_ : rtab b_ n_ T_ S0_) (hx_ : rg b_ n_ T_ (.inr p_) S0_) (hk_ : lx_kd b_ n_ p_ ≠ 0) (hmo_ : (S0_.1 13 0 27) = 0) (hmm_ : m_ = (M_ : Int) ∧ M_ ≤ 15) (hmd_ : (S0_.1 13 0 28) = (M_ : Int)) (hA_ : a_ok b_ n_ A_ M_) (hre_ : ∀ m_, m_ ≤ M_ → re1 b_ n_ T_ A_ m_ S0_) (hrs_ : ∀ m_, m_ ≤ M_ → rs1 A_ m_ S0_) (hc_ : c_.length ≤ 3 * p_) (hcs_ : so_ = cs_ + 1 ∧ 1 ≤ cs_ ∧ cs_ ≤ 2) : ∀ nn_ : Nat, (∀ (tk_ : Int) (w_ : Int) (S_ : sm_S), gi S_ → ai_fr (sx_W vw_335) S0_ S_ → ((rg b_ n_ T_ (pb (pb (z_va b_ n_ A_ M_ c_ p_) z_vw) fun a_ => .inr a_.2.1) S_) ∧ (∀ m_, m_ ≤ M_ → re1 b_ n_ T_ A_ m_ S_) ∧ (∀ m_, m_ ≤ M_ → rs1 A_ m_ S_) ∧ (∀ a_, z_wi b_ n_ A_ M_ p_ = .inr a_ → rtk b_ n_ T_ tk_ a_.1 ∧ w_ = a_.2.2) ∧ ((0 ≤ tk_ ∧ tk_ ≤ 1280) ∧ (-2147483648 ≤ w_ ∧ w_ ≤ 2147483647)) ∧ True) → ((2 : Nat)) < nn_ → sm_T (mt_P sc_) 8 335 (66, [some (.inr (.inr (some (13, 0)))), some (.inl m_), some (.inl so_), some (.inl tk_), some (.inl w_), none], [], S_) (fun r_ => ∃ u_ S1_, r_ = (.inl u_, S1_, 0) ∧ vq_335 m_ so_ b_ n_ T_ A_ M_ c_ p_ cs_ S0_ u_ S1_)) := by
  intro nn_
  induction nn_ with
  | zero => exact fun _ _ _ _ _ _ h_ => absurd h_ (Nat.not_lt_zero _)
  | succ nn_ ih_ =>
    rintro tk_ w_ S_ hI_ hF_ ⟨g66_, re66_, rs66_, tw_, tb_, -⟩ hm_
    have le0_ := rg_le ht_ hx_
    have hn1_ := ht_.1
    have hAM_ := (hA_.2 M_ (Nat.le_refl M_)).1
    have t66_ := rtab_fr ht_ hF_ rfl rfl rfl rfl rfl
    have zvx_ : ∀ a_, z_va b_ n_ A_ M_ c_ p_ = .inr a_ → z_wi b_ n_ A_ M_ p_ = .inr a_.1 := fun a_ ha_ => by obtain ⟨a0_, h1_, h2_⟩ := pb_inr ha_; obtain ⟨v_, h3_, h4_⟩ := pb_inr h2_; obtain ⟨r_, h5_, h6_⟩ := pb_inr h4_; cases h6_; exact h1_
    refine sm_T_go 2 (c1 := (69, [some (.inr (.inr (some (13, 0)))), some (.inl m_), some (.inl so_), some (.inl tk_), some (.inl w_), none], [.inl 59, .inr (.inr (some (13, 0)))], S_)) rfl ?_
    refine sm_T_cal (d1 := 3) (Q1 := vq_300 59 b_ n_ T_ (pb (pb (z_va b_ n_ A_ M_ c_ p_) z_vw) fun a_ => .inr a_.2.1) S_) rfl rfl (by decide) (vc_300 59 b_ n_ T_ (pb (pb (z_va b_ n_ A_ M_ c_ p_) z_vw) fun a_ => .inr a_.2.1) S_ hI_ (by exact t66_) (by exact g66_) (by decide)) (fun u_ Sx1_ px4_ => ?_)
    obtain ⟨rfl, hIx2_, hFx3_, px4_⟩ := px4_
    have hFx5_ : ai_fr (sx_W vw_335) S0_ Sx1_ := ai_fr_tr hF_ (fr_le hFx3_ rfl)
    have g69_ : rg b_ n_ T_ (pb (pb (pb (z_va b_ n_ A_ M_ c_ p_) z_vw) (z_vs b_ n_)) fun a_ => .inr a_.2) Sx1_ := rg_pb px4_ (fun a_ _ => by unfold z_vs; rw [pb_as]; exact pb_id.symm)
    have re69_ : ∀ m_, m_ ≤ M_ → re1 b_ n_ T_ A_ m_ Sx1_ := fun m_ hm_ => re1_fr (re66_ m_ hm_) hFx3_ rfl rfl rfl rfl rfl rfl
    have rs69_ : ∀ m_, m_ ≤ M_ → rs1 A_ m_ Sx1_ := fun m_ hm_ => rs1_fr (rs66_ m_ hm_) hFx3_ rfl rfl rfl rfl
    have hIx6_ : gi (sm_pI Sx1_ 13 0 25 tk_) := gi_pI hIx2_ (show 0 ≤ tk_ ∧ tk_ ≤ 1280 from ⟨by omega, by omega⟩)
    have hFx7_ : ai_fr (sx_W vw_335) S0_ (sm_pI Sx1_ 13 0 25 tk_) := ai_fr_tr hFx5_ (ai_fr_pI rfl)
    have hIx8_ : gi (sm_pI (sm_pI Sx1_ 13 0 25 tk_) 13 0 26 w_) := gi_pI hIx6_ (show (-2147483648) ≤ w_ ∧ w_ ≤ 2147483647 from ⟨by omega, by omega⟩)
    have hFx9_ : ai_fr (sx_W vw_335) S0_ (sm_pI (sm_pI Sx1_ 13 0 25 tk_) 13 0 26 w_) := ai_fr_tr hFx7_ (ai_fr_pI rfl)
    refine sm_T_go 10 (c1 := (87, [some (.inr (.inr (some (13, 0)))), some (.inl m_), some (.inl so_), some (.inl tk_), some (.inl w_), none], [.inl 0, .inl so_, .inl m_, .inr (.inr (some (13, 0)))], sm_pI (sm_pI Sx1_ 13 0 25 tk_) 13 0 26 w_)) rfl ?_
    refine sm_T_cal (d1 := 1) (Q1 := vq_308 m_ so_ 0 b_ n_ T_ (pb (pb (pb (z_va b_ n_ A_ M_ c_ p_) z_vw) (z_vs b_ n_)) fun a_ => .inr a_.2) A_ M_ cs_ (sm_pI (sm_pI Sx1_ 13 0 25 tk_) 13 0 26 w_)) rfl rfl (by decide) (vc_308 m_ so_ 0 b_ n_ T_ (pb (pb (pb (z_va b_ n_ A_ M_ c_ p_) z_vw) (z_vs b_ n_)) fun a_ => .inr a_.2) A_ M_ cs_ (sm_pI (sm_pI Sx1_ 13 0 25 tk_) 13 0 26 w_) hIx8_ (by exact hIx8_) (by exact rg_fr (w_ := ([(13, 25), (13, 26)], [], [])) g69_ (ai_fr_tr (ai_fr_pI rfl) (ai_fr_pI rfl)) rfl rfl rfl) (by exact hmm_) (by exact ⟨by unfold r_s2; rw [if_pos (by omega)]; omega, by omega, by omega, by omega⟩) (by (intro p9_ hp9_; obtain ⟨a_, h1_, h2_⟩ := pb_inr hp9_; obtain ⟨a2_, h3_, h4_⟩ := pb_inr h1_; obtain ⟨a3_, h5_, h6_⟩ := pb_inr h3_; obtain ⟨a4_, h7_, h8_⟩ := pb_inr h5_; have k1_ := z_wi_ok le0_.1 hk_ h7_; have k2_ := (tw_ a4_ h7_).2; have k3_ := k1_.2.1; have k4_ := k1_.2.2.2.2.2; exact ⟨hA_, fun m_ hm_ => re1_fr (w_ := ([(13, 25), (13, 26)], [], [])) (re69_ m_ hm_) (ai_fr_tr (ai_fr_pI rfl) (ai_fr_pI rfl)) rfl rfl rfl rfl rfl rfl, fun m_ hm_ => rs1_fr (w_ := ([(13, 25), (13, 26)], [], [])) (rs69_ m_ hm_) (ai_fr_tr (ai_fr_pI rfl) (ai_fr_pI rfl)) rfl rfl rfl rfl, by omega, by show 0 ≤ w_ ∧ w_ ≤ 8; omega, by decide, fun z_ => by omega⟩))) (fun u_ Sx10_ px13_ => ?_)
    obtain ⟨rfl, hIx11_, hFx12_, px13_⟩ := px13_
    have hFx14_ : ai_fr (sx_W vw_335) S0_ Sx10_ := ai_fr_tr hFx9_ (fr_le hFx12_ rfl)
    have e87_ := px13_
    refine sm_T_rv rfl ⟨_, _, rfl, rfl, hIx11_, hFx14_, ?_⟩
    refine ⟨?_, fun r_ hr_ => ?_⟩
    · rw [va_eq, pb_as]; exact e87_.1
    · have k_ := va_ok hn1_ hA_ (by omega) le0_.1 hk_ hc_ hr_
      rw [va_eq] at hr_
      obtain ⟨a_, h1_, h2_⟩ := pb_inr hr_
      cases h2_
      obtain ⟨a2_, h3_, h4_⟩ := pb_inr h1_
      obtain ⟨a3_, h5_, h6_⟩ := pb_inr h3_
      have k5_ := tw_ _ (zvx_ a3_ h5_)
      have q1_ : a3_ = a2_ := by unfold z_vw at h6_; split at h6_; (cases h6_; rfl); (cases h6_)
      subst q1_
      have q2_ : a3_ = a_.1 := by unfold z_vs at h4_; obtain ⟨y_, h8_, h9_⟩ := pb_inr h4_; cases h9_; rfl
      subst q2_
      have e_ := e87_.2 a_.2 a_.1.1.1 (by rw [h1_]; rfl) k5_.1
      have e_ : (∀ m_, m_ ≤ M_ → re1 b_ n_ T_ (a_te A_ M_ a_.1.1.1 cs_ w_ 0) m_ _) ∧ (∀ m_, m_ ≤ M_ → rs1 (a_te A_ M_ a_.1.1.1 cs_ w_ 0) m_ _) := e_
      rw [k5_.2] at e_
      exact ⟨k_.1, e_.1, e_.2, k_.2.1⟩
set_option maxHeartbeats 1500000 in
theorem vc_335 {sc_ : Nat × (Nat → Int)} (m_ : Int) (so_ : Int) (b_ : Nat → Int) (n_ : Nat) (T_ : Nat) (A_ : pA) (M_ : Nat) (c_ : List Int) (p_ : Nat) (cs_ : Int) (S0_ : sm_S) (hI_ : gi S0_) (ht_ : rtab b_ n_ T_ S0_) (hx_ : rg b_ n_ T_ (.inr p_) S0_) (hk_ : lx_kd b_ n_ p_ ≠ 0) (hmo_ : (S0_.1 13 0 27) = 0) (hmm_ : m_ = (M_ : Int) ∧ M_ ≤ 15) (hmd_ : (S0_.1 13 0 28) = (M_ : Int)) (hA_ : a_ok b_ n_ A_ M_) (hre_ : ∀ m_, m_ ≤ M_ → re1 b_ n_ T_ A_ m_ S0_) (hrs_ : ∀ m_, m_ ≤ M_ → rs1 A_ m_ S0_) (hc_ : c_.length ≤ 3 * p_) (hcs_ : so_ = cs_ + 1 ∧ 1 ≤ cs_ ∧ cs_ ≤ 2) : sm_T (mt_P sc_) 8 335 (0, [some (.inr (.inr (some (13, 0)))), some (.inl m_), some (.inl so_), none, none, none], [], S0_) (fun r_ => ∃ u_ S1_, r_ = (.inl u_, S1_, 0) ∧ vq_335 m_ so_ b_ n_ T_ A_ M_ c_ p_ cs_ S0_ u_ S1_) := by
  have hF_ : ai_fr (sx_W vw_335) S0_ S0_ := ai_fr_rf
  have le0_ := rg_le ht_ hx_
  have hn1_ := ht_.1
  have hAM_ := (hA_.2 M_ (Nat.le_refl M_)).1
  refine sm_T_go 1 (c1 := (1, [some (.inr (.inr (some (13, 0)))), some (.inl m_), some (.inl so_), none, none, none], [.inr (.inr (some (13, 0)))], S0_)) rfl ?_
  refine sm_T_cal (d1 := 2) (Q1 := vq_297 b_ n_ T_ (.inr p_) S0_) rfl rfl (by decide) (vc_297 b_ n_ T_ (.inr p_) S0_ hI_ (by exact ht_) (by exact hx_) (by (intro q_ e_; cases e_; exact hk_))) (fun u_ Sx1_ px4_ => ?_)
  obtain ⟨rfl, hIx2_, hFx3_, px4_⟩ := px4_
  have hFx5_ : ai_fr (sx_W vw_335) S0_ Sx1_ := ai_fr_tr hF_ (fr_le hFx3_ rfl)
  have t1_ := rtab_fr ht_ hFx3_ rfl rfl rfl rfl rfl
  have re1x : ∀ m_, m_ ≤ M_ → re1 b_ n_ T_ A_ m_ Sx1_ := fun m_ hm_ => re1_fr (hre_ m_ hm_) hFx3_ rfl rfl rfl rfl rfl rfl
  have rs1x : ∀ m_, m_ ≤ M_ → rs1 A_ m_ Sx1_ := fun m_ hm_ => rs1_fr (hrs_ m_ hm_) hFx3_ rfl rfl rfl rfl
  have mo1_ := (hFx3_.1 13 0 27 rfl).trans hmo_
  have md1_ := (hFx3_.1 13 0 28 rfl).trans hmd_
  have g1_ : rg b_ n_ T_ (p_ad b_ n_ p_) Sx1_ := px4_.1
  refine sm_T_go 2 (c1 := (6, [some (.inr (.inr (some (13, 0)))), some (.inl m_), some (.inl so_), none, none, none], [.inl m_, .inr (.inr (some (13, 0)))], Sx1_)) rfl ?_
  refine sm_T_cal (d1 := 3) (Q1 := vq_306 m_ b_ n_ T_ (p_ad b_ n_ p_) A_ M_ Sx1_) rfl rfl (by decide) (vc_306 m_ b_ n_ T_ (p_ad b_ n_ p_) A_ M_ Sx1_ hIx2_ (by exact t1_) (by exact g1_) (by exact hmm_) (by exact re1x M_ (Nat.le_refl M_)) (by exact hAM_)) (fun u_ Sx6_ px9_ => ?_)
  obtain ⟨rfl, hIx7_, hFx8_, px9_⟩ := px9_
  have hFx10_ : ai_fr (sx_W vw_335) S0_ Sx6_ := ai_fr_tr hFx5_ (fr_le hFx8_ rfl)
  have t6_ := rtab_fr t1_ hFx8_ rfl rfl rfl rfl rfl
  have re6_ : ∀ m_, m_ ≤ M_ → re1 b_ n_ T_ A_ m_ Sx6_ := fun m_ hm_ => re1_fr (re1x m_ hm_) hFx8_ rfl rfl rfl rfl rfl rfl
  have rs6_ : ∀ m_, m_ ≤ M_ → rs1 A_ m_ Sx6_ := fun m_ hm_ => rs1_fr (rs1x m_ hm_) hFx8_ rfl rfl rfl rfl
  have mo6_ := (hFx8_.1 13 0 27 rfl).trans mo1_
  have md6_ := (hFx8_.1 13 0 28 rfl).trans md1_
  have g6_ : rg b_ n_ T_ (pb (z_nw b_ n_ A_ M_ p_) fun a_ => .inr a_.2) Sx6_ := rg_pb (z_ := p_ad b_ n_ p_) (ps_ := fun a_ => a_) (g_ := p_nw b_ n_ A_ M_) (by rw [pb_id]; exact px9_.1) (fun a_ _ => by rw [pb_as]; exact pb_id.symm)
  have tk6_ : ∀ a_, z_nw b_ n_ A_ M_ p_ = .inr a_ → rtk b_ n_ T_ (Sx6_.1 13 0 25) a_.1 := fun a_ ha_ => by obtain ⟨q_, h1_, h2_⟩ := pb_inr ha_; obtain ⟨r_, h3_, h4_⟩ := pb_inr h2_; cases h4_; exact px9_.2 q_ r_ h1_ h3_
  refine sm_T_go 1 (c1 := (10, [some (.inr (.inr (some (13, 0)))), some (.inl m_), some (.inl so_), none, none, none], [.inr (.inr (some (13, 0)))], Sx6_)) rfl ?_
  refine sm_T_cal (d1 := 3) (Q1 := vq_307 b_ n_ T_ (pb (z_nw b_ n_ A_ M_ p_) fun a_ => .inr a_.2) Sx6_) rfl rfl (by decide) (vc_307 b_ n_ T_ (pb (z_nw b_ n_ A_ M_ p_) fun a_ => .inr a_.2) Sx6_ hIx7_ (by exact t6_) (by exact g6_)) (fun u_ Sx11_ px14_ => ?_)
  obtain ⟨rfl, hIx12_, hFx13_, px14_⟩ := px14_
  have hFx15_ : ai_fr (sx_W vw_335) S0_ Sx11_ := ai_fr_tr hFx10_ (fr_le hFx13_ rfl)
  have t10_ := rtab_fr t6_ hFx13_ rfl rfl rfl rfl rfl
  have re10_ : ∀ m_, m_ ≤ M_ → re1 b_ n_ T_ A_ m_ Sx11_ := fun m_ hm_ => re1_fr (re6_ m_ hm_) hFx13_ rfl rfl rfl rfl rfl rfl
  have rs10_ : ∀ m_, m_ ≤ M_ → rs1 A_ m_ Sx11_ := fun m_ hm_ => rs1_fr (rs6_ m_ hm_) hFx13_ rfl rfl rfl rfl
  have mo10_ := (hFx13_.1 13 0 27 rfl).trans mo6_
  have md10_ := (hFx13_.1 13 0 28 rfl).trans md6_
  have g10_ : rg b_ n_ T_ (pb (z_wi b_ n_ A_ M_ p_) fun a_ => .inr a_.2.1) Sx11_ := rg_pb px14_.1 (fun a_ _ => by unfold p_w1; rw [pb_as]; rfl)
  have tk10_ : ∀ a_, z_wi b_ n_ A_ M_ p_ = .inr a_ → rtk b_ n_ T_ (Sx11_.1 13 0 25) a_.1 := fun a_ ha_ => by rw [hFx13_.1 13 0 25 rfl]; obtain ⟨q_, h1_, h2_⟩ := pb_inr ha_; obtain ⟨r_, h3_, h4_⟩ := pb_inr h2_; cases h4_; exact tk6_ q_ h1_
  have wd10_ : ∀ a_, z_wi b_ n_ A_ M_ p_ = .inr a_ → Sx11_.1 13 0 26 = a_.2.2 := fun a_ ha_ => by obtain ⟨q_, h1_, h2_⟩ := pb_inr ha_; obtain ⟨r_, h3_, h4_⟩ := pb_inr h2_; cases h4_; exact px14_.2 q_.2 r_ (by rw [h1_]; rfl) h3_
  have pl10_ : ∀ a_, z_wi b_ n_ A_ M_ p_ = .inr a_ → Sx11_.2.2.1 120 0 (Sx11_.1 13 0 9).toNat = (a_.2.1 : Int) := fun a_ ha_ => (rg_le t10_ (rg_at g10_ ha_)).2.2
  have bx16_ : 0 ≤ Sx11_.1 13 0 25 ∧ Sx11_.1 13 0 25 ≤ 1280 := hIx12_.1 13 0 25 rfl
  have bx17_ : (-2147483648) ≤ Sx11_.1 13 0 26 ∧ Sx11_.1 13 0 26 ≤ 2147483647 := hIx12_.1 13 0 26 rfl
  have bx18_ : 0 ≤ Sx11_.1 13 0 9 ∧ Sx11_.1 13 0 9 ≤ 1280 := hIx12_.1 13 0 9 rfl
  refine sm_T_go 11 (c1 := (33, [some (.inr (.inr (some (13, 0)))), some (.inl m_), some (.inl so_), some (.inl (Sx11_.1 13 0 25)), some (.inl (Sx11_.1 13 0 26)), some (.inl (Sx11_.1 13 0 9))], [.inl 61, .inr (.inr (some (13, 0)))], Sx11_)) rfl ?_
  refine sm_T_cal (d1 := 3) (Q1 := vq_300 61 b_ n_ T_ (pb (z_wi b_ n_ A_ M_ p_) fun a_ => .inr a_.2.1) Sx11_) rfl rfl (by decide) (vc_300 61 b_ n_ T_ (pb (z_wi b_ n_ A_ M_ p_) fun a_ => .inr a_.2.1) Sx11_ hIx12_ (by exact t10_) (by exact g10_) (by decide)) (fun u_ Sx19_ px22_ => ?_)
  obtain ⟨rfl, hIx20_, hFx21_, px22_⟩ := px22_
  have hFx23_ : ai_fr (sx_W vw_335) S0_ Sx19_ := ai_fr_tr hFx15_ (fr_le hFx21_ rfl)
  have ex24_ : Sx19_.1 13 0 25 = Sx11_.1 13 0 25 := hFx21_.1 13 0 25 rfl
  have ex25_ : Sx19_.1 13 0 26 = Sx11_.1 13 0 26 := hFx21_.1 13 0 26 rfl
  have t33_ := rtab_fr t10_ hFx21_ rfl rfl rfl rfl rfl
  have re33_ : ∀ m_, m_ ≤ M_ → re1 b_ n_ T_ A_ m_ Sx19_ := fun m_ hm_ => re1_fr (re10_ m_ hm_) hFx21_ rfl rfl rfl rfl rfl rfl
  have rs33_ : ∀ m_, m_ ≤ M_ → rs1 A_ m_ Sx19_ := fun m_ hm_ => rs1_fr (rs10_ m_ hm_) hFx21_ rfl rfl rfl rfl
  have mo33_ := (hFx21_.1 13 0 27 rfl).trans mo10_
  have md33_ := (hFx21_.1 13 0 28 rfl).trans md10_
  have g33_ : rg b_ n_ T_ (pb (pb (z_wi b_ n_ A_ M_ p_) fun a_ => pb (p_nd b_ n_ 61 a_.2.1) fun v_ => .inr (a_, v_)) fun a_ => .inr a_.2) Sx19_ := rg_pb px22_ (fun a_ _ => by rw [pb_as]; exact pb_id.symm)
  have F33_ := hFx21_
  refine sm_T_go 1 (c1 := (37, [some (.inr (.inr (some (13, 0)))), some (.inl m_), some (.inl so_), some (.inl (Sx11_.1 13 0 25)), some (.inl (Sx11_.1 13 0 26)), some (.inl (Sx11_.1 13 0 9))], [.inr (.inr (some (13, 0)))], Sx19_)) rfl ?_
  refine sm_T_cal (d1 := 7) (Q1 := vq_321 b_ n_ T_ 0 (pb (pb (z_wi b_ n_ A_ M_ p_) fun a_ => pb (p_nd b_ n_ 61 a_.2.1) fun v_ => .inr (a_, v_)) fun a_ => .inr a_.2) c_ A_ M_ 0 (fun _ => 0) Sx19_) rfl rfl (by decide) (vc_321 b_ n_ T_ 0 (pb (pb (z_wi b_ n_ A_ M_ p_) fun a_ => pb (p_nd b_ n_ 61 a_.2.1) fun v_ => .inr (a_, v_)) fun a_ => .inr a_.2) c_ A_ M_ 0 (fun _ => 0) Sx19_ hIx20_ (by exact t33_) (by exact g33_) (by exact Or.inl rfl) (by exact mo33_) (by (intro q_ hq_; obtain ⟨a_, h1_, h2_⟩ := pb_inr hq_; cases h2_; obtain ⟨a0_, h3_, h4_⟩ := pb_inr h1_; obtain ⟨v_, h5_, h6_⟩ := pb_inr h4_; cases h6_; have k1_ := z_wi_ok le0_.1 hk_ h3_; have k2_ := nd_ok k1_.2.2.2.1 (by decide) h5_; have k3_ := k1_.2.2.1; have k4_ := k2_.1; exact ⟨by show c_.length ≤ 3 * v_; omega, en_0 hA_ md33_ re33_⟩)) (by exact pm_0 hA_)) (fun u_ Sx26_ px29_ => ?_)
  obtain ⟨rfl, hIx27_, hFx28_, px29_⟩ := px29_
  have hFx30_ : ai_fr (sx_W vw_335) S0_ Sx26_ := ai_fr_tr hFx23_ (fr_le hFx28_ rfl)
  have t37_ := rtab_fr t33_ hFx28_ rfl rfl rfl rfl rfl
  have re37_ : ∀ m_, m_ ≤ M_ → re1 b_ n_ T_ A_ m_ Sx26_ := fun m_ hm_ => re1_fr (re33_ m_ hm_) hFx28_ rfl rfl rfl rfl rfl rfl
  have rs37_ : ∀ m_, m_ ≤ M_ → rs1 A_ m_ Sx26_ := fun m_ hm_ => rs1_fr (rs33_ m_ hm_) hFx28_ rfl rfl rfl rfl
  have mo37_ := (hFx28_.1 13 0 27 rfl).trans mo33_
  have md37_ := (hFx28_.1 13 0 28 rfl).trans md33_
  have g37_ : rg b_ n_ T_ (pb (z_va b_ n_ A_ M_ c_ p_) fun a_ => .inr a_.2.1) Sx26_ := by have z_ := px29_.1; simp only [pb_as, pb_ir, xd_0] at z_; unfold z_va; simp only [pb_as, pb_ir]; exact z_
  have v37_ : ∀ a_, z_va b_ n_ A_ M_ c_ p_ = .inr a_ → Sx26_.2.2.1 138 0 (0 : Int).toNat = h_tp a_.2.2.1 := fun a_ ha_ => by obtain ⟨a0_, h1_, h2_⟩ := pb_inr ha_; obtain ⟨v_, h3_, h4_⟩ := pb_inr h2_; obtain ⟨r_, h5_, h6_⟩ := pb_inr h4_; cases h6_; have k_ := px29_.2 r_ (by rw [h1_]; simp only [pb_as, pb_ir]; rw [h3_]; simp only [pb_ir]; rw [xd_0]; exact h5_); exact vs_1 k_.1 k_.2
  have zv_ : ∀ a_, z_va b_ n_ A_ M_ c_ p_ = .inr a_ → z_wi b_ n_ A_ M_ p_ = .inr a_.1 := fun a_ ha_ => by obtain ⟨a0_, h1_, h2_⟩ := pb_inr ha_; obtain ⟨v_, h3_, h4_⟩ := pb_inr h2_; obtain ⟨r_, h5_, h6_⟩ := pb_inr h4_; cases h6_; exact h1_
  have F37_ := hFx28_
  refine sm_T_go 1 (c1 := (41, [some (.inr (.inr (some (13, 0)))), some (.inl m_), some (.inl so_), some (.inl (Sx11_.1 13 0 25)), some (.inl (Sx11_.1 13 0 26)), some (.inl (Sx11_.1 13 0 9))], [.inr (.inr (some (13, 0)))], Sx26_)) rfl ?_
  refine sm_T_cal (d1 := 0) (Q1 := vq_292  Sx26_) rfl rfl (by decide) (vc_292  Sx26_ hIx27_ ) (fun u_ Sx31_ px34_ => ?_)
  obtain ⟨rfl, vx36_, rfl, px34_⟩ := px34_
  have e41_ := px34_
  refine sm_T_b0 (a := 0) (z := 22) rfl (fun cx37_ => ?_) (fun cx37_ => ?_)
  · have cx37_ : vx36_ = 0 := of_decide_eq_true cx37_
    have hz_ := wr_if e41_ (by omega)
    obtain ⟨e5_, he5_⟩ := rg_wr g37_ hz_
    have g6x : rg b_ n_ T_ (pb (pb (z_va b_ n_ A_ M_ c_ p_) z_vw) fun a_ => .inr a_.2.1) _ := rg_ok g37_ (fun a_ ha_ => by rw [he5_] at ha_; cases ha_)
    refine sm_T_go 0 (c1 := (66, [some (.inr (.inr (some (13, 0)))), some (.inl m_), some (.inl so_), some (.inl (Sx11_.1 13 0 25)), some (.inl (Sx11_.1 13 0 26)), some (.inl (Sx11_.1 13 0 9))], [], Sx26_)) rfl ?_
    refine sm_T_wk [some (.inr (.inr (some (13, 0)))), some (.inl m_), some (.inl so_), some (.inl (Sx11_.1 13 0 25)), some (.inl (Sx11_.1 13 0 26)), none] (by exact ⟨rfl, rfl, rfl, rfl, rfl, trivial⟩) ?_
    refine (vl_335 m_ so_ b_ n_ T_ A_ M_ c_ p_ cs_ S0_ ht_ hx_ hk_ hmo_ hmm_ hmd_ hA_ hre_ hrs_ hc_ hcs_ _) (Sx11_.1 13 0 25) (Sx11_.1 13 0 26) Sx26_ hIx27_ hFx30_ ⟨?_, ?_, ?_, ?_, ?_, trivial⟩ (Nat.lt_succ_self _)
    · exact g6x
    · first | exact re63_ | exact re37_
    · first | exact rs63_ | exact rs37_
    · exact fun a_ ha_ => ⟨tk10_ a_ ha_, wd10_ a_ ha_⟩
    · omega
  · have cx37_ : ¬ (vx36_ = 0) := of_decide_eq_false cx37_
    have hz_ := rt_if e41_ (by omega)
    obtain ⟨a5_, ha5_⟩ := rg_rt g37_ hz_
    have v5_ := v37_ a5_ ha5_
    have w5_ := wd10_ _ (zv_ a5_ ha5_)
    refine sm_T_go 3 (c1 := (52, [some (.inr (.inr (some (13, 0)))), some (.inl m_), some (.inl so_), some (.inl (Sx11_.1 13 0 25)), some (.inl (Sx11_.1 13 0 26)), some (.inl (Sx11_.1 13 0 9))], [.inl 0, .inr (.inr (some (138, 0)))], Sx26_)) rfl ?_
    refine sm_T_iald (n := 1024) rfl rfl (by omega) (by omega) ?_
    have bx38_ : (-2147483648) ≤ Sx26_.2.2.1 138 0 (0 : Int).toNat ∧ Sx26_.2.2.1 138 0 (0 : Int).toNat ≤ 2147483647 := hIx27_.2 138 0 _
    refine sm_T_go 1 (c1 := (55, [some (.inr (.inr (some (13, 0)))), some (.inl m_), some (.inl so_), some (.inl (Sx11_.1 13 0 25)), some (.inl (Sx11_.1 13 0 26)), some (.inl (Sx11_.1 13 0 9))], [.inl (Sx11_.1 13 0 26), .inl (Sx26_.2.2.1 138 0 (0 : Int).toNat)], Sx26_)) rfl ?_
    refine sm_T_br (a := 0) (z := 11) rfl (fun cx39_ => ?_) (fun cx39_ => ?_)
    · have cx39_ : (Sx26_.2.2.1 138 0 (0 : Int).toNat) = (Sx11_.1 13 0 26) := of_decide_eq_true cx39_
      have g6x : rg b_ n_ T_ (pb (pb (z_va b_ n_ A_ M_ c_ p_) z_vw) fun a_ => .inr a_.2.1) _ := rg_ok g37_ (fun a_ ha_ => by rw [ha5_] at ha_; cases ha_; unfold z_vw; rw [if_pos (by omega)])
      refine sm_T_go 0 (c1 := (66, [some (.inr (.inr (some (13, 0)))), some (.inl m_), some (.inl so_), some (.inl (Sx11_.1 13 0 25)), some (.inl (Sx11_.1 13 0 26)), some (.inl (Sx11_.1 13 0 9))], [], Sx26_)) rfl ?_
      refine sm_T_wk [some (.inr (.inr (some (13, 0)))), some (.inl m_), some (.inl so_), some (.inl (Sx11_.1 13 0 25)), some (.inl (Sx11_.1 13 0 26)), none] (by exact ⟨rfl, rfl, rfl, rfl, rfl, trivial⟩) ?_
      refine (vl_335 m_ so_ b_ n_ T_ A_ M_ c_ p_ cs_ S0_ ht_ hx_ hk_ hmo_ hmm_ hmd_ hA_ hre_ hrs_ hc_ hcs_ _) (Sx11_.1 13 0 25) (Sx11_.1 13 0 26) Sx26_ hIx27_ hFx30_ ⟨?_, ?_, ?_, ?_, ?_, trivial⟩ (Nat.lt_succ_self _)
      · exact g6x
      · first | exact re63_ | exact re37_
      · first | exact rs63_ | exact rs37_
      · exact fun a_ ha_ => ⟨tk10_ a_ ha_, wd10_ a_ ha_⟩
      · omega
    · have cx39_ : ¬ ((Sx26_.2.2.1 138 0 (0 : Int).toNat) = (Sx11_.1 13 0 26)) := of_decide_eq_false cx39_
      refine sm_T_go 3 (c1 := (63, [some (.inr (.inr (some (13, 0)))), some (.inl m_), some (.inl so_), some (.inl (Sx11_.1 13 0 25)), some (.inl (Sx11_.1 13 0 26)), some (.inl (Sx11_.1 13 0 9))], [.inl (Sx11_.1 13 0 9), .inl 13, .inr (.inr (some (13, 0)))], Sx26_)) rfl ?_
      refine sm_T_cal (d1 := 0) (Q1 := vq_294 13 (Sx11_.1 13 0 9) Sx26_) rfl rfl (by decide) (vc_294 13 (Sx11_.1 13 0 9) Sx26_ hIx27_ (by decide) (by omega)) (fun u_ Sx40_ px43_ => ?_)
      obtain ⟨rfl, hIx41_, hFx42_, px43_⟩ := px43_
      have hFx44_ : ai_fr (sx_W vw_335) S0_ Sx40_ := ai_fr_tr hFx30_ (fr_le hFx42_ rfl)
      have g6x : rg b_ n_ T_ (pb (pb (z_va b_ n_ A_ M_ c_ p_) z_vw) fun a_ => .inr a_.2.1) Sx40_ := rg_fb (fl_ := 13) (pl_ := a5_.1.2.1) g37_ hz_ (fun a_ ha_ => by rw [ha5_] at ha_; cases ha_; unfold z_vw; rw [if_neg (by omega)]) (by decide) (by rcases px43_ with w9_ | w9_; (exact Or.inl w9_); (refine Or.inr ⟨w9_.1, w9_.2.1, w9_.2.2.trans ?_⟩; have q9_ := pl10_ _ (zv_ a5_ ha5_); rw [fr_arr (t := 120) (i := 0) F37_ rfl, fr_arr (t := 120) (i := 0) F33_ rfl]; exact q9_))
      have re63_ : ∀ m_, m_ ≤ M_ → re1 b_ n_ T_ A_ m_ Sx40_ := fun m_ hm_ => re1_fr (re37_ m_ hm_) hFx42_ rfl rfl rfl rfl rfl rfl
      have rs63_ : ∀ m_, m_ ≤ M_ → rs1 A_ m_ Sx40_ := fun m_ hm_ => rs1_fr (rs37_ m_ hm_) hFx42_ rfl rfl rfl rfl
      refine sm_T_go 0 (c1 := (66, [some (.inr (.inr (some (13, 0)))), some (.inl m_), some (.inl so_), some (.inl (Sx11_.1 13 0 25)), some (.inl (Sx11_.1 13 0 26)), some (.inl (Sx11_.1 13 0 9))], [], Sx40_)) rfl ?_
      refine sm_T_wk [some (.inr (.inr (some (13, 0)))), some (.inl m_), some (.inl so_), some (.inl (Sx11_.1 13 0 25)), some (.inl (Sx11_.1 13 0 26)), none] (by exact ⟨rfl, rfl, rfl, rfl, rfl, trivial⟩) ?_
      refine (vl_335 m_ so_ b_ n_ T_ A_ M_ c_ p_ cs_ S0_ ht_ hx_ hk_ hmo_ hmm_ hmd_ hA_ hre_ hrs_ hc_ hcs_ _) (Sx11_.1 13 0 25) (Sx11_.1 13 0 26) Sx40_ hIx41_ hFx44_ ⟨?_, ?_, ?_, ?_, ?_, trivial⟩ (Nat.lt_succ_self _)
      · exact g6x
      · first | exact re63_ | exact re37_
      · first | exact rs63_ | exact rs37_
      · exact fun a_ ha_ => ⟨tk10_ a_ ha_, wd10_ a_ ha_⟩
      · omega
end
/-! 99.yma -/
section
/-! the reference: registers told; written by wip/p55/gen/vg -/

/-! registers -/
theorem rb_w {b_ : Nat → Int} {n_ p_ : Nat} {w_ : Int} {e_ : Int × Nat} (hk_ : lx_kd b_ n_ p_ = 61) (h_ : pb (p_ad b_ n_ p_) (p_du b_ n_ 2) = .inl e_) : p_rb b_ n_ w_ p_ = .inl e_ := by
  unfold p_rb
  rw [if_pos hk_]
  cases h1_ : p_ad b_ n_ p_ with
  | inl z_ => rw [h1_] at h_; cases h_; rfl
  | inr q_ =>
    rw [h1_, pb_r rfl] at h_
    rw [pb_r rfl]
    unfold p_du at h_
    unfold p_nu
    split at h_
    · cases h_
    · rename_i g_
      cases h_
      rw [if_neg g_]
      rfl
theorem rb_r {b_ : Nat → Int} {n_ p_ q_ : Nat} {w_ : Int} (hk_ : lx_kd b_ n_ p_ = 61) (h_ : pb (p_ad b_ n_ p_) (p_du b_ n_ 2) = .inr q_) : lx_kd b_ n_ q_ = 2 ∧ p_rb b_ n_ w_ p_ = if lx_vl b_ n_ q_ < 0 ∨ 2 ^ w_.toNat - 1 < lx_vl b_ n_ q_ then .inl (12, q_) else pb (p_ad b_ n_ q_) fun r_ => .inr (r_, lx_vl b_ n_ q_) := by
  obtain ⟨r_, h1_, h2_⟩ := pb_inr h_
  unfold p_du at h2_
  split at h2_
  · rename_i g_
    cases h2_
    refine ⟨g_, ?_⟩
    unfold p_rb
    rw [if_pos hk_, pb_r h1_]
    unfold p_nu
    rw [if_pos g_]
    split <;> rfl
  · cases h2_
theorem rb_ok {b_ : Nat → Int} {n_ p_ : Nat} {w_ : Int} {z_ : Nat × Int} (hp_ : p_ ≤ n_) (hk_ : lx_kd b_ n_ p_ ≠ -1) (hw_ : 1 ≤ w_ ∧ w_ ≤ 8) (h_ : p_rb b_ n_ w_ p_ = .inr z_) : p_ ≤ z_.1 ∧ z_.1 ≤ n_ ∧ lx_kd b_ n_ z_.1 ≠ -1 ∧ 0 ≤ z_.2 ∧ z_.2 ≤ 255 := by
  unfold p_rb at h_
  split at h_
  · obtain ⟨q_, h1_, h_⟩ := pb_inr h_
    obtain ⟨x_, h2_, h_⟩ := pb_inr h_
    obtain ⟨r_, h3_, h_⟩ := pb_inr h_
    cases h_
    have k1_ := p_ad_ok hp_ (by omega) h1_
    have k2_ := p_nu_ok h2_
    have k3_ := p_ad_ok k1_.2.2.1 (by omega) h3_
    have k4_ := pw_8 w_.toNat (by omega)
    exact ⟨by show p_ ≤ r_; omega, k3_.2.2.1, k3_.2.2.2, k2_.2.2.1, by show x_ ≤ 255; omega⟩
  · cases h_
    exact ⟨Nat.le_refl _, hp_, hk_, by show (0 : Int) ≤ 0; decide, by show (0 : Int) ≤ 255; decide⟩
abbrev pG : Type := (Nat × Nat × Int) × (Nat × Int)
def z_rb (b_ : Nat → Int) (n_ : Nat) (a_ : Nat × Nat × Int) : pE pG := pb (p_rb b_ n_ a_.2.2 a_.2.1) fun z_ => .inr (a_, z_)
def z_re (b_ : Nat → Int) (n_ : Nat) (A_ : pA) (M_ p_ : Nat) : pE pG := pb (z_wi b_ n_ A_ M_ p_) (z_rb b_ n_)
def z_rs (b_ : Nat → Int) (n_ : Nat) (a_ : pG) : pE (pG × Nat) := pb (p_nd b_ n_ 59 a_.2.1) fun y_ => .inr (a_, y_)
def k_re (A_ : pA) (M_ : Nat) (c_ : List Int) (a_ : pG × Nat) : pT := (a_te A_ M_ a_.1.1.1 3 a_.1.1.2.2 a_.1.2.2, cw 13 (A_.1 M_) 0 :: c_, a_.2)
theorem re_eq {b_ : Nat → Int} {n_ M_ p_ : Nat} {A_ : pA} {c_ : List Int} : p_re b_ n_ A_ M_ c_ p_ = pb (pb (z_re b_ n_ A_ M_ p_) (z_rs b_ n_)) fun a_ => .inr (k_re A_ M_ c_ a_) := by
  unfold p_re z_re z_wi z_nw
  simp only [pb_as, pb_ir]
  refine congrArg (pb (p_ad b_ n_ p_)) (funext fun q_ => congrArg (pb _) (funext fun r_ => congrArg (pb _) (funext fun u_ => ?_)))
  unfold z_rb
  rw [pb_as]
  refine congrArg (pb _) (funext fun z_ => ?_)
  show _ = pb (z_rs b_ n_ ((q_, u_), z_)) _
  unfold z_rs
  rw [pb_as]
  rfl
theorem re_ok {b_ : Nat → Int} {n_ M_ p_ : Nat} {A_ : pA} {c_ : List Int} {r_ : pT} (hA_ : a_ok b_ n_ A_ M_) (hp_ : p_ ≤ n_) (hk_ : lx_kd b_ n_ p_ ≠ 0) (hc_ : c_.length ≤ 3 * p_) (h_ : p_re b_ n_ A_ M_ c_ p_ = .inr r_) : a_ok b_ n_ r_.1 M_ ∧ r_.2.1.length ≤ 3 * r_.2.2 ∧ p_ < r_.2.2 := by
  rw [re_eq] at h_
  obtain ⟨a_, h1_, h_⟩ := pb_inr h_
  cases h_
  obtain ⟨a1_, h2_, h1_⟩ := pb_inr h1_
  obtain ⟨a0_, h3_, h2_⟩ := pb_inr h2_
  obtain ⟨z_, h4_, h2_⟩ := pb_inr h2_
  cases h2_
  obtain ⟨y_, h5_, h1_⟩ := pb_inr h1_
  cases h1_
  have k1_ := z_wi_ok hp_ hk_ h3_
  have k2_ := rb_ok k1_.2.2.2.1 k1_.2.2.2.2.1 k1_.2.2.2.2.2 h4_
  have k3_ := nd_ok k2_.2.1 (by decide) h5_
  have k5_ := (hA_.2 M_ (Nat.le_refl M_)).1
  have k6_ := k1_.2.1
  have k7_ : z_.1 < y_ := k3_.1
  have k8_ := k1_.2.2.1
  have k9_ := k2_.1
  refine ⟨a_te_ok hA_ (by omega) k1_.1 (by decide) ⟨by have := k1_.2.2.2.2.2.1; show (0 : Int) ≤ a0_.2.2; omega, k1_.2.2.2.2.2.2⟩ (fun _ => k1_.2.2.2.2.2.1) (fun z_ => absurd z_ (by decide)) k2_.2.2.2, ?_, ?_⟩
  · show c_.length + 1 ≤ 3 * y_
    omega
  · show p_ < y_
    omega
theorem rg_il {α β : Type} {b_ : Nat → Int} {n_ T_ : Nat} {z_ : pE α} {f_ : α → pE β} {ps_ : α → Nat} {pt_ : β → Nat} {e_ : Int × Nat} {S_ : sm_S} (h_ : rg b_ n_ T_ (pb z_ fun a_ => .inr (ps_ a_)) S_) (he_ : z_ = .inl e_) : rg b_ n_ T_ (pb (pb z_ f_) fun r_ => .inr (pt_ r_)) S_ := by
  subst he_
  exact h_
theorem rg_st {α β : Type} {b_ : Nat → Int} {n_ T_ : Nat} {z_ : pE α} {f_ : α → pE β} {pt_ : β → Nat} {a_ : α} {x_ : pE Nat} {S_ : sm_S} (h_ : rg b_ n_ T_ x_ S_) (ha_ : z_ = .inr a_) (hf_ : (pb (f_ a_) fun r_ => .inr (pt_ r_)) = x_) : rg b_ n_ T_ (pb (pb z_ f_) fun r_ => .inr (pt_ r_)) S_ := by
  subst ha_
  show rg b_ n_ T_ (pb (f_ a_) fun r_ => .inr (pt_ r_)) S_
  rw [hf_]
  exact h_
end
/-! 99.ymb -/
section
/-! M_.tellRegister -/
def vw_336 : sx_Wl := ([(13, 9), (13, 10), (13, 11), (13, 25), (13, 26), (13, 32), (13, 33), (13, 34)], [126, 127, 128, 129, 130, 131, 132, 133, 134, 135, 136, 137, 138, 139], [])
def vq_336 (m_ : Int) (b_ : Nat → Int) (n_ : Nat) (T_ : Nat) (A_ : pA) (M_ : Nat) (c_ : List Int) (p_ : Nat) (S0_ : sm_S) (u_ : Option sm_V) (S1_ : sm_S) : Prop := u_ = none ∧ gi S1_ ∧ ai_fr (sx_W vw_336) S0_ S1_ ∧ (rm b_ n_ T_ M_ (p_re b_ n_ A_ M_ c_ p_) S1_)
set_option maxHeartbeats 1500000 in
theorem vl_336 {sc_ : Nat × (Nat → Int)} (m_ : Int) (b_ : Nat → Int) (n_ : Nat) (T_ : Nat) (A_ : pA) (M_ : Nat) (c_ : List Int) (p_ : Nat) (S0_ : sm_S) (ht_ : rtab b_ n_ T_ S0_) (hx_ : rg b_ n_ T_ (.inr p_) S0_) (hk_ : lx_kd b_ n_ p_ ≠ 0) (hmo_ : (S0_.1 13 0 27) = 0) (hmm_ : m_ = (M_ : Int) ∧ M_ ≤ 15) (hmd_ : (S0_.1 13 0 28) = (M_ : Int)) (hA_ : a_ok b_ n_ A_ M_) (hre_ : ∀ m_, m_ ≤ M_ → re1 b_ n_ T_ A_ m_ S0_) (hrs_ : ∀ m_, m_ ≤ M_ → rs1 A_ m_ S0_) (hc_ : c_.length ≤ 3 * p_) : ∀ nn_ : Nat, (∀ (val_ : Int) (S_ : sm_S), gi S_ → ai_fr (sx_W vw_336) S0_ S_ → ((rg b_ n_ T_ (pb (z_re b_ n_ A_ M_ p_) fun a_ => .inr a_.2.1) S_) ∧ (∀ m_, m_ ≤ M_ → re1 b_ n_ T_ A_ m_ S_) ∧ (∀ m_, m_ ≤ M_ → rs1 A_ m_ S_) ∧ (∀ a_, z_wi b_ n_ A_ M_ p_ = .inr a_ → rtk b_ n_ T_ (S_.1 13 0 25) a_.1 ∧ (S_.1 13 0 26) = a_.2.2) ∧ (∀ a_, (z_re b_ n_ A_ M_ p_) = .inr a_ → val_ = a_.2.2) ∧ True) → ((2 : Nat)) < nn_ → sm_T (mt_P sc_) 8 336 (76, [some (.inr (.inr (some (13, 0)))), some (.inl m_), some (.inl val_), none], [], S_) (fun r_ => ∃ u_ S1_, r_ = (.inl u_, S1_, 0) ∧ vq_336 m_ b_ n_ T_ A_ M_ c_ p_ S0_ u_ S1_)) := by
  intro nn_
  induction nn_ with
  | zero => exact fun _ _ _ _ _ h_ => absurd h_ (Nat.not_lt_zero _)
  | succ nn_ ih_ =>
    rintro val_ S_ hI_ hF_ ⟨g76_, re76_, rs76_, tw_, vl76_, -⟩ hm_
    have le0_ := rg_le ht_ hx_
    have hn1_ := ht_.1
    have hAM_ := (hA_.2 M_ (Nat.le_refl M_)).1
    have t76_ := rtab_fr ht_ hF_ rfl rfl rfl rfl rfl
    refine sm_T_go 2 (c1 := (79, [some (.inr (.inr (some (13, 0)))), some (.inl m_), some (.inl val_), none], [.inl 59, .inr (.inr (some (13, 0)))], S_)) rfl ?_
    refine sm_T_cal (d1 := 3) (Q1 := vq_300 59 b_ n_ T_ (pb (z_re b_ n_ A_ M_ p_) fun a_ => .inr a_.2.1) S_) rfl rfl (by decide) (vc_300 59 b_ n_ T_ (pb (z_re b_ n_ A_ M_ p_) fun a_ => .inr a_.2.1) S_ hI_ (by exact t76_) (by exact g76_) (by decide)) (fun u_ Sx1_ px4_ => ?_)
    obtain ⟨rfl, hIx2_, hFx3_, px4_⟩ := px4_
    have hFx5_ : ai_fr (sx_W vw_336) S0_ Sx1_ := ai_fr_tr hF_ (fr_le hFx3_ rfl)
    have g79_ : rg b_ n_ T_ (pb (pb (z_re b_ n_ A_ M_ p_) (z_rs b_ n_)) fun a_ => .inr a_.2) Sx1_ := rg_pb px4_ (fun a_ _ => by unfold z_rs; rw [pb_as]; exact pb_id.symm)
    have re79_ : ∀ m_, m_ ≤ M_ → re1 b_ n_ T_ A_ m_ Sx1_ := fun m_ hm_ => re1_fr (re76_ m_ hm_) hFx3_ rfl rfl rfl rfl rfl rfl
    have rs79_ : ∀ m_, m_ ≤ M_ → rs1 A_ m_ Sx1_ := fun m_ hm_ => rs1_fr (rs76_ m_ hm_) hFx3_ rfl rfl rfl rfl
    have tw79_ : ∀ a_, z_wi b_ n_ A_ M_ p_ = .inr a_ → rtk b_ n_ T_ (Sx1_.1 13 0 25) a_.1 ∧ Sx1_.1 13 0 26 = a_.2.2 := fun a_ ha_ => ⟨by rw [hFx3_.1 13 0 25 rfl]; exact (tw_ a_ ha_).1, (hFx3_.1 13 0 26 rfl).trans (tw_ a_ ha_).2⟩
    refine sm_T_go 4 (c1 := (86, [some (.inr (.inr (some (13, 0)))), some (.inl m_), some (.inl val_), none], [.inl val_, .inl 4, .inl m_, .inr (.inr (some (13, 0)))], Sx1_)) rfl ?_
    refine sm_T_cal (d1 := 1) (Q1 := vq_308 m_ 4 val_ b_ n_ T_ (pb (pb (z_re b_ n_ A_ M_ p_) (z_rs b_ n_)) fun a_ => .inr a_.2) A_ M_ 3 Sx1_) rfl rfl (by decide) (vc_308 m_ 4 val_ b_ n_ T_ (pb (pb (z_re b_ n_ A_ M_ p_) (z_rs b_ n_)) fun a_ => .inr a_.2) A_ M_ 3 Sx1_ hIx2_ (by exact hIx2_) (by exact g79_) (by exact hmm_) (by exact ⟨rfl, by decide, by decide, by decide⟩) (by (intro p9_ hp9_; obtain ⟨a_, h1_, h2_⟩ := pb_inr hp9_; obtain ⟨a2_, h3_, h4_⟩ := pb_inr h1_; obtain ⟨a3_, h5_, h6_⟩ := pb_inr h3_; have k1_ := z_wi_ok le0_.1 hk_ h5_; have k2_ := (tw79_ a3_ h5_).2; have k3_ := k1_.2.1; have k4_ := k1_.2.2.2.2.2; have k5_ := vl76_ a2_ h3_; unfold z_rb at h6_; obtain ⟨z_, h7_, h8_⟩ := pb_inr h6_; cases h8_; have k6_ := rb_ok k1_.2.2.2.1 k1_.2.2.2.2.1 k4_ h7_; have k7_ := k6_.2.2.2; have k5_ : val_ = z_.2 := k5_; exact ⟨hA_, re79_, rs79_, by omega, by omega, by omega, fun z_ => absurd z_ (by decide)⟩))) (fun u_ Sx6_ px9_ => ?_)
    obtain ⟨rfl, hIx7_, hFx8_, px9_⟩ := px9_
    have hFx10_ : ai_fr (sx_W vw_336) S0_ Sx6_ := ai_fr_tr hFx5_ (fr_le hFx8_ rfl)
    have e86_ := px9_
    refine sm_T_rv rfl ⟨_, _, rfl, rfl, hIx7_, hFx10_, ?_⟩
    refine ⟨?_, fun r_ hr_ => ?_⟩
    · rw [re_eq, pb_as]; exact e86_.1
    · have k_ := re_ok hA_ le0_.1 hk_ hc_ hr_
      rw [re_eq] at hr_
      obtain ⟨a_, h1_, h2_⟩ := pb_inr hr_
      cases h2_
      obtain ⟨a2_, h3_, h4_⟩ := pb_inr h1_
      obtain ⟨a3_, h5_, h6_⟩ := pb_inr h3_
      have k5_ := tw79_ _ h5_
      have k6_ := vl76_ a2_ h3_
      unfold z_rb at h6_
      obtain ⟨z_, h7_, h8_⟩ := pb_inr h6_
      cases h8_
      unfold z_rs at h4_
      obtain ⟨y_, h8_, h9_⟩ := pb_inr h4_
      cases h9_
      have e_ := e86_.2 y_ a3_.1 (by rw [h1_]; rfl) k5_.1
      rw [k5_.2, show val_ = z_.2 from k6_] at e_
      exact ⟨k_.1, e_.1, e_.2, k_.2.1⟩
set_option maxHeartbeats 1500000 in
theorem vc_336 {sc_ : Nat × (Nat → Int)} (m_ : Int) (b_ : Nat → Int) (n_ : Nat) (T_ : Nat) (A_ : pA) (M_ : Nat) (c_ : List Int) (p_ : Nat) (S0_ : sm_S) (hI_ : gi S0_) (ht_ : rtab b_ n_ T_ S0_) (hx_ : rg b_ n_ T_ (.inr p_) S0_) (hk_ : lx_kd b_ n_ p_ ≠ 0) (hmo_ : (S0_.1 13 0 27) = 0) (hmm_ : m_ = (M_ : Int) ∧ M_ ≤ 15) (hmd_ : (S0_.1 13 0 28) = (M_ : Int)) (hA_ : a_ok b_ n_ A_ M_) (hre_ : ∀ m_, m_ ≤ M_ → re1 b_ n_ T_ A_ m_ S0_) (hrs_ : ∀ m_, m_ ≤ M_ → rs1 A_ m_ S0_) (hc_ : c_.length ≤ 3 * p_) : sm_T (mt_P sc_) 8 336 (0, [some (.inr (.inr (some (13, 0)))), some (.inl m_), none, none], [], S0_) (fun r_ => ∃ u_ S1_, r_ = (.inl u_, S1_, 0) ∧ vq_336 m_ b_ n_ T_ A_ M_ c_ p_ S0_ u_ S1_) := by
  have hF_ : ai_fr (sx_W vw_336) S0_ S0_ := ai_fr_rf
  have le0_ := rg_le ht_ hx_
  have hn1_ := ht_.1
  have hAM_ := (hA_.2 M_ (Nat.le_refl M_)).1
  refine sm_T_go 1 (c1 := (1, [some (.inr (.inr (some (13, 0)))), some (.inl m_), none, none], [.inr (.inr (some (13, 0)))], S0_)) rfl ?_
  refine sm_T_cal (d1 := 2) (Q1 := vq_297 b_ n_ T_ (.inr p_) S0_) rfl rfl (by decide) (vc_297 b_ n_ T_ (.inr p_) S0_ hI_ (by exact ht_) (by exact hx_) (by (intro q_ e_; cases e_; exact hk_))) (fun u_ Sx1_ px4_ => ?_)
  obtain ⟨rfl, hIx2_, hFx3_, px4_⟩ := px4_
  have hFx5_ : ai_fr (sx_W vw_336) S0_ Sx1_ := ai_fr_tr hF_ (fr_le hFx3_ rfl)
  have t1_ := rtab_fr ht_ hFx3_ rfl rfl rfl rfl rfl
  have re1x : ∀ m_, m_ ≤ M_ → re1 b_ n_ T_ A_ m_ Sx1_ := fun m_ hm_ => re1_fr (hre_ m_ hm_) hFx3_ rfl rfl rfl rfl rfl rfl
  have rs1x : ∀ m_, m_ ≤ M_ → rs1 A_ m_ Sx1_ := fun m_ hm_ => rs1_fr (hrs_ m_ hm_) hFx3_ rfl rfl rfl rfl
  have mo1_ := (hFx3_.1 13 0 27 rfl).trans hmo_
  have md1_ := (hFx3_.1 13 0 28 rfl).trans hmd_
  have g1_ : rg b_ n_ T_ (p_ad b_ n_ p_) Sx1_ := px4_.1
  refine sm_T_go 2 (c1 := (6, [some (.inr (.inr (some (13, 0)))), some (.inl m_), none, none], [.inl m_, .inr (.inr (some (13, 0)))], Sx1_)) rfl ?_
  refine sm_T_cal (d1 := 3) (Q1 := vq_306 m_ b_ n_ T_ (p_ad b_ n_ p_) A_ M_ Sx1_) rfl rfl (by decide) (vc_306 m_ b_ n_ T_ (p_ad b_ n_ p_) A_ M_ Sx1_ hIx2_ (by exact t1_) (by exact g1_) (by exact hmm_) (by exact re1x M_ (Nat.le_refl M_)) (by exact hAM_)) (fun u_ Sx6_ px9_ => ?_)
  obtain ⟨rfl, hIx7_, hFx8_, px9_⟩ := px9_
  have hFx10_ : ai_fr (sx_W vw_336) S0_ Sx6_ := ai_fr_tr hFx5_ (fr_le hFx8_ rfl)
  have t6_ := rtab_fr t1_ hFx8_ rfl rfl rfl rfl rfl
  have re6_ : ∀ m_, m_ ≤ M_ → re1 b_ n_ T_ A_ m_ Sx6_ := fun m_ hm_ => re1_fr (re1x m_ hm_) hFx8_ rfl rfl rfl rfl rfl rfl
  have rs6_ : ∀ m_, m_ ≤ M_ → rs1 A_ m_ Sx6_ := fun m_ hm_ => rs1_fr (rs1x m_ hm_) hFx8_ rfl rfl rfl rfl
  have mo6_ := (hFx8_.1 13 0 27 rfl).trans mo1_
  have md6_ := (hFx8_.1 13 0 28 rfl).trans md1_
  have g6_ : rg b_ n_ T_ (pb (z_nw b_ n_ A_ M_ p_) fun a_ => .inr a_.2) Sx6_ := rg_pb (z_ := p_ad b_ n_ p_) (ps_ := fun a_ => a_) (g_ := p_nw b_ n_ A_ M_) (by rw [pb_id]; exact px9_.1) (fun a_ _ => by rw [pb_as]; exact pb_id.symm)
  have tk6_ : ∀ a_, z_nw b_ n_ A_ M_ p_ = .inr a_ → rtk b_ n_ T_ (Sx6_.1 13 0 25) a_.1 := fun a_ ha_ => by obtain ⟨q_, h1_, h2_⟩ := pb_inr ha_; obtain ⟨r_, h3_, h4_⟩ := pb_inr h2_; cases h4_; exact px9_.2 q_ r_ h1_ h3_
  refine sm_T_go 1 (c1 := (10, [some (.inr (.inr (some (13, 0)))), some (.inl m_), none, none], [.inr (.inr (some (13, 0)))], Sx6_)) rfl ?_
  refine sm_T_cal (d1 := 3) (Q1 := vq_307 b_ n_ T_ (pb (z_nw b_ n_ A_ M_ p_) fun a_ => .inr a_.2) Sx6_) rfl rfl (by decide) (vc_307 b_ n_ T_ (pb (z_nw b_ n_ A_ M_ p_) fun a_ => .inr a_.2) Sx6_ hIx7_ (by exact t6_) (by exact g6_)) (fun u_ Sx11_ px14_ => ?_)
  obtain ⟨rfl, hIx12_, hFx13_, px14_⟩ := px14_
  have hFx15_ : ai_fr (sx_W vw_336) S0_ Sx11_ := ai_fr_tr hFx10_ (fr_le hFx13_ rfl)
  have t10_ := rtab_fr t6_ hFx13_ rfl rfl rfl rfl rfl
  have re10_ : ∀ m_, m_ ≤ M_ → re1 b_ n_ T_ A_ m_ Sx11_ := fun m_ hm_ => re1_fr (re6_ m_ hm_) hFx13_ rfl rfl rfl rfl rfl rfl
  have rs10_ : ∀ m_, m_ ≤ M_ → rs1 A_ m_ Sx11_ := fun m_ hm_ => rs1_fr (rs6_ m_ hm_) hFx13_ rfl rfl rfl rfl
  have mo10_ := (hFx13_.1 13 0 27 rfl).trans mo6_
  have md10_ := (hFx13_.1 13 0 28 rfl).trans md6_
  have g10_ : rg b_ n_ T_ (pb (z_wi b_ n_ A_ M_ p_) fun a_ => .inr a_.2.1) Sx11_ := rg_pb px14_.1 (fun a_ _ => by unfold p_w1; rw [pb_as]; rfl)
  have tk10_ : ∀ a_, z_wi b_ n_ A_ M_ p_ = .inr a_ → rtk b_ n_ T_ (Sx11_.1 13 0 25) a_.1 := fun a_ ha_ => by rw [hFx13_.1 13 0 25 rfl]; obtain ⟨q_, h1_, h2_⟩ := pb_inr ha_; obtain ⟨r_, h3_, h4_⟩ := pb_inr h2_; cases h4_; exact tk6_ q_ h1_
  have wd10_ : ∀ a_, z_wi b_ n_ A_ M_ p_ = .inr a_ → Sx11_.1 13 0 26 = a_.2.2 := fun a_ ha_ => by obtain ⟨q_, h1_, h2_⟩ := pb_inr ha_; obtain ⟨r_, h3_, h4_⟩ := pb_inr h2_; cases h4_; exact px14_.2 q_.2 r_ (by rw [h1_]; rfl) h3_
  have pl10_ : ∀ a_, z_wi b_ n_ A_ M_ p_ = .inr a_ → Sx11_.2.2.1 120 0 (Sx11_.1 13 0 9).toNat = (a_.2.1 : Int) := fun a_ ha_ => (rg_le t10_ (rg_at g10_ ha_)).2.2
  obtain ⟨nt_, hnt_⟩ : ∃ nt_, Sx11_.1 13 0 25 = nt_ := ⟨_, rfl⟩
  obtain ⟨nw_, hnw_⟩ : ∃ nw_, Sx11_.1 13 0 26 = nw_ := ⟨_, rfl⟩
  rw [hnt_] at tk10_
  rw [hnw_] at wd10_
  refine sm_T_go 3 (c1 := (16, [some (.inr (.inr (some (13, 0)))), some (.inl m_), some (.inl 0), none], [.inr (.inr (some (13, 0)))], Sx11_)) rfl ?_
  refine sm_T_cal (d1 := 0) (Q1 := vq_292  Sx11_) rfl rfl (by decide) (vc_292  Sx11_ hIx12_ ) (fun u_ Sx16_ px19_ => ?_)
  obtain ⟨rfl, vx21_, rfl, px19_⟩ := px19_
  have e16_ := px19_
  refine sm_T_b0 (a := 0) (z := 57) rfl (fun cx22_ => ?_) (fun cx22_ => ?_)
  · have cx22_ : vx21_ = 0 := of_decide_eq_true cx22_
    have hz_ := wr_if e16_ (by omega)
    obtain ⟨e5_, he5_⟩ := rg_wr g10_ hz_
    have g76x : rg b_ n_ T_ (pb (z_re b_ n_ A_ M_ p_) fun a_ => .inr a_.2.1) _ := rg_il g10_ he5_
    have v76x : ∀ a_, (z_re b_ n_ A_ M_ p_) = .inr a_ → (0 : Int) = a_.2.2 := fun a_ ha_ => by unfold z_re at ha_; rw [he5_] at ha_; cases ha_
    refine sm_T_go 0 (c1 := (76, [some (.inr (.inr (some (13, 0)))), some (.inl m_), some (.inl 0), none], [], Sx11_)) rfl ?_
    refine (vl_336 m_ b_ n_ T_ A_ M_ c_ p_ S0_ ht_ hx_ hk_ hmo_ hmm_ hmd_ hA_ hre_ hrs_ hc_ _) 0 Sx11_ hIx12_ hFx15_ ⟨?_, ?_, ?_, ?_, ?_, trivial⟩ (Nat.lt_succ_self _)
    · exact g76x
    · first | exact re73_ | exact re10_
    · first | exact rs73_ | exact rs10_
    · first | (intro a_ ha_; rw [nt73_, nw73_]; exact ⟨tk10_ a_ ha_, wd10_ a_ ha_⟩) | (intro a_ ha_; rw [hnt_, hnw_]; exact ⟨tk10_ a_ ha_, wd10_ a_ ha_⟩)
    · first | exact v76x | (intro a_ ha_; unfold z_re at ha_; rw [ha5_] at ha_; have ha_ : z_rb b_ n_ a5_ = .inr a_ := ha_; unfold z_rb at ha_; first | (rw [cw3_] at ha_; cases ha_; done) | (rw [crv_] at ha_; first | (cases ha_; done) | (obtain ⟨z_, h1_, h2_⟩ := pb_inr ha_; obtain ⟨r_, h3_, h4_⟩ := pb_inr h1_; cases h4_; cases h2_; exact nv_.1)))
  · have cx22_ : ¬ (vx21_ = 0) := of_decide_eq_false cx22_
    have hz_ := rt_if e16_ (by omega)
    obtain ⟨a5_, ha5_⟩ := rg_rt g10_ hz_
    have g11_ := rg_at g10_ ha5_
    have w5_ := wd10_ a5_ ha5_
    have k5_ := z_wi_ok le0_.1 hk_ ha5_
    have k6_ := k5_.2.2.2.2.2
    refine sm_T_go 2 (c1 := (25, [some (.inr (.inr (some (13, 0)))), some (.inl m_), some (.inl 0), none], [.inl 61, .inr (.inr (some (13, 0)))], Sx11_)) rfl ?_
    refine sm_T_cal (d1 := 0) (Q1 := vq_295 61 b_ n_ T_ (pb (z_wi b_ n_ A_ M_ p_) fun a_ => .inr a_.2.1) Sx11_) rfl rfl (by decide) (vc_295 61 b_ n_ T_ (pb (z_wi b_ n_ A_ M_ p_) fun a_ => .inr a_.2.1) Sx11_ hIx12_ (by exact t10_) (by exact g10_) (by decide)) (fun u_ Sx23_ px26_ => ?_)
    obtain ⟨rfl, vx28_, rfl, px26_⟩ := px26_
    have e25_ := px26_.2 a5_.2.1 (by rw [ha5_]; rfl)
    have r25_ := px26_.1.1
    refine sm_T_b0 (a := 0) (z := 48) rfl (fun cx29_ => ?_) (fun cx29_ => ?_)
    · have cx29_ : vx28_ = 0 := of_decide_eq_true cx29_
      have n61_ : lx_kd b_ n_ a5_.2.1 ≠ 61 := fun z_ => by have := e25_.mpr z_; omega
      have rb5_ : p_rb b_ n_ a5_.2.2 a5_.2.1 = .inr (a5_.2.1, 0) := if_neg n61_
      have g76x : rg b_ n_ T_ (pb (z_re b_ n_ A_ M_ p_) fun a_ => .inr a_.2.1) _ := rg_st g11_ ha5_ (by unfold z_rb; rw [rb5_]; rfl)
      have v76x : ∀ a_, (z_re b_ n_ A_ M_ p_) = .inr a_ → (0 : Int) = a_.2.2 := fun a_ ha_ => by unfold z_re at ha_; rw [ha5_] at ha_; have ha_ : z_rb b_ n_ a5_ = .inr a_ := ha_; unfold z_rb at ha_; rw [rb5_] at ha_; cases ha_; rfl
      refine sm_T_go 0 (c1 := (76, [some (.inr (.inr (some (13, 0)))), some (.inl m_), some (.inl 0), none], [], Sx11_)) rfl ?_
      refine (vl_336 m_ b_ n_ T_ A_ M_ c_ p_ S0_ ht_ hx_ hk_ hmo_ hmm_ hmd_ hA_ hre_ hrs_ hc_ _) 0 Sx11_ hIx12_ hFx15_ ⟨?_, ?_, ?_, ?_, ?_, trivial⟩ (Nat.lt_succ_self _)
      · exact g76x
      · first | exact re73_ | exact re10_
      · first | exact rs73_ | exact rs10_
      · first | (intro a_ ha_; rw [nt73_, nw73_]; exact ⟨tk10_ a_ ha_, wd10_ a_ ha_⟩) | (intro a_ ha_; rw [hnt_, hnw_]; exact ⟨tk10_ a_ ha_, wd10_ a_ ha_⟩)
      · first | exact v76x | (intro a_ ha_; unfold z_re at ha_; rw [ha5_] at ha_; have ha_ : z_rb b_ n_ a5_ = .inr a_ := ha_; unfold z_rb at ha_; first | (rw [cw3_] at ha_; cases ha_; done) | (rw [crv_] at ha_; first | (cases ha_; done) | (obtain ⟨z_, h1_, h2_⟩ := pb_inr ha_; obtain ⟨r_, h3_, h4_⟩ := pb_inr h1_; cases h4_; cases h2_; exact nv_.1)))
    · have cx29_ : ¬ (vx28_ = 0) := of_decide_eq_false cx29_
      have k61_ : lx_kd b_ n_ a5_.2.1 = 61 := e25_.mp (by omega)
      refine sm_T_go 1 (c1 := (32, [some (.inr (.inr (some (13, 0)))), some (.inl m_), some (.inl 0), none], [.inr (.inr (some (13, 0)))], Sx11_)) rfl ?_
      refine sm_T_cal (d1 := 2) (Q1 := vq_297 b_ n_ T_ (.inr a5_.2.1) Sx11_) rfl rfl (by decide) (vc_297 b_ n_ T_ (.inr a5_.2.1) Sx11_ hIx12_ (by exact t10_) (by exact g11_) (by (intro q_ e_; cases e_; omega))) (fun u_ Sx30_ px33_ => ?_)
      obtain ⟨rfl, hIx31_, hFx32_, px33_⟩ := px33_
      have hFx34_ : ai_fr (sx_W vw_336) S0_ Sx30_ := ai_fr_tr hFx15_ (fr_le hFx32_ rfl)
      have t32_ := rtab_fr t10_ hFx32_ rfl rfl rfl rfl rfl
      have re32_ : ∀ m_, m_ ≤ M_ → re1 b_ n_ T_ A_ m_ Sx30_ := fun m_ hm_ => re1_fr (re10_ m_ hm_) hFx32_ rfl rfl rfl rfl rfl rfl
      have rs32_ : ∀ m_, m_ ≤ M_ → rs1 A_ m_ Sx30_ := fun m_ hm_ => rs1_fr (rs10_ m_ hm_) hFx32_ rfl rfl rfl rfl
      have mo32_ := (hFx32_.1 13 0 27 rfl).trans mo10_
      have md32_ := (hFx32_.1 13 0 28 rfl).trans md10_
      have g32_ : rg b_ n_ T_ (p_ad b_ n_ a5_.2.1) Sx30_ := px33_.1
      have nt32_ := (hFx32_.1 13 0 25 rfl).trans hnt_
      have nw32_ := (hFx32_.1 13 0 26 rfl).trans hnw_
      refine sm_T_go 2 (c1 := (37, [some (.inr (.inr (some (13, 0)))), some (.inl m_), some (.inl 0), none], [.inl 2, .inr (.inr (some (13, 0)))], Sx30_)) rfl ?_
      refine sm_T_cal (d1 := 1) (Q1 := vq_299 2 b_ n_ T_ (p_ad b_ n_ a5_.2.1) Sx30_) rfl rfl (by decide) (vc_299 2 b_ n_ T_ (p_ad b_ n_ a5_.2.1) Sx30_ hIx31_ (by exact t32_) (by exact g32_) (by decide)) (fun u_ Sx35_ px38_ => ?_)
      obtain ⟨vx40_, rfl, hIx36_, hFx37_, px38_⟩ := px38_
      have hFx39_ : ai_fr (sx_W vw_336) S0_ Sx35_ := ai_fr_tr hFx34_ (fr_le hFx37_ rfl)
      have t37_ := rtab_fr t32_ hFx37_ rfl rfl rfl rfl rfl
      have re37_ : ∀ m_, m_ ≤ M_ → re1 b_ n_ T_ A_ m_ Sx35_ := fun m_ hm_ => re1_fr (re32_ m_ hm_) hFx37_ rfl rfl rfl rfl rfl rfl
      have rs37_ : ∀ m_, m_ ≤ M_ → rs1 A_ m_ Sx35_ := fun m_ hm_ => rs1_fr (rs32_ m_ hm_) hFx37_ rfl rfl rfl rfl
      have mo37_ := (hFx37_.1 13 0 27 rfl).trans mo32_
      have md37_ := (hFx37_.1 13 0 28 rfl).trans md32_
      have a3_ := px38_.1
      have g3_ := px38_.2
      have nt37_ := (hFx37_.1 13 0 25 rfl).trans nt32_
      have nw37_ := (hFx37_.1 13 0 26 rfl).trans nw32_
      have at3_ := hFx37_.1 13 0 9 rfl
      have v3b : 0 ≤ vx40_ ∧ vx40_ ≤ 1280 := by rw [a3_, ← at3_]; exact hIx36_.1 13 0 9 rfl
      have nv17_ : ∀ r_ i3_ : Nat, Sx35_.1 13 0 9 = (i3_ : Int) → rp b_ n_ T_ i3_ r_ → lx_kd b_ n_ r_ = 2 → Sx35_.2.2.1 121 0 vx40_.toNat = lx_vl b_ n_ r_ ∧ Sx35_.2.2.1 120 0 vx40_.toNat = (r_ : Int) ∧ Sx35_.2.2.1 119 0 vx40_.toNat ≠ 4 := by intro r_ i3_ q1_ q2_ q3_; have q4_ := rp_at t37_ q2_; rw [show vx40_.toNat = i3_ by omega, q4_.1, q4_.2.1, q4_.2.2.1, q3_]; exact ⟨rfl, rfl, by decide⟩
      refine sm_T_go 4 (c1 := (46, [some (.inr (.inr (some (13, 0)))), some (.inl m_), some (.inl 0), some (.inl vx40_)], [.inl vx40_, .inr (.inr (some (121, 0)))], Sx35_)) rfl ?_
      refine sm_T_iald (n := 65537) rfl rfl (by omega) (by omega) ?_
      have bx41_ : (-2147483648) ≤ Sx35_.2.2.1 121 0 vx40_.toNat ∧ Sx35_.2.2.1 121 0 vx40_.toNat ≤ 2147483647 := hIx36_.2 121 0 _
      refine sm_T_go 2 (c1 := (49, [some (.inr (.inr (some (13, 0)))), some (.inl m_), some (.inl (Sx35_.2.2.1 121 0 vx40_.toNat)), some (.inl vx40_)], [.inr (.inr (some (13, 0)))], Sx35_)) rfl ?_
      refine sm_T_cal (d1 := 0) (Q1 := vq_292  Sx35_) rfl rfl (by decide) (vc_292  Sx35_ hIx36_ ) (fun u_ Sx42_ px45_ => ?_)
      obtain ⟨rfl, vx47_, rfl, px45_⟩ := px45_
      have e49_ := px45_
      refine sm_T_b0 (a := 0) (z := 20) rfl (fun cx48_ => ?_) (fun cx48_ => ?_)
      · have cx48_ : vx47_ = 0 := of_decide_eq_true cx48_
        obtain ⟨e3_, he3_⟩ := rg_w g3_ (wr_if e49_ (by omega))
        have cw3_ := rb_w (w_ := a5_.2.2) k61_ he3_
        rw [he3_] at g3_
        obtain ⟨x4_, hx4_, hx4b⟩ : ∃ x4_ : pE Nat, rg b_ n_ T_ x4_ _ ∧ x4_ = .inl e3_ := ⟨_, g3_, rfl⟩
        have t4_ := t37_
        have re4_ := re37_
        have rs4_ := rs37_
        have nt4_ := nt37_
        have nw4_ := nw37_
        refine sm_T_go 1 (c1 := (73, [some (.inr (.inr (some (13, 0)))), some (.inl m_), some (.inl (Sx35_.2.2.1 121 0 vx40_.toNat)), some (.inl vx40_)], [.inr (.inr (some (13, 0)))], Sx35_)) rfl ?_
        refine sm_T_cal (d1 := 2) (Q1 := vq_297 b_ n_ T_ x4_ Sx35_) rfl rfl (by decide) (vc_297 b_ n_ T_ x4_ Sx35_ hIx36_ (by exact t4_) (by exact hx4_) (by (intro z_ e_; rw [hx4b] at e_; first | (cases e_; done) | (cases e_; rw [cr.1]; decide)))) (fun u_ Sx49_ px52_ => ?_)
        obtain ⟨rfl, hIx50_, hFx51_, px52_⟩ := px52_
        have hFx53_ : ai_fr (sx_W vw_336) S0_ Sx49_ := ai_fr_tr hFx39_ (fr_le hFx51_ rfl)
        have g73_ := px52_.1
        rw [hx4b] at g73_
        have re73_ : ∀ m_, m_ ≤ M_ → re1 b_ n_ T_ A_ m_ Sx49_ := fun m_ hm_ => re1_fr (re4_ m_ hm_) hFx51_ rfl rfl rfl rfl rfl rfl
        have rs73_ : ∀ m_, m_ ≤ M_ → rs1 A_ m_ Sx49_ := fun m_ hm_ => rs1_fr (rs4_ m_ hm_) hFx51_ rfl rfl rfl rfl
        have nt73_ := (hFx51_.1 13 0 25 rfl).trans nt4_
        have nw73_ := (hFx51_.1 13 0 26 rfl).trans nw4_
        have g76x : rg b_ n_ T_ (pb (z_re b_ n_ A_ M_ p_) fun a_ => .inr a_.2.1) Sx49_ := rg_st g73_ ha5_ (by unfold z_rb; first | (rw [cw3_]; rfl) | (rw [crv_]; first | rfl | (rw [pb_as, pb_as]; show _ = p_ad b_ n_ q_; exact pb_id)))
        refine sm_T_go 0 (c1 := (76, [some (.inr (.inr (some (13, 0)))), some (.inl m_), some (.inl (Sx35_.2.2.1 121 0 vx40_.toNat)), some (.inl vx40_)], [], Sx49_)) rfl ?_
        refine sm_T_wk [some (.inr (.inr (some (13, 0)))), some (.inl m_), some (.inl (Sx35_.2.2.1 121 0 vx40_.toNat)), none] (by exact ⟨rfl, rfl, rfl, trivial⟩) ?_
        refine (vl_336 m_ b_ n_ T_ A_ M_ c_ p_ S0_ ht_ hx_ hk_ hmo_ hmm_ hmd_ hA_ hre_ hrs_ hc_ _) (Sx35_.2.2.1 121 0 vx40_.toNat) Sx49_ hIx50_ hFx53_ ⟨?_, ?_, ?_, ?_, ?_, trivial⟩ (Nat.lt_succ_self _)
        · exact g76x
        · first | exact re73_ | exact re10_
        · first | exact rs73_ | exact rs10_
        · first | (intro a_ ha_; rw [nt73_, nw73_]; exact ⟨tk10_ a_ ha_, wd10_ a_ ha_⟩) | (intro a_ ha_; rw [hnt_, hnw_]; exact ⟨tk10_ a_ ha_, wd10_ a_ ha_⟩)
        · first | exact v76x | (intro a_ ha_; unfold z_re at ha_; rw [ha5_] at ha_; have ha_ : z_rb b_ n_ a5_ = .inr a_ := ha_; unfold z_rb at ha_; first | (rw [cw3_] at ha_; cases ha_; done) | (rw [crv_] at ha_; first | (cases ha_; done) | (obtain ⟨z_, h1_, h2_⟩ := pb_inr ha_; obtain ⟨r_, h3_, h4_⟩ := pb_inr h1_; cases h4_; cases h2_; exact nv_.1)))
      · have cx48_ : ¬ (vx47_ = 0) := of_decide_eq_false cx48_
        have hz4_ := rt_if e49_ (by omega)
        obtain ⟨q_, i3_, hq3_, e31_, e32_⟩ := rg_r g3_ hz4_
        have cr := rb_r (w_ := a5_.2.2) k61_ hq3_
        have nv_ := nv17_ q_ i3_ e31_ e32_ cr.1
        have sh_ := i_shl1 (e := nw_) (by omega) (by omega)
        rw [w5_] at sh_
        have vp_ := lx_vl_0 cr.1
        have bx54_ : (-2147483648) ≤ Sx35_.1 13 0 26 ∧ Sx35_.1 13 0 26 ≤ 2147483647 := hIx36_.1 13 0 26 rfl
        refine sm_T_go 4 (c1 := (61, [some (.inr (.inr (some (13, 0)))), some (.inl m_), some (.inl (Sx35_.2.2.1 121 0 vx40_.toNat)), some (.inl vx40_)], [.inl (Sx35_.1 13 0 26), .inl 1, .inl (Sx35_.2.2.1 121 0 vx40_.toNat)], Sx35_)) rfl ?_
        refine sm_T_bin (w := (i_shl 1 (Sx35_.1 13 0 26))) rfl rfl ?_
        refine sm_T_br (a := 2) (z := 10) rfl (fun cx55_ => ?_) (fun cx55_ => ?_)
        · have cx55_ : (Sx35_.2.2.1 121 0 vx40_.toNat) < (i_shl 1 (Sx35_.1 13 0 26)) := of_decide_eq_true cx55_
          rw [hq3_] at g3_
          obtain ⟨x4_, hx4_, hx4b⟩ : ∃ x4_ : pE Nat, rg b_ n_ T_ x4_ _ ∧ x4_ = .inr q_ := ⟨_, g3_, rfl⟩
          have crv_ := cr.2
          rw [nw37_, w5_, sh_] at cx55_
          rw [if_neg (by omega)] at crv_
          have t4_ := t37_
          have re4_ := re37_
          have rs4_ := rs37_
          have nt4_ := nt37_
          have nw4_ := nw37_
          refine sm_T_go 1 (c1 := (73, [some (.inr (.inr (some (13, 0)))), some (.inl m_), some (.inl (Sx35_.2.2.1 121 0 vx40_.toNat)), some (.inl vx40_)], [.inr (.inr (some (13, 0)))], Sx35_)) rfl ?_
          refine sm_T_cal (d1 := 2) (Q1 := vq_297 b_ n_ T_ x4_ Sx35_) rfl rfl (by decide) (vc_297 b_ n_ T_ x4_ Sx35_ hIx36_ (by exact t4_) (by exact hx4_) (by (intro z_ e_; rw [hx4b] at e_; first | (cases e_; done) | (cases e_; rw [cr.1]; decide)))) (fun u_ Sx56_ px59_ => ?_)
          obtain ⟨rfl, hIx57_, hFx58_, px59_⟩ := px59_
          have hFx60_ : ai_fr (sx_W vw_336) S0_ Sx56_ := ai_fr_tr hFx39_ (fr_le hFx58_ rfl)
          have ex61_ : Sx56_.1 13 0 26 = Sx35_.1 13 0 26 := hFx58_.1 13 0 26 rfl
          have g73_ := px59_.1
          rw [hx4b] at g73_
          have re73_ : ∀ m_, m_ ≤ M_ → re1 b_ n_ T_ A_ m_ Sx56_ := fun m_ hm_ => re1_fr (re4_ m_ hm_) hFx58_ rfl rfl rfl rfl rfl rfl
          have rs73_ : ∀ m_, m_ ≤ M_ → rs1 A_ m_ Sx56_ := fun m_ hm_ => rs1_fr (rs4_ m_ hm_) hFx58_ rfl rfl rfl rfl
          have nt73_ := (hFx58_.1 13 0 25 rfl).trans nt4_
          have nw73_ := (hFx58_.1 13 0 26 rfl).trans nw4_
          have g76x : rg b_ n_ T_ (pb (z_re b_ n_ A_ M_ p_) fun a_ => .inr a_.2.1) Sx56_ := rg_st g73_ ha5_ (by unfold z_rb; first | (rw [cw3_]; rfl) | (rw [crv_]; first | rfl | (rw [pb_as, pb_as]; show _ = p_ad b_ n_ q_; exact pb_id)))
          refine sm_T_go 0 (c1 := (76, [some (.inr (.inr (some (13, 0)))), some (.inl m_), some (.inl (Sx35_.2.2.1 121 0 vx40_.toNat)), some (.inl vx40_)], [], Sx56_)) rfl ?_
          refine sm_T_wk [some (.inr (.inr (some (13, 0)))), some (.inl m_), some (.inl (Sx35_.2.2.1 121 0 vx40_.toNat)), none] (by exact ⟨rfl, rfl, rfl, trivial⟩) ?_
          refine (vl_336 m_ b_ n_ T_ A_ M_ c_ p_ S0_ ht_ hx_ hk_ hmo_ hmm_ hmd_ hA_ hre_ hrs_ hc_ _) (Sx35_.2.2.1 121 0 vx40_.toNat) Sx56_ hIx57_ hFx60_ ⟨?_, ?_, ?_, ?_, ?_, trivial⟩ (Nat.lt_succ_self _)
          · exact g76x
          · first | exact re73_ | exact re10_
          · first | exact rs73_ | exact rs10_
          · first | (intro a_ ha_; rw [nt73_, nw73_]; exact ⟨tk10_ a_ ha_, wd10_ a_ ha_⟩) | (intro a_ ha_; rw [hnt_, hnw_]; exact ⟨tk10_ a_ ha_, wd10_ a_ ha_⟩)
          · first | exact v76x | (intro a_ ha_; unfold z_re at ha_; rw [ha5_] at ha_; have ha_ : z_rb b_ n_ a5_ = .inr a_ := ha_; unfold z_rb at ha_; first | (rw [cw3_] at ha_; cases ha_; done) | (rw [crv_] at ha_; first | (cases ha_; done) | (obtain ⟨z_, h1_, h2_⟩ := pb_inr ha_; obtain ⟨r_, h3_, h4_⟩ := pb_inr h1_; cases h4_; cases h2_; exact nv_.1)))
        · have cx55_ : ¬ ((Sx35_.2.2.1 121 0 vx40_.toNat) < (i_shl 1 (Sx35_.1 13 0 26))) := of_decide_eq_false cx55_
          have crv_ := cr.2
          rw [nw37_, w5_, sh_] at cx55_
          rw [if_pos (by omega)] at crv_
          refine sm_T_go 3 (c1 := (69, [some (.inr (.inr (some (13, 0)))), some (.inl m_), some (.inl (Sx35_.2.2.1 121 0 vx40_.toNat)), some (.inl vx40_)], [.inl vx40_, .inl 12, .inr (.inr (some (13, 0)))], Sx35_)) rfl ?_
          refine sm_T_cal (d1 := 0) (Q1 := vq_293 12 vx40_ Sx35_) rfl rfl (by decide) (vc_293 12 vx40_ Sx35_ hIx36_ (by decide) (by omega)) (fun u_ Sx62_ px65_ => ?_)
          obtain ⟨rfl, hIx63_, hFx64_, px65_⟩ := px65_
          have hFx66_ : ai_fr (sx_W vw_336) S0_ Sx62_ := ai_fr_tr hFx39_ (fr_le hFx64_ rfl)
          have ex67_ : Sx62_.1 13 0 26 = Sx35_.1 13 0 26 := hFx64_.1 13 0 26 rfl
          have g36_ : rg b_ n_ T_ (.inl (12, q_)) Sx62_ := by rcases px65_ with z_ | z_; (exact absurd hz4_ z_.1); (exact ⟨z_.2.1.trans (if_neg nv_.2.2), z_.2.2.trans nv_.2.1, by show (12 : Int) ≠ 0; decide⟩)
          obtain ⟨x4_, hx4_, hx4b⟩ : ∃ x4_ : pE Nat, rg b_ n_ T_ x4_ Sx62_ ∧ x4_ = .inl (12, q_) := ⟨_, g36_, rfl⟩
          have t4_ := rtab_fr t37_ hFx64_ rfl rfl rfl rfl rfl
          have re4_ : ∀ m_, m_ ≤ M_ → re1 b_ n_ T_ A_ m_ Sx62_ := fun m_ hm_ => re1_fr (re37_ m_ hm_) hFx64_ rfl rfl rfl rfl rfl rfl
          have rs4_ : ∀ m_, m_ ≤ M_ → rs1 A_ m_ Sx62_ := fun m_ hm_ => rs1_fr (rs37_ m_ hm_) hFx64_ rfl rfl rfl rfl
          have nt4_ := (hFx64_.1 13 0 25 rfl).trans nt37_
          have nw4_ := (hFx64_.1 13 0 26 rfl).trans nw37_
          refine sm_T_go 1 (c1 := (73, [some (.inr (.inr (some (13, 0)))), some (.inl m_), some (.inl (Sx35_.2.2.1 121 0 vx40_.toNat)), some (.inl vx40_)], [.inr (.inr (some (13, 0)))], Sx62_)) rfl ?_
          refine sm_T_cal (d1 := 2) (Q1 := vq_297 b_ n_ T_ x4_ Sx62_) rfl rfl (by decide) (vc_297 b_ n_ T_ x4_ Sx62_ hIx63_ (by exact t4_) (by exact hx4_) (by (intro z_ e_; rw [hx4b] at e_; first | (cases e_; done) | (cases e_; rw [cr.1]; decide)))) (fun u_ Sx68_ px71_ => ?_)
          obtain ⟨rfl, hIx69_, hFx70_, px71_⟩ := px71_
          have hFx72_ : ai_fr (sx_W vw_336) S0_ Sx68_ := ai_fr_tr hFx66_ (fr_le hFx70_ rfl)
          have g73_ := px71_.1
          rw [hx4b] at g73_
          have re73_ : ∀ m_, m_ ≤ M_ → re1 b_ n_ T_ A_ m_ Sx68_ := fun m_ hm_ => re1_fr (re4_ m_ hm_) hFx70_ rfl rfl rfl rfl rfl rfl
          have rs73_ : ∀ m_, m_ ≤ M_ → rs1 A_ m_ Sx68_ := fun m_ hm_ => rs1_fr (rs4_ m_ hm_) hFx70_ rfl rfl rfl rfl
          have nt73_ := (hFx70_.1 13 0 25 rfl).trans nt4_
          have nw73_ := (hFx70_.1 13 0 26 rfl).trans nw4_
          have g76x : rg b_ n_ T_ (pb (z_re b_ n_ A_ M_ p_) fun a_ => .inr a_.2.1) Sx68_ := rg_st g73_ ha5_ (by unfold z_rb; first | (rw [cw3_]; rfl) | (rw [crv_]; first | rfl | (rw [pb_as, pb_as]; show _ = p_ad b_ n_ q_; exact pb_id)))
          refine sm_T_go 0 (c1 := (76, [some (.inr (.inr (some (13, 0)))), some (.inl m_), some (.inl (Sx35_.2.2.1 121 0 vx40_.toNat)), some (.inl vx40_)], [], Sx68_)) rfl ?_
          refine sm_T_wk [some (.inr (.inr (some (13, 0)))), some (.inl m_), some (.inl (Sx35_.2.2.1 121 0 vx40_.toNat)), none] (by exact ⟨rfl, rfl, rfl, trivial⟩) ?_
          refine (vl_336 m_ b_ n_ T_ A_ M_ c_ p_ S0_ ht_ hx_ hk_ hmo_ hmm_ hmd_ hA_ hre_ hrs_ hc_ _) (Sx35_.2.2.1 121 0 vx40_.toNat) Sx68_ hIx69_ hFx72_ ⟨?_, ?_, ?_, ?_, ?_, trivial⟩ (Nat.lt_succ_self _)
          · exact g76x
          · first | exact re73_ | exact re10_
          · first | exact rs73_ | exact rs10_
          · first | (intro a_ ha_; rw [nt73_, nw73_]; exact ⟨tk10_ a_ ha_, wd10_ a_ ha_⟩) | (intro a_ ha_; rw [hnt_, hnw_]; exact ⟨tk10_ a_ ha_, wd10_ a_ ha_⟩)
          · first | exact v76x | (intro a_ ha_; unfold z_re at ha_; rw [ha5_] at ha_; have ha_ : z_rb b_ n_ a5_ = .inr a_ := ha_; unfold z_rb at ha_; first | (rw [cw3_] at ha_; cases ha_; done) | (rw [crv_] at ha_; first | (cases ha_; done) | (obtain ⟨z_, h1_, h2_⟩ := pb_inr ha_; obtain ⟨r_, h3_, h4_⟩ := pb_inr h1_; cases h4_; cases h2_; exact nv_.1)))
end
/-! 99.yna -/
section
/-! the reference: what registers become; written by wip/p55/gen/vg -/

/-! what a_ register becomes -/
def a_d2 (A_ : pA) (K_ : Nat) : pA := if A_.2.2.1 K_ = 3 then a_dr A_ K_ else A_
theorem a_d2_ok {b_ : Nat → Int} {n_ M_ K_ : Nat} {A_ : pA} (h_ : a_ok b_ n_ A_ M_) : a_ok b_ n_ (a_d2 A_ K_) M_ := by
  unfold a_d2
  split
  · rename_i g_
    exact a_dr_ok h_ g_
  · exact h_
theorem d2_1 {A_ : pA} {K_ : Nat} : (a_d2 A_ K_).1 = A_.1 ∧ (a_d2 A_ K_).2.1 = A_.2.1 ∧ (a_d2 A_ K_).2.2.2.1 = A_.2.2.2.1 ∧ (a_d2 A_ K_).2.2.2.2 = A_.2.2.2.2 := by
  unfold a_d2
  split <;> exact ⟨rfl, rfl, rfl, rfl⟩
theorem d2_s {A_ : pA} {K_ : Nat} (i_ : Nat) : (a_d2 A_ K_).2.2.1 i_ = if A_.2.2.1 K_ = 3 ∧ i_ = K_ then 4 else A_.2.2.1 i_ := by
  unfold a_d2
  by_cases g_ : A_.2.2.1 K_ = 3
  · rw [if_pos g_]
    show (if i_ = K_ then 4 else A_.2.2.1 i_) = _
    by_cases g2_ : i_ = K_
    · rw [if_pos g2_, if_pos ⟨g_, g2_⟩]
    · rw [if_neg g2_, if_neg (fun z_ => g2_ z_.2)]
  · rw [if_neg g_, if_neg (fun z_ => g_ z_.1)]
theorem d2_e {A_ : pA} {K_ i_ : Nat} {v_ : Int} (h3_ : v_ ≠ 3) (h4_ : v_ ≠ 4) : ((a_d2 A_ K_).2.2.1 i_ = v_) = (A_.2.2.1 i_ = v_) := by
  rw [d2_s]
  by_cases g_ : A_.2.2.1 K_ = 3 ∧ i_ = K_
  · rw [if_pos g_, g_.2, g_.1]
    exact propext ⟨fun z_ => absurd z_.symm h4_, fun z_ => absurd z_.symm h3_⟩
  · rw [if_neg g_]
theorem d2_fn {b_ : Nat → Int} {n_ m_ p_ K_ : Nat} {A_ : pA} : p_fn b_ n_ (a_d2 A_ K_) m_ p_ = p_fn b_ n_ A_ m_ p_ := by
  unfold p_fn
  rw [d2_1.1, d2_1.2.1]
theorem d2_pa {b_ : Nat → Int} {n_ d_ p_ K_ : Nat} {A_ : pA} {s_ : Int} : p_pa b_ n_ (a_d2 A_ K_) s_ d_ p_ = p_pa b_ n_ A_ s_ d_ p_ := by
  unfold p_pa
  simp only [d2_fn, d2_1.2.2.1, ne_eq, d2_e (show (1 : Int) ≠ 3 by decide) (show (1 : Int) ≠ 4 by decide)]
theorem d2_na {b_ : Nat → Int} {n_ M_ p_ K_ : Nat} {A_ : pA} : p_na b_ n_ (a_d2 A_ K_) M_ p_ = p_na b_ n_ A_ M_ p_ := by
  unfold p_na
  simp only [d2_fn, d2_pa, d2_1.2.2.1, d2_1.2.2.2, ne_eq, d2_e (show (5 : Int) ≠ 3 by decide) (show (5 : Int) ≠ 4 by decide)]
theorem d2_xd {b_ : Nat → Int} {n_ M_ p_ K_ : Nat} {A_ : pA} {c_ : List Int} : p_xd b_ n_ (a_d2 A_ K_) M_ c_ p_ = p_xd b_ n_ A_ M_ c_ p_ := by
  unfold p_xd
  have e_ : p_pd b_ n_ (a_d2 A_ K_) M_ = p_pd b_ n_ A_ M_ := by
    funext q_
    unfold p_pd
    simp only [d2_na]
  rw [e_]
theorem d2_rs {A_ : pA} {K_ m_ : Nat} {S_ : sm_S} (h_ : rs1 A_ m_ S_) : rs1 (a_d2 A_ K_) m_ S_ := by
  unfold rs1 at h_ ⊢
  rw [d2_1.1]
  have e1_ : ∀ v_ : Int, v_ ≠ 3 → v_ ≠ 4 → t_in (a_d2 A_ K_) v_ m_ = t_in A_ v_ m_ := by
    intro v_ h3_ h4_
    funext s_
    unfold t_in
    simp only [d2_1.2.2.1, d2_e h3_ h4_]
  have e2_ : ∀ f_, t_rg f_ (a_d2 A_ K_) m_ = t_rg f_ A_ m_ := by
    intro f_
    funext s_
    unfold t_rg
    have z_ : ((a_d2 A_ K_).2.2.1 (40 * m_ + s_) = 3 ∨ (a_d2 A_ K_).2.2.1 (40 * m_ + s_) = 4) = (A_.2.2.1 (40 * m_ + s_) = 3 ∨ A_.2.2.1 (40 * m_ + s_) = 4) := by
      rw [d2_s]
      by_cases g_ : A_.2.2.1 K_ = 3 ∧ 40 * m_ + s_ = K_
      · rw [if_pos g_, g_.2, g_.1]
        exact propext ⟨fun _ => Or.inl rfl, fun _ => Or.inr rfl⟩
      · rw [if_neg g_]
    simp only [z_, d2_1.2.2.1, d2_1.2.2.2, d2_e (show (5 : Int) ≠ 3 by decide) (show (5 : Int) ≠ 4 by decide)]
  have e3_ : ∀ f_, t_is f_ (a_d2 A_ K_) m_ = t_is f_ A_ m_ := by
    intro f_
    funext s_
    unfold t_is
    simp only [d2_1.2.2.2, d2_e (show (5 : Int) ≠ 3 by decide) (show (5 : Int) ≠ 4 by decide)]
  rw [e1_ 0 (by decide) (by decide), e1_ 1 (by decide) (by decide), e2_, e3_]
  exact h_
theorem d2_re {b_ : Nat → Int} {n_ T_ m_ K_ k_ : Nat} {A_ : pA} {S_ : sm_S} (h_ : re1 b_ n_ T_ A_ m_ S_) (h3_ : A_.2.2.1 K_ = 3) (hk_ : k_ = K_) : re1 b_ n_ T_ (a_d2 A_ K_) m_ (sm_aI S_ 131 0 k_ 1) := by
  subst hk_
  unfold re1 at h_ ⊢
  rw [d2_1.1, d2_1.2.1, d2_1.2.2.1, d2_1.2.2.2]
  refine ⟨(rd_ne (by decide)).trans h_.1, fun s_ hs_ => ?_⟩
  obtain ⟨q1_, q2_, q3_, q4_, q5_⟩ := h_.2 s_ hs_
  rw [rd_ne (by decide), rd_ne (by decide), rd_ne (by decide), rd_ne (by decide), rd_eq, d2_s]
  refine ⟨q1_, ?_, q3_, q4_, ?_⟩
  · rw [q2_]
    by_cases g_ : A_.2.2.1 k_ = 3 ∧ 40 * m_ + s_ = k_
    · rw [if_pos g_, g_.2, g_.1]
      rfl
    · rw [if_neg g_]
  · by_cases g_ : 40 * m_ + s_ = k_
    · have e_ : (if A_.2.2.1 k_ = 3 ∧ 40 * m_ + s_ = k_ then (4 : Int) else A_.2.2.1 (40 * m_ + s_)) = 4 := if_pos ⟨h3_, g_⟩
      rw [e_, if_pos g_, if_pos rfl]
    · have e_ : (if A_.2.2.1 k_ = 3 ∧ 40 * m_ + s_ = k_ then (4 : Int) else A_.2.2.1 (40 * m_ + s_)) = A_.2.2.1 (40 * m_ + s_) := if_neg (fun z_ => g_ z_.2)
      rw [e_, if_neg g_]
      exact q5_
abbrev c_ne (b_ : Nat → Int) (n_ : Nat) (A_ : pA) (M_ p_ : Nat) : Prop := p_fn b_ n_ A_ M_ p_ = -1 ∨ A_.2.2.1 (40 * M_ + (p_fn b_ n_ A_ M_ p_).toNat) ≠ 3
def z_n2 (b_ : Nat → Int) (n_ : Nat) (A_ : pA) (M_ p_ : Nat) : pE Nat := pb (p_du b_ n_ 1 p_) fun p_ => if c_ne b_ n_ A_ M_ p_ then .inl (11, p_) else .inr p_
def z_n4 (b_ : Nat → Int) (n_ : Nat) (A_ : pA) (M_ p_ : Nat) : pE (Nat × Nat) := pb (pb (z_n2 b_ n_ A_ M_ p_) (p_ad b_ n_)) fun q_ => pb (p_nd b_ n_ 256 q_) fun r_ => .inr (q_, r_)
def z_ne (b_ : Nat → Int) (n_ : Nat) (A_ : pA) (M_ : Nat) (c_ : List Int) (p_ : Nat) : pE (Nat × pR) := pb (z_n4 b_ n_ A_ M_ p_) fun a_ => pb (p_xd b_ n_ A_ M_ c_ a_.2) fun x_ => .inr (a_.1, x_)
def z_nc (w_ : Int) (a_ : Nat × pR) : pE (Nat × pR) := if h_tp a_.2.2.1 = w_ then .inr a_ else .inl (13, a_.1)
def z_ns (b_ : Nat → Int) (n_ : Nat) (a_ : Nat × pR) : pE ((Nat × pR) × Nat) := pb (p_nd b_ n_ 59 a_.2.1) fun y_ => .inr (a_, y_)
def k_nx (b_ : Nat → Int) (n_ : Nat) (A_ : pA) (M_ p_ : Nat) : Nat := 40 * M_ + (p_fn b_ n_ A_ M_ p_).toNat
def k_ne (b_ : Nat → Int) (n_ : Nat) (A_ : pA) (M_ p_ : Nat) (a_ : (Nat × pR) × Nat) : pT := (a_dr A_ (k_nx b_ n_ A_ M_ p_), cw 14 (p_fn b_ n_ A_ M_ p_) 0 :: a_.1.2.2.2, a_.2)
theorem n2_p {b_ : Nat → Int} {n_ M_ p_ q_ : Nat} {A_ : pA} (h_ : z_n2 b_ n_ A_ M_ p_ = .inr q_) : q_ = p_ ∧ lx_kd b_ n_ p_ = 1 ∧ ¬ c_ne b_ n_ A_ M_ p_ := by
  obtain ⟨r_, h1_, h2_⟩ := pb_inr h_
  unfold p_du at h1_
  split at h1_
  · rename_i g_
    cases h1_
    split at h2_
    · cases h2_
    · rename_i g2_
      cases h2_
      exact ⟨rfl, g_, g2_⟩
  · cases h1_
theorem ne_eq2 {b_ : Nat → Int} {n_ M_ p_ : Nat} {A_ : pA} {c_ : List Int} : (if lx_kd b_ n_ p_ = 1 then p_ne b_ n_ A_ M_ c_ p_ else .inl (2, p_)) = pb (pb (pb (z_ne b_ n_ A_ M_ c_ p_) (z_nc (A_.2.2.2.1 (k_nx b_ n_ A_ M_ p_)))) (z_ns b_ n_)) fun a_ => .inr (k_ne b_ n_ A_ M_ p_ a_) := by
  unfold z_ne z_n4 z_n2 p_du
  by_cases g_ : lx_kd b_ n_ p_ = 1
  · rw [if_pos g_, if_pos g_]
    simp only [pb_ir]
    unfold p_ne
    by_cases g2_ : c_ne b_ n_ A_ M_ p_
    · rw [if_pos g2_, if_pos g2_]
      rfl
    · rw [if_neg g2_, if_neg g2_]
      simp only [pb_ir, pb_as]
      refine congrArg (pb _) (funext fun q_ => congrArg (pb _) (funext fun r_ => congrArg (pb _) (funext fun x_ => ?_)))
      show _ = pb (z_nc (A_.2.2.2.1 (k_nx b_ n_ A_ M_ p_)) (q_, x_)) _
      unfold z_nc
      by_cases g3_ : h_tp x_.2.1 = A_.2.2.2.1 (40 * M_ + (p_fn b_ n_ A_ M_ p_).toNat)
      · rw [if_pos g3_, if_pos (show h_tp (q_, x_).2.2.1 = A_.2.2.2.1 (k_nx b_ n_ A_ M_ p_) from g3_)]
        show _ = pb (z_ns b_ n_ (q_, x_)) _
        unfold z_ns
        rw [pb_as]
        rfl
      · rw [if_neg g3_, if_neg (show ¬ h_tp (q_, x_).2.2.1 = A_.2.2.2.1 (k_nx b_ n_ A_ M_ p_) from g3_)]
        rfl
  · rw [if_neg g_, if_neg g_]
    rfl
theorem ne_ok {b_ : Nat → Int} {n_ M_ p_ : Nat} {A_ : pA} {c_ : List Int} {r_ : pT} (hn_ : n_ ≤ 1280) (hA_ : a_ok b_ n_ A_ M_) (hp_ : p_ ≤ n_) (hc_ : c_.length ≤ 3 * p_) (h_ : (if lx_kd b_ n_ p_ = 1 then p_ne b_ n_ A_ M_ c_ p_ else .inl (2, p_)) = .inr r_) : a_ok b_ n_ r_.1 M_ ∧ r_.2.1.length ≤ 3 * r_.2.2 ∧ p_ < r_.2.2 ∧ r_.1 = a_d2 A_ (k_nx b_ n_ A_ M_ p_) := by
  rw [ne_eq2] at h_
  obtain ⟨a_, h1_, h_⟩ := pb_inr h_
  cases h_
  obtain ⟨a1_, h2_, h1_⟩ := pb_inr h1_
  obtain ⟨a0_, h3_, h2_⟩ := pb_inr h2_
  obtain ⟨a2_, h4_, h3_⟩ := pb_inr h3_
  obtain ⟨x_, h6_, h3_⟩ := pb_inr h3_
  cases h3_
  obtain ⟨q_, h4b, h5_⟩ := pb_inr h4_
  obtain ⟨r_, h7_, h5_⟩ := pb_inr h5_
  cases h5_
  obtain ⟨p1_, h8_, h4c⟩ := pb_inr h4b
  obtain ⟨e1_, e2_, e3_⟩ := n2_p h8_
  subst e1_
  have k1_ := p_ad_ok hp_ (by omega) h4c
  have k2_ := nd_ok k1_.2.2.1 (by decide) h7_
  have k3_ := xd_ok hn_ hA_ k2_.2.1 k2_.2.2.1 (by have := k2_.1; have := k1_.2.1; show c_.length ≤ 3 * r_; omega) h6_
  have g3_ : A_.2.2.1 (k_nx b_ n_ A_ M_ p1_) = 3 := Decidable.byContradiction fun z_ => e3_ (Or.inr z_)
  unfold z_nc at h2_
  split at h2_
  · cases h2_
    obtain ⟨y_, h9_, h1_⟩ := pb_inr h1_
    cases h1_
    have k4_ := nd_ok k3_.2.1 (by decide) h9_
    have k5_ : x_.1 < y_ := k4_.1
    have k6_ := k3_.2.2.2.2.2
    have k7_ := k3_.1
    have k8_ := k2_.1
    have k9_ := k1_.2.1
    have k7_ : r_ < x_.1 := k7_
    exact ⟨a_dr_ok hA_ g3_, by show x_.2.2.length + 1 ≤ 3 * y_; omega, by show p1_ < y_; omega, by unfold a_d2; rw [if_pos g3_]; rfl⟩
  · cases h2_
/-! M_.tellNext -/
def vw_337 : sx_Wl := ([(13, 9), (13, 10), (13, 11), (13, 32), (13, 33), (13, 34)], [131, 136, 137, 138, 139], [])
def vq_337 (m_ : Int) (b_ : Nat → Int) (n_ : Nat) (T_ : Nat) (A_ : pA) (M_ : Nat) (c_ : List Int) (p_ : Nat) (S0_ : sm_S) (u_ : Option sm_V) (S1_ : sm_S) : Prop := u_ = none ∧ gi S1_ ∧ ai_fr (sx_W vw_337) S0_ S1_ ∧ (rm b_ n_ T_ M_ (if lx_kd b_ n_ p_ = 1 then p_ne b_ n_ A_ M_ c_ p_ else .inl (2, p_)) S1_)
set_option maxHeartbeats 1500000 in
theorem vl_337 {sc_ : Nat × (Nat → Int)} (m_ : Int) (b_ : Nat → Int) (n_ : Nat) (T_ : Nat) (A_ : pA) (M_ : Nat) (c_ : List Int) (p_ : Nat) (S0_ : sm_S) (ht_ : rtab b_ n_ T_ S0_) (hx_ : rg b_ n_ T_ (.inr p_) S0_) (hmo_ : (S0_.1 13 0 27) = 0) (hmm_ : m_ = (M_ : Int) ∧ M_ ≤ 15) (hmd_ : (S0_.1 13 0 28) = (M_ : Int)) (hA_ : a_ok b_ n_ A_ M_) (hre_ : ∀ m_, m_ ≤ M_ → re1 b_ n_ T_ A_ m_ S0_) (hrs_ : ∀ m_, m_ ≤ M_ → rs1 A_ m_ S0_) (hc_ : c_.length ≤ 3 * p_) : ∀ nn_ : Nat, (∀ (k_ : Int) (S_ : sm_S), gi S_ → ai_fr (sx_W vw_337) S0_ S_ → ((rg b_ n_ T_ (z_n2 b_ n_ A_ M_ p_) S_) ∧ (∀ q_, (z_n2 b_ n_ A_ M_ p_) = .inr q_ → k_ = p_fn b_ n_ A_ M_ p_ ∧ 0 ≤ k_ ∧ k_ < (A_.1 M_ : Int) ∧ A_.2.2.1 (k_nx b_ n_ A_ M_ p_) = 3) ∧ (∀ m_, m_ ≤ M_ → re1 b_ n_ T_ A_ m_ S_) ∧ (∀ m_, m_ ≤ M_ → rs1 A_ m_ S_) ∧ True) → ((6 : Nat)) < nn_ → sm_T (mt_P sc_) 8 337 (72, [some (.inr (.inr (some (13, 0)))), some (.inl m_), none, some (.inl k_), none], [], S_) (fun r_ => ∃ u_ S1_, r_ = (.inl u_, S1_, 0) ∧ vq_337 m_ b_ n_ T_ A_ M_ c_ p_ S0_ u_ S1_)) ∧ (∀ (k_ : Int) (t4_ : Int) (S_ : sm_S), gi S_ → ai_fr (sx_W vw_337) S0_ S_ → ((rg b_ n_ T_ (pb (z_n4 b_ n_ A_ M_ p_) fun a_ => .inr a_.2) S_) ∧ (∀ a_, (z_n4 b_ n_ A_ M_ p_) = .inr a_ → k_ = p_fn b_ n_ A_ M_ p_ ∧ 0 ≤ k_ ∧ k_ < (A_.1 M_ : Int) ∧ A_.2.2.1 (k_nx b_ n_ A_ M_ p_) = 3) ∧ (∀ a_, (z_n4 b_ n_ A_ M_ p_) = .inr a_ → ∀ m_, m_ ≤ M_ → re1 b_ n_ T_ (a_d2 A_ (k_nx b_ n_ A_ M_ p_)) m_ S_) ∧ (∀ m_, m_ ≤ M_ → rs1 (a_d2 A_ (k_nx b_ n_ A_ M_ p_)) m_ S_) ∧ (∀ a_, (z_n4 b_ n_ A_ M_ p_) = .inr a_ → (S_.2.2.1 120 0 (t4_.toNat)) = (a_.1 : Int)) ∧ (0 ≤ t4_ ∧ t4_ ≤ 1280) ∧ True) → ((4 : Nat)) < nn_ → sm_T (mt_P sc_) 8 337 (108, [some (.inr (.inr (some (13, 0)))), some (.inl m_), none, some (.inl k_), some (.inl t4_)], [], S_) (fun r_ => ∃ u_ S1_, r_ = (.inl u_, S1_, 0) ∧ vq_337 m_ b_ n_ T_ A_ M_ c_ p_ S0_ u_ S1_)) ∧ (∀  (S_ : sm_S), gi S_ → ai_fr (sx_W vw_337) S0_ S_ → ((rg b_ n_ T_ (pb (pb (z_ne b_ n_ A_ M_ c_ p_) (z_nc (A_.2.2.2.1 (k_nx b_ n_ A_ M_ p_)))) fun a_ => .inr a_.2.1) S_) ∧ (∀ a_, (z_n4 b_ n_ A_ M_ p_) = .inr a_ → ∀ m_, m_ ≤ M_ → re1 b_ n_ T_ (a_d2 A_ (k_nx b_ n_ A_ M_ p_)) m_ S_) ∧ (∀ m_, m_ ≤ M_ → rs1 (a_d2 A_ (k_nx b_ n_ A_ M_ p_)) m_ S_) ∧ True) → ((2 : Nat)) < nn_ → sm_T (mt_P sc_) 8 337 (147, [some (.inr (.inr (some (13, 0)))), none, none, none, none], [], S_) (fun r_ => ∃ u_ S1_, r_ = (.inl u_, S1_, 0) ∧ vq_337 m_ b_ n_ T_ A_ M_ c_ p_ S0_ u_ S1_)) := by
  intro nn_
  induction nn_ with
  | zero => exact ⟨fun _ _ _ _ _ h_ => absurd h_ (Nat.not_lt_zero _), fun _ _ _ _ _ _ h_ => absurd h_ (Nat.not_lt_zero _), fun  _ _ _ _ h_ => absurd h_ (Nat.not_lt_zero _)⟩
  | succ nn_ ih_ =>
    refine ⟨?_, ?_, ?_⟩
    · rintro k_ S_ hI_ hF_ ⟨g72_, k72_, re72_, rs72_, -⟩ hm_
      have le0_ := rg_le ht_ hx_
      have hn1_ := ht_.1
      have hAM_ := (hA_.2 M_ (Nat.le_refl M_)).1
      have t72_ := rtab_fr ht_ hF_ rfl rfl rfl rfl rfl
      refine sm_T_go 1 (c1 := (73, [some (.inr (.inr (some (13, 0)))), some (.inl m_), none, some (.inl k_), none], [.inr (.inr (some (13, 0)))], S_)) rfl ?_
      refine sm_T_cal (d1 := 2) (Q1 := vq_297 b_ n_ T_ (z_n2 b_ n_ A_ M_ p_) S_) rfl rfl (by decide) (vc_297 b_ n_ T_ (z_n2 b_ n_ A_ M_ p_) S_ hI_ (by exact t72_) (by exact g72_) (by (intro q_ e_; have z_ := n2_p e_; rw [z_.1, z_.2.1]; decide))) (fun u_ Sx1_ px4_ => ?_)
      obtain ⟨rfl, hIx2_, hFx3_, px4_⟩ := px4_
      have hFx5_ : ai_fr (sx_W vw_337) S0_ Sx1_ := ai_fr_tr hF_ (fr_le hFx3_ rfl)
      have t73_ := rtab_fr t72_ hFx3_ rfl rfl rfl rfl rfl
      have g73_ : rg b_ n_ T_ (pb (z_n2 b_ n_ A_ M_ p_) (p_ad b_ n_)) Sx1_ := px4_.1
      have re73_ : ∀ m_, m_ ≤ M_ → re1 b_ n_ T_ A_ m_ Sx1_ := fun m_ hm_ => re1_fr (re72_ m_ hm_) hFx3_ rfl rfl rfl rfl rfl rfl
      have rs73_ : ∀ m_, m_ ≤ M_ → rs1 A_ m_ Sx1_ := fun m_ hm_ => rs1_fr (rs72_ m_ hm_) hFx3_ rfl rfl rfl rfl
      have pl73_ : ∀ q_, pb (z_n2 b_ n_ A_ M_ p_) (p_ad b_ n_) = .inr q_ → Sx1_.2.2.1 120 0 (Sx1_.1 13 0 9).toNat = (q_ : Int) := fun q_ hq_ => (rg_le t73_ (by rw [hq_] at g73_; exact g73_)).2.2
      have bx6_ : 0 ≤ Sx1_.1 13 0 9 ∧ Sx1_.1 13 0 9 ≤ 1280 := hIx2_.1 13 0 9 rfl
      refine sm_T_go 5 (c1 := (86, [some (.inr (.inr (some (13, 0)))), some (.inl m_), none, some (.inl k_), some (.inl (Sx1_.1 13 0 9))], [.inl 256, .inr (.inr (some (13, 0)))], Sx1_)) rfl ?_
      refine sm_T_cal (d1 := 3) (Q1 := vq_300 256 b_ n_ T_ (pb (z_n2 b_ n_ A_ M_ p_) (p_ad b_ n_)) Sx1_) rfl rfl (by decide) (vc_300 256 b_ n_ T_ (pb (z_n2 b_ n_ A_ M_ p_) (p_ad b_ n_)) Sx1_ hIx2_ (by exact t73_) (by exact g73_) (by decide)) (fun u_ Sx7_ px10_ => ?_)
      obtain ⟨rfl, hIx8_, hFx9_, px10_⟩ := px10_
      have hFx11_ : ai_fr (sx_W vw_337) S0_ Sx7_ := ai_fr_tr hFx5_ (fr_le hFx9_ rfl)
      have g86_ : rg b_ n_ T_ (pb (z_n4 b_ n_ A_ M_ p_) fun a_ => .inr a_.2) Sx7_ := rg_pb (z_ := pb (z_n2 b_ n_ A_ M_ p_) (p_ad b_ n_)) (ps_ := fun a_ => a_) (g_ := p_nd b_ n_ 256) (by rw [pb_id]; exact px10_) (fun a_ _ => by rw [pb_as]; exact pb_id.symm)
      have re86_ : ∀ m_, m_ ≤ M_ → re1 b_ n_ T_ A_ m_ Sx7_ := fun m_ hm_ => re1_fr (re73_ m_ hm_) hFx9_ rfl rfl rfl rfl rfl rfl
      have rs86_ : ∀ m_, m_ ≤ M_ → rs1 A_ m_ Sx7_ := fun m_ hm_ => rs1_fr (rs73_ m_ hm_) hFx9_ rfl rfl rfl rfl
      have F86_ := hFx9_
      have pl86_ : ∀ a_, (z_n4 b_ n_ A_ M_ p_) = .inr a_ → Sx7_.2.2.1 120 0 (Sx1_.1 13 0 9).toNat = (a_.1 : Int) := fun a_ ha_ => by rw [fr_arr hFx9_ rfl]; obtain ⟨q_, h1_, h2_⟩ := pb_inr ha_; obtain ⟨r_, h3_, h4_⟩ := pb_inr h2_; cases h4_; exact pl73_ q_ h1_
      have k86_ : ∀ a_, (z_n4 b_ n_ A_ M_ p_) = .inr a_ → k_ = p_fn b_ n_ A_ M_ p_ ∧ 0 ≤ k_ ∧ k_ < (A_.1 M_ : Int) ∧ A_.2.2.1 (k_nx b_ n_ A_ M_ p_) = 3 := fun a_ ha_ => by obtain ⟨q_, h1_, h2_⟩ := pb_inr ha_; obtain ⟨q2_, h3_, h4_⟩ := pb_inr h1_; exact k72_ q2_ h3_
      refine sm_T_go 1 (c1 := (90, [some (.inr (.inr (some (13, 0)))), some (.inl m_), none, some (.inl k_), some (.inl (Sx1_.1 13 0 9))], [.inr (.inr (some (13, 0)))], Sx7_)) rfl ?_
      refine sm_T_cal (d1 := 0) (Q1 := vq_292  Sx7_) rfl rfl (by decide) (vc_292  Sx7_ hIx8_ ) (fun u_ Sx12_ px15_ => ?_)
      obtain ⟨rfl, vx17_, rfl, px15_⟩ := px15_
      have e90_ := px15_
      refine sm_T_b0 (a := 0) (z := 15) rfl (fun cx18_ => ?_) (fun cx18_ => ?_)
      · have cx18_ : vx17_ = 0 := of_decide_eq_true cx18_
        have hz_ := wr_if e90_ (by omega)
        obtain ⟨e5_, he5_⟩ := rg_wr g86_ hz_
        refine sm_T_go 0 (c1 := (108, [some (.inr (.inr (some (13, 0)))), some (.inl m_), none, some (.inl k_), some (.inl (Sx1_.1 13 0 9))], [], Sx7_)) rfl ?_
        refine ih_.2.1 k_ (Sx1_.1 13 0 9) Sx7_ hIx8_ hFx11_ ⟨?_, ?_, ?_, ?_, ?_, ?_, trivial⟩ ?_
        · first | exact g86_ | exact rg_fr (w_ := ([], [131], [])) g86_ (ai_fr_aI rfl) rfl rfl rfl
        · exact k86_
        · first | (intro a_ ha_; rw [he5_] at ha_; cases ha_; done) | (intro a_ ha_ m1_ hm1_; exact d2_re (re86_ m1_ hm1_) k54_ (by unfold k_nx; omega))
        · first | (intro m1_ hm1_; exact d2_rs (rs86_ m1_ hm1_)) | (intro m1_ hm1_; exact d2_rs (rs1_fr (w_ := ([], [131], [])) (rs86_ m1_ hm1_) (ai_fr_aI rfl) rfl rfl rfl rfl))
        · first | exact pl86_ | (intro a_ ha_; exact (rd_ne (by decide)).trans (pl86_ a_ ha_))
        · omega
        · omega
      · have cx18_ : ¬ (vx17_ = 0) := of_decide_eq_false cx18_
        have hz_ := rt_if e90_ (by omega)
        obtain ⟨a5_, ha5_⟩ := rg_rt g86_ hz_
        obtain ⟨k51_, k52_, k53_, k54_⟩ := k86_ a5_ ha5_
        refine sm_T_go 4 (c1 := (103, [some (.inr (.inr (some (13, 0)))), some (.inl m_), none, some (.inl k_), some (.inl (Sx1_.1 13 0 9))], [.inl m_, .inl 40, .inr (.inr (some (131, 0)))], Sx7_)) rfl ?_
        refine sm_T_bin (w := 40 * m_) rfl (bi_mul (by omega) (by omega) (by omega)) ?_
        refine sm_T_go 1 (c1 := (105, [some (.inr (.inr (some (13, 0)))), some (.inl m_), none, some (.inl k_), some (.inl (Sx1_.1 13 0 9))], [.inl k_, .inl (40 * m_), .inr (.inr (some (131, 0)))], Sx7_)) rfl ?_
        refine sm_T_bin (w := 40 * m_ + k_) rfl (bi_add (by omega) (by omega) (by omega)) ?_
        refine sm_T_go 1 (c1 := (107, [some (.inr (.inr (some (13, 0)))), some (.inl m_), none, some (.inl k_), some (.inl (Sx1_.1 13 0 9))], [.inl 1, .inl (40 * m_ + k_), .inr (.inr (some (131, 0)))], Sx7_)) rfl ?_
        refine sm_T_zas1 (n := 640) rfl rfl (by omega) (by omega) (by omega) ?_
        have hIx19_ : gi (sm_aI Sx7_ 131 0 (40 * m_ + k_).toNat 1) := gi_aI hIx8_ (show 0 ≤ 1 ∧ 1 ≤ 1 from ⟨by omega, by omega⟩)
        have hFx20_ : ai_fr (sx_W vw_337) S0_ (sm_aI Sx7_ 131 0 (40 * m_ + k_).toNat 1) := ai_fr_tr hFx11_ (ai_fr_aI rfl)
        refine sm_T_go 0 (c1 := (108, [some (.inr (.inr (some (13, 0)))), some (.inl m_), none, some (.inl k_), some (.inl (Sx1_.1 13 0 9))], [], sm_aI Sx7_ 131 0 (40 * m_ + k_).toNat 1)) rfl ?_
        refine ih_.2.1 k_ (Sx1_.1 13 0 9) (sm_aI Sx7_ 131 0 (40 * m_ + k_).toNat 1) hIx19_ hFx20_ ⟨?_, ?_, ?_, ?_, ?_, ?_, trivial⟩ ?_
        · first | exact g86_ | exact rg_fr (w_ := ([], [131], [])) g86_ (ai_fr_aI rfl) rfl rfl rfl
        · exact k86_
        · first | (intro a_ ha_; rw [he5_] at ha_; cases ha_; done) | (intro a_ ha_ m1_ hm1_; exact d2_re (re86_ m1_ hm1_) k54_ (by unfold k_nx; omega))
        · first | (intro m1_ hm1_; exact d2_rs (rs86_ m1_ hm1_)) | (intro m1_ hm1_; exact d2_rs (rs1_fr (w_ := ([], [131], [])) (rs86_ m1_ hm1_) (ai_fr_aI rfl) rfl rfl rfl rfl))
        · first | exact pl86_ | (intro a_ ha_; exact (rd_ne (by decide)).trans (pl86_ a_ ha_))
        · omega
        · omega
    · rintro k_ t4_ S_ hI_ hF_ ⟨g108_, k108_, re108_, rs108_, pl108_, tb_, -⟩ hm_
      have le0_ := rg_le ht_ hx_
      have hn1_ := ht_.1
      have hAM_ := (hA_.2 M_ (Nat.le_refl M_)).1
      have t108_ := rtab_fr ht_ hF_ rfl rfl rfl rfl rfl
      have mo108_ := (hF_.1 13 0 27 rfl).trans hmo_
      have md108_ := (hF_.1 13 0 28 rfl).trans hmd_
      refine sm_T_go 1 (c1 := (109, [some (.inr (.inr (some (13, 0)))), some (.inl m_), none, some (.inl k_), some (.inl t4_)], [.inr (.inr (some (13, 0)))], S_)) rfl ?_
      refine sm_T_cal (d1 := 7) (Q1 := vq_321 b_ n_ T_ 0 (pb (z_n4 b_ n_ A_ M_ p_) fun a_ => .inr a_.2) c_ (a_d2 A_ (k_nx b_ n_ A_ M_ p_)) M_ 0 (fun _ => 0) S_) rfl rfl (by decide) (vc_321 b_ n_ T_ 0 (pb (z_n4 b_ n_ A_ M_ p_) fun a_ => .inr a_.2) c_ (a_d2 A_ (k_nx b_ n_ A_ M_ p_)) M_ 0 (fun _ => 0) S_ hI_ (by exact t108_) (by exact g108_) (by exact Or.inl rfl) (by exact mo108_) (by (intro q_ hq_; obtain ⟨a_, h1_, h2_⟩ := pb_inr hq_; cases h2_; have h0_ := h1_; obtain ⟨q1_, h3_, h4_⟩ := pb_inr h1_; obtain ⟨r_, h5_, h6_⟩ := pb_inr h4_; cases h6_; obtain ⟨p1_, h7_, h8_⟩ := pb_inr h3_; obtain ⟨e1_, e2_, e3_⟩ := n2_p h7_; subst e1_; have k1_ := p_ad_ok le0_.1 (by omega) h8_; have k2_ := nd_ok k1_.2.2.1 (by decide) h5_; have k3_ := k1_.2.1; have k4_ := k2_.1; exact ⟨by show c_.length ≤ 3 * r_; omega, en_0 (a_d2_ok hA_) md108_ (re108_ _ h0_)⟩)) (by exact pm_0 (a_d2_ok hA_))) (fun u_ Sx1_ px4_ => ?_)
      obtain ⟨rfl, hIx2_, hFx3_, px4_⟩ := px4_
      have hFx5_ : ai_fr (sx_W vw_337) S0_ Sx1_ := ai_fr_tr hF_ (fr_le hFx3_ rfl)
      have g109_ : rg b_ n_ T_ (pb (z_ne b_ n_ A_ M_ c_ p_) fun a_ => .inr a_.2.1) Sx1_ := by have z_ := px4_.1; simp only [pb_as, pb_ir, xd_0, d2_xd] at z_; unfold z_ne; simp only [pb_as, pb_ir]; exact z_
      have v109_ : ∀ a_, z_ne b_ n_ A_ M_ c_ p_ = .inr a_ → Sx1_.2.2.1 138 0 (0 : Int).toNat = h_tp a_.2.2.1 := fun a_ ha_ => by obtain ⟨a0_, h1_, h2_⟩ := pb_inr ha_; obtain ⟨r_, h5_, h6_⟩ := pb_inr h2_; cases h6_; have k_ := px4_.2 r_ (by rw [h1_]; simp only [pb_ir]; rw [xd_0, d2_xd]; exact h5_); exact vs_1 k_.1 k_.2
      have z4_ : ∀ a_, z_ne b_ n_ A_ M_ c_ p_ = .inr a_ → ∃ r_, (z_n4 b_ n_ A_ M_ p_) = .inr (a_.1, r_) := fun a_ ha_ => by obtain ⟨a0_, h1_, h2_⟩ := pb_inr ha_; obtain ⟨r_, h5_, h6_⟩ := pb_inr h2_; cases h6_; exact ⟨a0_.2, h1_⟩
      have re109_ : ∀ a_, (z_n4 b_ n_ A_ M_ p_) = .inr a_ → ∀ m_, m_ ≤ M_ → re1 b_ n_ T_ (a_d2 A_ (k_nx b_ n_ A_ M_ p_)) m_ Sx1_ := fun a_ ha_ m_ hm_ => re1_fr (re108_ a_ ha_ m_ hm_) hFx3_ rfl rfl rfl rfl rfl rfl
      have rs109_ : ∀ m_, m_ ≤ M_ → rs1 (a_d2 A_ (k_nx b_ n_ A_ M_ p_)) m_ Sx1_ := fun m_ hm_ => rs1_fr (rs108_ m_ hm_) hFx3_ rfl rfl rfl rfl
      have pl109_ : ∀ a_, (z_n4 b_ n_ A_ M_ p_) = .inr a_ → Sx1_.2.2.1 120 0 t4_.toNat = (a_.1 : Int) := fun a_ ha_ => by rw [fr_arr hFx3_ rfl]; exact pl108_ a_ ha_
      refine sm_T_go 1 (c1 := (113, [some (.inr (.inr (some (13, 0)))), some (.inl m_), none, some (.inl k_), some (.inl t4_)], [.inr (.inr (some (13, 0)))], Sx1_)) rfl ?_
      refine sm_T_cal (d1 := 0) (Q1 := vq_292  Sx1_) rfl rfl (by decide) (vc_292  Sx1_ hIx2_ ) (fun u_ Sx6_ px9_ => ?_)
      obtain ⟨rfl, vx11_, rfl, px9_⟩ := px9_
      have e113_ := px9_
      refine sm_T_b0 (a := 0) (z := 31) rfl (fun cx12_ => ?_) (fun cx12_ => ?_)
      · have cx12_ : vx11_ = 0 := of_decide_eq_true cx12_
        have hz_ := wr_if e113_ (by omega)
        obtain ⟨e5_, he5_⟩ := rg_wr g109_ hz_
        have g6x : rg b_ n_ T_ (pb (pb (z_ne b_ n_ A_ M_ c_ p_) (z_nc (A_.2.2.2.1 (k_nx b_ n_ A_ M_ p_)))) fun a_ => .inr a_.2.1) _ := rg_il g109_ he5_
        have re6_ := re109_
        have rs6_ := rs109_
        refine sm_T_go 0 (c1 := (147, [some (.inr (.inr (some (13, 0)))), some (.inl m_), none, some (.inl k_), some (.inl t4_)], [], Sx1_)) rfl ?_
        refine sm_T_wk [some (.inr (.inr (some (13, 0)))), none, none, none, none] (by exact ⟨rfl, trivial⟩) ?_
        refine ih_.2.2  Sx1_ hIx2_ hFx5_ ⟨?_, ?_, ?_, trivial⟩ ?_
        · exact g6x
        · exact re6_
        · exact rs6_
        · omega
      · have cx12_ : ¬ (vx11_ = 0) := of_decide_eq_false cx12_
        have hz_ := rt_if e113_ (by omega)
        obtain ⟨a5_, ha5_⟩ := rg_rt g109_ hz_
        obtain ⟨r5_, hr5_⟩ := z4_ a5_ ha5_
        have v5_ := v109_ a5_ ha5_
        obtain ⟨k51_, k52_, k53_, k54_⟩ := k108_ _ hr5_
        have wd5_ := ((re109_ _ hr5_ M_ (Nat.le_refl M_)).2 (p_fn b_ n_ A_ M_ p_).toNat (by rw [d2_1.1]; omega)).2.2.1
        rw [d2_1.2.2.1, show 40 * M_ + (p_fn b_ n_ A_ M_ p_).toNat = (40 * m_ + k_).toNat by omega] at wd5_
        have kx5_ : (k_nx b_ n_ A_ M_ p_) = (40 * m_ + k_).toNat := by unfold k_nx; omega
        have pl5_ := pl109_ _ hr5_
        refine sm_T_go 3 (c1 := (124, [some (.inr (.inr (some (13, 0)))), some (.inl m_), none, some (.inl k_), some (.inl t4_)], [.inl 0, .inr (.inr (some (138, 0)))], Sx1_)) rfl ?_
        refine sm_T_iald (n := 1024) rfl rfl (by omega) (by omega) ?_
        have bx13_ : (-2147483648) ≤ Sx1_.2.2.1 138 0 (0 : Int).toNat ∧ Sx1_.2.2.1 138 0 (0 : Int).toNat ≤ 2147483647 := hIx2_.2 138 0 _
        refine sm_T_go 4 (c1 := (132, [some (.inr (.inr (some (13, 0)))), some (.inl m_), none, some (.inl k_), some (.inl t4_)], [.inl m_, .inl 40, .inr (.inr (some (129, 0))), .inl (Sx1_.2.2.1 138 0 (0 : Int).toNat)], Sx1_)) rfl ?_
        refine sm_T_bin (w := 40 * m_) rfl (bi_mul (by omega) (by omega) (by omega)) ?_
        refine sm_T_go 1 (c1 := (134, [some (.inr (.inr (some (13, 0)))), some (.inl m_), none, some (.inl k_), some (.inl t4_)], [.inl k_, .inl (40 * m_), .inr (.inr (some (129, 0))), .inl (Sx1_.2.2.1 138 0 (0 : Int).toNat)], Sx1_)) rfl ?_
        refine sm_T_bin (w := 40 * m_ + k_) rfl (bi_add (by omega) (by omega) (by omega)) ?_
        refine sm_T_iald (n := 640) rfl rfl (by omega) (by omega) ?_
        have bx14_ : 0 ≤ Sx1_.2.2.1 129 0 (40 * m_ + k_).toNat ∧ Sx1_.2.2.1 129 0 (40 * m_ + k_).toNat ≤ 8 := hIx2_.2 129 0 _
        refine sm_T_br (a := 0) (z := 11) rfl (fun cx15_ => ?_) (fun cx15_ => ?_)
        · have cx15_ : (Sx1_.2.2.1 138 0 (0 : Int).toNat) = (Sx1_.2.2.1 129 0 (40 * m_ + k_).toNat) := of_decide_eq_true cx15_
          have g6x : rg b_ n_ T_ (pb (pb (z_ne b_ n_ A_ M_ c_ p_) (z_nc (A_.2.2.2.1 (k_nx b_ n_ A_ M_ p_)))) fun a_ => .inr a_.2.1) _ := rg_ok g109_ (fun a_ ha_ => by rw [ha5_] at ha_; cases ha_; unfold z_nc; rw [if_pos (by rw [kx5_]; omega)])
          have re6_ := re109_
          have rs6_ := rs109_
          refine sm_T_go 0 (c1 := (147, [some (.inr (.inr (some (13, 0)))), some (.inl m_), none, some (.inl k_), some (.inl t4_)], [], Sx1_)) rfl ?_
          refine sm_T_wk [some (.inr (.inr (some (13, 0)))), none, none, none, none] (by exact ⟨rfl, trivial⟩) ?_
          refine ih_.2.2  Sx1_ hIx2_ hFx5_ ⟨?_, ?_, ?_, trivial⟩ ?_
          · exact g6x
          · exact re6_
          · exact rs6_
          · omega
        · have cx15_ : ¬ ((Sx1_.2.2.1 138 0 (0 : Int).toNat) = (Sx1_.2.2.1 129 0 (40 * m_ + k_).toNat)) := of_decide_eq_false cx15_
          refine sm_T_go 3 (c1 := (144, [some (.inr (.inr (some (13, 0)))), some (.inl m_), none, some (.inl k_), some (.inl t4_)], [.inl t4_, .inl 13, .inr (.inr (some (13, 0)))], Sx1_)) rfl ?_
          refine sm_T_cal (d1 := 0) (Q1 := vq_294 13 t4_ Sx1_) rfl rfl (by decide) (vc_294 13 t4_ Sx1_ hIx2_ (by decide) (by omega)) (fun u_ Sx16_ px19_ => ?_)
          obtain ⟨rfl, hIx17_, hFx18_, px19_⟩ := px19_
          have hFx20_ : ai_fr (sx_W vw_337) S0_ Sx16_ := ai_fr_tr hFx5_ (fr_le hFx18_ rfl)
          have g6x : rg b_ n_ T_ (pb (pb (z_ne b_ n_ A_ M_ c_ p_) (z_nc (A_.2.2.2.1 (k_nx b_ n_ A_ M_ p_)))) fun a_ => .inr a_.2.1) Sx16_ := rg_fb (fl_ := 13) (pl_ := a5_.1) g109_ hz_ (fun a_ ha_ => by rw [ha5_] at ha_; cases ha_; unfold z_nc; rw [if_neg (by rw [kx5_]; omega)]) (by decide) (by rcases px19_ with w9_ | w9_; (exact Or.inl w9_); (exact Or.inr ⟨w9_.1, w9_.2.1, w9_.2.2.trans pl5_⟩))
          have re6_ : ∀ a_, (z_n4 b_ n_ A_ M_ p_) = .inr a_ → ∀ m_, m_ ≤ M_ → re1 b_ n_ T_ (a_d2 A_ (k_nx b_ n_ A_ M_ p_)) m_ Sx16_ := fun a_ ha_ m_ hm_ => re1_fr (re109_ a_ ha_ m_ hm_) hFx18_ rfl rfl rfl rfl rfl rfl
          have rs6_ : ∀ m_, m_ ≤ M_ → rs1 (a_d2 A_ (k_nx b_ n_ A_ M_ p_)) m_ Sx16_ := fun m_ hm_ => rs1_fr (rs109_ m_ hm_) hFx18_ rfl rfl rfl rfl
          refine sm_T_go 0 (c1 := (147, [some (.inr (.inr (some (13, 0)))), some (.inl m_), none, some (.inl k_), some (.inl t4_)], [], Sx16_)) rfl ?_
          refine sm_T_wk [some (.inr (.inr (some (13, 0)))), none, none, none, none] (by exact ⟨rfl, trivial⟩) ?_
          refine ih_.2.2  Sx16_ hIx17_ hFx20_ ⟨?_, ?_, ?_, trivial⟩ ?_
          · exact g6x
          · exact re6_
          · exact rs6_
          · omega
    · rintro  S_ hI_ hF_ ⟨g147_, re147_, rs147_, -⟩ hm_
      have le0_ := rg_le ht_ hx_
      have hn1_ := ht_.1
      have hAM_ := (hA_.2 M_ (Nat.le_refl M_)).1
      have t147_ := rtab_fr ht_ hF_ rfl rfl rfl rfl rfl
      refine sm_T_go 2 (c1 := (150, [some (.inr (.inr (some (13, 0)))), none, none, none, none], [.inl 59, .inr (.inr (some (13, 0)))], S_)) rfl ?_
      refine sm_T_cal (d1 := 3) (Q1 := vq_300 59 b_ n_ T_ (pb (pb (z_ne b_ n_ A_ M_ c_ p_) (z_nc (A_.2.2.2.1 (k_nx b_ n_ A_ M_ p_)))) fun a_ => .inr a_.2.1) S_) rfl rfl (by decide) (vc_300 59 b_ n_ T_ (pb (pb (z_ne b_ n_ A_ M_ c_ p_) (z_nc (A_.2.2.2.1 (k_nx b_ n_ A_ M_ p_)))) fun a_ => .inr a_.2.1) S_ hI_ (by exact t147_) (by exact g147_) (by decide)) (fun u_ Sx1_ px4_ => ?_)
      obtain ⟨rfl, hIx2_, hFx3_, px4_⟩ := px4_
      have hFx5_ : ai_fr (sx_W vw_337) S0_ Sx1_ := ai_fr_tr hF_ (fr_le hFx3_ rfl)
      have g150_ : rg b_ n_ T_ (pb (pb (pb (z_ne b_ n_ A_ M_ c_ p_) (z_nc (A_.2.2.2.1 (k_nx b_ n_ A_ M_ p_)))) (z_ns b_ n_)) fun a_ => .inr a_.2) Sx1_ := rg_pb px4_ (fun a_ _ => by unfold z_ns; rw [pb_as]; exact pb_id.symm)
      have F150_ := hFx3_
      refine sm_T_rv rfl ⟨_, _, rfl, rfl, hIx2_, hFx5_, ?_⟩
      refine ⟨?_, fun r_ hr_ => ?_⟩
      · rw [ne_eq2, pb_as]; exact g150_
      · have k_ := ne_ok hn1_ hA_ le0_.1 hc_ hr_
        rw [ne_eq2] at hr_
        obtain ⟨a_, h1_, h2_⟩ := pb_inr hr_
        obtain ⟨a2_, h3_, h4_⟩ := pb_inr h1_
        obtain ⟨a3_, h5_, h6_⟩ := pb_inr h3_
        obtain ⟨a4_, h7_, h8_⟩ := pb_inr h5_
        refine ⟨k_.1, fun m_ hm_ => ?_, fun m_ hm_ => ?_, k_.2.1⟩
        · rw [k_.2.2.2]; exact re1_fr (re147_ a4_ h7_ m_ hm_) F150_ rfl rfl rfl rfl rfl rfl
        · rw [k_.2.2.2]; exact rs1_fr (rs147_ m_ hm_) F150_ rfl rfl rfl rfl
set_option maxHeartbeats 1500000 in
theorem vc_337 {sc_ : Nat × (Nat → Int)} (m_ : Int) (b_ : Nat → Int) (n_ : Nat) (T_ : Nat) (A_ : pA) (M_ : Nat) (c_ : List Int) (p_ : Nat) (S0_ : sm_S) (hI_ : gi S0_) (ht_ : rtab b_ n_ T_ S0_) (hx_ : rg b_ n_ T_ (.inr p_) S0_) (hmo_ : (S0_.1 13 0 27) = 0) (hmm_ : m_ = (M_ : Int) ∧ M_ ≤ 15) (hmd_ : (S0_.1 13 0 28) = (M_ : Int)) (hA_ : a_ok b_ n_ A_ M_) (hre_ : ∀ m_, m_ ≤ M_ → re1 b_ n_ T_ A_ m_ S0_) (hrs_ : ∀ m_, m_ ≤ M_ → rs1 A_ m_ S0_) (hc_ : c_.length ≤ 3 * p_) : sm_T (mt_P sc_) 8 337 (0, [some (.inr (.inr (some (13, 0)))), some (.inl m_), none, none, none], [], S0_) (fun r_ => ∃ u_ S1_, r_ = (.inl u_, S1_, 0) ∧ vq_337 m_ b_ n_ T_ A_ M_ c_ p_ S0_ u_ S1_) := by
  have hF_ : ai_fr (sx_W vw_337) S0_ S0_ := ai_fr_rf
  have le0_ := rg_le ht_ hx_
  have hn1_ := ht_.1
  have hAM_ := (hA_.2 M_ (Nat.le_refl M_)).1
  refine sm_T_go 2 (c1 := (2, [some (.inr (.inr (some (13, 0)))), some (.inl m_), none, none, none], [.inl 1, .inr (.inr (some (13, 0)))], S0_)) rfl ?_
  refine sm_T_cal (d1 := 1) (Q1 := vq_299 1 b_ n_ T_ (.inr p_) S0_) rfl rfl (by decide) (vc_299 1 b_ n_ T_ (.inr p_) S0_ hI_ (by exact ht_) (by exact hx_) (by decide)) (fun u_ Sx1_ px4_ => ?_)
  obtain ⟨vx6_, rfl, hIx2_, hFx3_, px4_⟩ := px4_
  have hFx5_ : ai_fr (sx_W vw_337) S0_ Sx1_ := ai_fr_tr hF_ (fr_le hFx3_ rfl)
  have t2_ := rtab_fr ht_ hFx3_ rfl rfl rfl rfl rfl
  have re2_ : ∀ m_, m_ ≤ M_ → re1 b_ n_ T_ A_ m_ Sx1_ := fun m_ hm_ => re1_fr (hre_ m_ hm_) hFx3_ rfl rfl rfl rfl rfl rfl
  have rs2_ : ∀ m_, m_ ≤ M_ → rs1 A_ m_ Sx1_ := fun m_ hm_ => rs1_fr (hrs_ m_ hm_) hFx3_ rfl rfl rfl rfl
  have mo2_ := (hFx3_.1 13 0 27 rfl).trans hmo_
  have md2_ := (hFx3_.1 13 0 28 rfl).trans hmd_
  have a2_ := px4_.1
  have g2_ : rg b_ n_ T_ (p_du b_ n_ 1 p_) Sx1_ := px4_.2
  have at2_ := hFx3_.1 13 0 9 rfl
  have v2b : 0 ≤ vx6_ ∧ vx6_ ≤ 1280 := by rw [a2_, ← at2_]; exact hIx2_.1 13 0 9 rfl
  obtain ⟨i2_, hi21_, hi22_⟩ := id hx_.2
  have ra2_ := rp_at t2_ hi22_
  have rt2_ : lx_kd b_ n_ p_ = 1 → rtk b_ n_ T_ vx6_ p_ ∧ Sx1_.2.2.1 120 0 vx6_.toNat = (p_ : Int) ∧ Sx1_.2.2.1 119 0 vx6_.toNat ≠ 4 := by intro q3_; rw [show vx6_ = (i2_ : Int) by omega, Int.toNat_natCast]; exact ⟨(rp_rtk t2_ hi22_ q3_).1, ra2_.2.1, by rw [ra2_.1, q3_]; decide⟩
  refine sm_T_go 2 (c1 := (7, [some (.inr (.inr (some (13, 0)))), some (.inl m_), some (.inl vx6_), none, none], [.inr (.inr (some (13, 0)))], Sx1_)) rfl ?_
  refine sm_T_cal (d1 := 0) (Q1 := vq_292  Sx1_) rfl rfl (by decide) (vc_292  Sx1_ hIx2_ ) (fun u_ Sx7_ px10_ => ?_)
  obtain ⟨rfl, vx12_, rfl, px10_⟩ := px10_
  have e7_ := px10_
  refine sm_T_b0 (a := 0) (z := 12) rfl (fun cx13_ => ?_) (fun cx13_ => ?_)
  · have cx13_ : vx12_ = 0 := of_decide_eq_true cx13_
    have hz_ := wr_if e7_ (by omega)
    obtain ⟨e5_, he5_⟩ := rg_w g2_ hz_
    have n2w : (z_n2 b_ n_ A_ M_ p_) = .inl e5_ := by unfold z_n2; rw [he5_]; rfl
    refine sm_T_go 3 (c1 := (25, [some (.inr (.inr (some (13, 0)))), some (.inl m_), some (.inl vx6_), some (.inl (-1)), none], [.inr (.inr (some (13, 0)))], Sx1_)) rfl ?_
    refine sm_T_cal (d1 := 0) (Q1 := vq_292  Sx1_) rfl rfl (by decide) (vc_292  Sx1_ hIx2_ ) (fun u_ Sx14_ px17_ => ?_)
    obtain ⟨rfl, vx19_, rfl, px17_⟩ := px17_
    have e25_ := px17_
    refine sm_T_b0 (a := 0) (z := 44) rfl (fun cx20_ => ?_) (fun cx20_ => ?_)
    · have cx20_ : vx19_ = 0 := of_decide_eq_true cx20_
      have hz3_ := wr_if e25_ (by omega)
      refine sm_T_go 0 (c1 := (72, [some (.inr (.inr (some (13, 0)))), some (.inl m_), some (.inl vx6_), some (.inl (-1)), none], [], Sx1_)) rfl ?_
      refine sm_T_wk [some (.inr (.inr (some (13, 0)))), some (.inl m_), none, some (.inl (-1)), none] (by exact ⟨rfl, rfl, rfl, trivial⟩) ?_
      refine (vl_337 m_ b_ n_ T_ A_ M_ c_ p_ S0_ ht_ hx_ hmo_ hmm_ hmd_ hA_ hre_ hrs_ hc_ _).1 (-1) Sx1_ hIx2_ hFx5_ ⟨?_, ?_, ?_, ?_, trivial⟩ (Nat.lt_succ_self _)
      · first | exact g69_ | (exact absurd hz3_ hz_) | (exact absurd hz_ hz3_) | (rw [n2w]; rw [he5_] at g2_; exact g2_) | (have cn_ : ¬ c_ne b_ n_ A_ M_ p_ := (by unfold c_ne; rintro (z_ | z_); omega; (apply z_; show A_.2.2.1 (k_nx b_ n_ A_ M_ p_) = 3; have z2_ := q33_.1; have z3_ := q33_.2.1; have z4_ := q33_.2.2; by_cases z5_ : A_.2.2.1 (k_nx b_ n_ A_ M_ p_) = 4; (rw [if_pos z5_] at z3_; omega); (unfold r_s2 at z2_; split at z2_ <;> (try split at z2_) <;> omega))); rw [n2c, if_neg cn_]; exact g2r)
      · first | (exact absurd hz3_ hz_) | (exact absurd hz_ hz3_) | (intro q_ hq_; rw [n2w] at hq_; cases hq_; done) | (intro q_ hq_; exfalso; rcases w69_ with z_ | z_; (rw [z_] at hq_; cases hq_); exact z_ rfl) | (intro q_ hq_; have cn_ : ¬ c_ne b_ n_ A_ M_ p_ := (by unfold c_ne; rintro (z_ | z_); omega; (apply z_; show A_.2.2.1 (k_nx b_ n_ A_ M_ p_) = 3; have z2_ := q33_.1; have z3_ := q33_.2.1; have z4_ := q33_.2.2; by_cases z5_ : A_.2.2.1 (k_nx b_ n_ A_ M_ p_) = 4; (rw [if_pos z5_] at z3_; omega); (unfold r_s2 at z2_; split at z2_ <;> (try split at z2_) <;> omega))); exact ⟨e16_, by omega, by omega, Decidable.byContradiction fun z_ => cn_ (Or.inr z_)⟩)
      · first | exact re69_ | exact re2_
      · first | exact rs69_ | exact rs2_
    · have cx20_ : ¬ (vx19_ = 0) := of_decide_eq_false cx20_
      have hz3_ := rt_if e25_ (by omega)
      refine sm_T_go 6 (c1 := (69, [some (.inr (.inr (some (13, 0)))), some (.inl m_), some (.inl vx6_), some (.inl (-1)), none], [.inl vx6_, .inl 11, .inr (.inr (some (13, 0)))], Sx1_)) rfl ?_
      refine sm_T_cal (d1 := 0) (Q1 := vq_293 11 vx6_ Sx1_) rfl rfl (by decide) (vc_293 11 vx6_ Sx1_ hIx2_ (by decide) (by omega)) (fun u_ Sx21_ px24_ => ?_)
      obtain ⟨rfl, hIx22_, hFx23_, px24_⟩ := px24_
      have hFx25_ : ai_fr (sx_W vw_337) S0_ Sx21_ := ai_fr_tr hFx5_ (fr_le hFx23_ rfl)
      have re69_ : ∀ m_, m_ ≤ M_ → re1 b_ n_ T_ A_ m_ Sx21_ := fun m_ hm_ => re1_fr (re2_ m_ hm_) hFx23_ rfl rfl rfl rfl rfl rfl
      have rs69_ : ∀ m_, m_ ≤ M_ → rs1 A_ m_ Sx21_ := fun m_ hm_ => rs1_fr (rs2_ m_ hm_) hFx23_ rfl rfl rfl rfl
      have g69_ : rg b_ n_ T_ (z_n2 b_ n_ A_ M_ p_) Sx21_ := by first | (exact absurd hz3_ hz_) | (have cn_ : c_ne b_ n_ A_ M_ p_ := (by unfold c_ne; first | (left; omega) | (right; intro z_; have z_ : A_.2.2.1 (k_nx b_ n_ A_ M_ p_) = 3 := z_; rw [z_] at q33_; have z1_ : r_s2 3 = 4 := rfl; have z2_ := q33_.1; have z3_ := q33_.2.1; rw [if_neg (by decide)] at z3_; omega)); rw [n2c, if_pos cn_]; rcases px24_ with z_ | z_; (exact absurd hz_ z_.1); (exact ⟨z_.2.1.trans (if_neg rt3_.2.2), z_.2.2.trans rt3_.2.1, by show (11 : Int) ≠ 0; decide⟩))
      have w69_ : (z_n2 b_ n_ A_ M_ p_) = .inl (11, p_) ∨ S0_.1 13 0 10 ≠ S0_.1 13 0 10 := by first | (exact absurd hz3_ hz_) | (have cn_ : c_ne b_ n_ A_ M_ p_ := (by unfold c_ne; first | (left; omega) | (right; intro z_; have z_ : A_.2.2.1 (k_nx b_ n_ A_ M_ p_) = 3 := z_; rw [z_] at q33_; have z1_ : r_s2 3 = 4 := rfl; have z2_ := q33_.1; have z3_ := q33_.2.1; rw [if_neg (by decide)] at z3_; omega)); left; rw [n2c, if_pos cn_])
      refine sm_T_go 0 (c1 := (72, [some (.inr (.inr (some (13, 0)))), some (.inl m_), some (.inl vx6_), some (.inl (-1)), none], [], Sx21_)) rfl ?_
      refine sm_T_wk [some (.inr (.inr (some (13, 0)))), some (.inl m_), none, some (.inl (-1)), none] (by exact ⟨rfl, rfl, rfl, trivial⟩) ?_
      refine (vl_337 m_ b_ n_ T_ A_ M_ c_ p_ S0_ ht_ hx_ hmo_ hmm_ hmd_ hA_ hre_ hrs_ hc_ _).1 (-1) Sx21_ hIx22_ hFx25_ ⟨?_, ?_, ?_, ?_, trivial⟩ (Nat.lt_succ_self _)
      · first | exact g69_ | (exact absurd hz3_ hz_) | (exact absurd hz_ hz3_) | (rw [n2w]; rw [he5_] at g2_; exact g2_) | (have cn_ : ¬ c_ne b_ n_ A_ M_ p_ := (by unfold c_ne; rintro (z_ | z_); omega; (apply z_; show A_.2.2.1 (k_nx b_ n_ A_ M_ p_) = 3; have z2_ := q33_.1; have z3_ := q33_.2.1; have z4_ := q33_.2.2; by_cases z5_ : A_.2.2.1 (k_nx b_ n_ A_ M_ p_) = 4; (rw [if_pos z5_] at z3_; omega); (unfold r_s2 at z2_; split at z2_ <;> (try split at z2_) <;> omega))); rw [n2c, if_neg cn_]; exact g2r)
      · first | (exact absurd hz3_ hz_) | (exact absurd hz_ hz3_) | (intro q_ hq_; rw [n2w] at hq_; cases hq_; done) | (intro q_ hq_; exfalso; rcases w69_ with z_ | z_; (rw [z_] at hq_; cases hq_); exact z_ rfl) | (intro q_ hq_; have cn_ : ¬ c_ne b_ n_ A_ M_ p_ := (by unfold c_ne; rintro (z_ | z_); omega; (apply z_; show A_.2.2.1 (k_nx b_ n_ A_ M_ p_) = 3; have z2_ := q33_.1; have z3_ := q33_.2.1; have z4_ := q33_.2.2; by_cases z5_ : A_.2.2.1 (k_nx b_ n_ A_ M_ p_) = 4; (rw [if_pos z5_] at z3_; omega); (unfold r_s2 at z2_; split at z2_ <;> (try split at z2_) <;> omega))); exact ⟨e16_, by omega, by omega, Decidable.byContradiction fun z_ => cn_ (Or.inr z_)⟩)
      · first | exact re69_ | exact re2_
      · first | exact rs69_ | exact rs2_
  · have cx13_ : ¬ (vx12_ = 0) := of_decide_eq_false cx13_
    have hz_ := rt_if e7_ (by omega)
    have k1_ : lx_kd b_ n_ p_ = 1 := by by_cases z_ : lx_kd b_ n_ p_ = 1; exact z_; (exfalso; rw [show p_du b_ n_ 1 p_ = .inl (2, p_) from if_neg z_] at g2_; exact g2_.2.2 (g2_.1.symm.trans hz_))
    have g2r := g2_
    rw [show p_du b_ n_ 1 p_ = .inr p_ from if_pos k1_] at g2r
    have rt3_ := rt2_ k1_
    have n2c : (z_n2 b_ n_ A_ M_ p_) = if c_ne b_ n_ A_ M_ p_ then .inl (11, p_) else .inr p_ := by unfold z_n2 p_du; rw [if_pos k1_]; rfl
    refine sm_T_go 3 (c1 := (16, [some (.inr (.inr (some (13, 0)))), some (.inl m_), some (.inl vx6_), none, none], [.inl vx6_, .inl m_, .inr (.inr (some (13, 0)))], Sx1_)) rfl ?_
    refine sm_T_cal (d1 := 1) (Q1 := vq_302 m_ vx6_ b_ n_ T_ A_ M_ p_ Sx1_) rfl rfl (by decide) (vc_302 m_ vx6_ b_ n_ T_ A_ M_ p_ Sx1_ hIx2_ (by exact t2_) (by exact hmm_) (by exact re2_ M_ (Nat.le_refl M_)) (by exact hAM_) (by exact rt3_.1)) (fun u_ Sx26_ px29_ => ?_)
    obtain ⟨rfl, vx31_, rfl, px29_⟩ := px29_
    have e16_ := px29_
    have fb_ := p_fd_b (f_ := fun s_ => nm_q b_ n_ (A_.2.1 (40 * M_ + s_)) p_) (A_.1 M_)
    have fb_ : -1 ≤ p_fn b_ n_ A_ M_ p_ ∧ p_fn b_ n_ A_ M_ p_ < (A_.1 M_ : Int) := fb_
    have q16_ : p_fn b_ n_ A_ M_ p_ ≠ -1 → Sx1_.2.2.1 128 0 (40 * m_ + vx31_).toNat = r_s2 (A_.2.2.1 (k_nx b_ n_ A_ M_ p_)) ∧ Sx1_.2.2.1 131 0 (40 * m_ + vx31_).toNat = (if A_.2.2.1 (k_nx b_ n_ A_ M_ p_) = 4 then 1 else 0) ∧ (0 ≤ A_.2.2.1 (k_nx b_ n_ A_ M_ p_) ∧ A_.2.2.1 (k_nx b_ n_ A_ M_ p_) ≤ 5) := by intro z_; rw [show (40 * m_ + vx31_).toNat = 40 * M_ + (p_fn b_ n_ A_ M_ p_).toNat by omega]; have w_ := (re2_ M_ (Nat.le_refl M_)).2 (p_fn b_ n_ A_ M_ p_).toNat (by omega); exact ⟨w_.2.1, w_.2.2.2.2, ((hA_.2 M_ (Nat.le_refl M_)).2 (p_fn b_ n_ A_ M_ p_).toNat (by omega)).2.1⟩
    have v16b : -1 ≤ vx31_ ∧ vx31_ < 40 := by omega
    refine sm_T_go 3 (c1 := (25, [some (.inr (.inr (some (13, 0)))), some (.inl m_), some (.inl vx6_), some (.inl vx31_), none], [.inr (.inr (some (13, 0)))], Sx1_)) rfl ?_
    refine sm_T_cal (d1 := 0) (Q1 := vq_292  Sx1_) rfl rfl (by decide) (vc_292  Sx1_ hIx2_ ) (fun u_ Sx32_ px35_ => ?_)
    obtain ⟨rfl, vx37_, rfl, px35_⟩ := px35_
    have e25_ := px35_
    refine sm_T_b0 (a := 0) (z := 44) rfl (fun cx38_ => ?_) (fun cx38_ => ?_)
    · have cx38_ : vx37_ = 0 := of_decide_eq_true cx38_
      have hz3_ := wr_if e25_ (by omega)
      refine sm_T_go 0 (c1 := (72, [some (.inr (.inr (some (13, 0)))), some (.inl m_), some (.inl vx6_), some (.inl vx31_), none], [], Sx1_)) rfl ?_
      refine sm_T_wk [some (.inr (.inr (some (13, 0)))), some (.inl m_), none, some (.inl vx31_), none] (by exact ⟨rfl, rfl, rfl, trivial⟩) ?_
      refine (vl_337 m_ b_ n_ T_ A_ M_ c_ p_ S0_ ht_ hx_ hmo_ hmm_ hmd_ hA_ hre_ hrs_ hc_ _).1 vx31_ Sx1_ hIx2_ hFx5_ ⟨?_, ?_, ?_, ?_, trivial⟩ (Nat.lt_succ_self _)
      · first | exact g69_ | (exact absurd hz3_ hz_) | (exact absurd hz_ hz3_) | (rw [n2w]; rw [he5_] at g2_; exact g2_) | (have cn_ : ¬ c_ne b_ n_ A_ M_ p_ := (by unfold c_ne; rintro (z_ | z_); omega; (apply z_; show A_.2.2.1 (k_nx b_ n_ A_ M_ p_) = 3; have z2_ := q33_.1; have z3_ := q33_.2.1; have z4_ := q33_.2.2; by_cases z5_ : A_.2.2.1 (k_nx b_ n_ A_ M_ p_) = 4; (rw [if_pos z5_] at z3_; omega); (unfold r_s2 at z2_; split at z2_ <;> (try split at z2_) <;> omega))); rw [n2c, if_neg cn_]; exact g2r)
      · first | (exact absurd hz3_ hz_) | (exact absurd hz_ hz3_) | (intro q_ hq_; rw [n2w] at hq_; cases hq_; done) | (intro q_ hq_; exfalso; rcases w69_ with z_ | z_; (rw [z_] at hq_; cases hq_); exact z_ rfl) | (intro q_ hq_; have cn_ : ¬ c_ne b_ n_ A_ M_ p_ := (by unfold c_ne; rintro (z_ | z_); omega; (apply z_; show A_.2.2.1 (k_nx b_ n_ A_ M_ p_) = 3; have z2_ := q33_.1; have z3_ := q33_.2.1; have z4_ := q33_.2.2; by_cases z5_ : A_.2.2.1 (k_nx b_ n_ A_ M_ p_) = 4; (rw [if_pos z5_] at z3_; omega); (unfold r_s2 at z2_; split at z2_ <;> (try split at z2_) <;> omega))); exact ⟨e16_, by omega, by omega, Decidable.byContradiction fun z_ => cn_ (Or.inr z_)⟩)
      · first | exact re69_ | exact re2_
      · first | exact rs69_ | exact rs2_
    · have cx38_ : ¬ (vx37_ = 0) := of_decide_eq_false cx38_
      have hz3_ := rt_if e25_ (by omega)
      refine sm_T_go 2 (c1 := (33, [some (.inr (.inr (some (13, 0)))), some (.inl m_), some (.inl vx6_), some (.inl vx31_), none], [.inl (-1), .inl vx31_], Sx1_)) rfl ?_
      refine sm_T_br (a := 0) (z := 32) rfl (fun cx39_ => ?_) (fun cx39_ => ?_)
      · have cx39_ : vx31_ = (-1) := of_decide_eq_true cx39_
        refine sm_T_go 3 (c1 := (69, [some (.inr (.inr (some (13, 0)))), some (.inl m_), some (.inl vx6_), some (.inl vx31_), none], [.inl vx6_, .inl 11, .inr (.inr (some (13, 0)))], Sx1_)) rfl ?_
        refine sm_T_cal (d1 := 0) (Q1 := vq_293 11 vx6_ Sx1_) rfl rfl (by decide) (vc_293 11 vx6_ Sx1_ hIx2_ (by decide) (by omega)) (fun u_ Sx40_ px43_ => ?_)
        obtain ⟨rfl, hIx41_, hFx42_, px43_⟩ := px43_
        have hFx44_ : ai_fr (sx_W vw_337) S0_ Sx40_ := ai_fr_tr hFx5_ (fr_le hFx42_ rfl)
        have re69_ : ∀ m_, m_ ≤ M_ → re1 b_ n_ T_ A_ m_ Sx40_ := fun m_ hm_ => re1_fr (re2_ m_ hm_) hFx42_ rfl rfl rfl rfl rfl rfl
        have rs69_ : ∀ m_, m_ ≤ M_ → rs1 A_ m_ Sx40_ := fun m_ hm_ => rs1_fr (rs2_ m_ hm_) hFx42_ rfl rfl rfl rfl
        have g69_ : rg b_ n_ T_ (z_n2 b_ n_ A_ M_ p_) Sx40_ := by first | (exact absurd hz3_ hz_) | (have cn_ : c_ne b_ n_ A_ M_ p_ := (by unfold c_ne; first | (left; omega) | (right; intro z_; have z_ : A_.2.2.1 (k_nx b_ n_ A_ M_ p_) = 3 := z_; rw [z_] at q33_; have z1_ : r_s2 3 = 4 := rfl; have z2_ := q33_.1; have z3_ := q33_.2.1; rw [if_neg (by decide)] at z3_; omega)); rw [n2c, if_pos cn_]; rcases px43_ with z_ | z_; (exact absurd hz_ z_.1); (exact ⟨z_.2.1.trans (if_neg rt3_.2.2), z_.2.2.trans rt3_.2.1, by show (11 : Int) ≠ 0; decide⟩))
        have w69_ : (z_n2 b_ n_ A_ M_ p_) = .inl (11, p_) ∨ S0_.1 13 0 10 ≠ S0_.1 13 0 10 := by first | (exact absurd hz3_ hz_) | (have cn_ : c_ne b_ n_ A_ M_ p_ := (by unfold c_ne; first | (left; omega) | (right; intro z_; have z_ : A_.2.2.1 (k_nx b_ n_ A_ M_ p_) = 3 := z_; rw [z_] at q33_; have z1_ : r_s2 3 = 4 := rfl; have z2_ := q33_.1; have z3_ := q33_.2.1; rw [if_neg (by decide)] at z3_; omega)); left; rw [n2c, if_pos cn_])
        refine sm_T_go 0 (c1 := (72, [some (.inr (.inr (some (13, 0)))), some (.inl m_), some (.inl vx6_), some (.inl vx31_), none], [], Sx40_)) rfl ?_
        refine sm_T_wk [some (.inr (.inr (some (13, 0)))), some (.inl m_), none, some (.inl vx31_), none] (by exact ⟨rfl, rfl, rfl, trivial⟩) ?_
        refine (vl_337 m_ b_ n_ T_ A_ M_ c_ p_ S0_ ht_ hx_ hmo_ hmm_ hmd_ hA_ hre_ hrs_ hc_ _).1 vx31_ Sx40_ hIx41_ hFx44_ ⟨?_, ?_, ?_, ?_, trivial⟩ (Nat.lt_succ_self _)
        · first | exact g69_ | (exact absurd hz3_ hz_) | (exact absurd hz_ hz3_) | (rw [n2w]; rw [he5_] at g2_; exact g2_) | (have cn_ : ¬ c_ne b_ n_ A_ M_ p_ := (by unfold c_ne; rintro (z_ | z_); omega; (apply z_; show A_.2.2.1 (k_nx b_ n_ A_ M_ p_) = 3; have z2_ := q33_.1; have z3_ := q33_.2.1; have z4_ := q33_.2.2; by_cases z5_ : A_.2.2.1 (k_nx b_ n_ A_ M_ p_) = 4; (rw [if_pos z5_] at z3_; omega); (unfold r_s2 at z2_; split at z2_ <;> (try split at z2_) <;> omega))); rw [n2c, if_neg cn_]; exact g2r)
        · first | (exact absurd hz3_ hz_) | (exact absurd hz_ hz3_) | (intro q_ hq_; rw [n2w] at hq_; cases hq_; done) | (intro q_ hq_; exfalso; rcases w69_ with z_ | z_; (rw [z_] at hq_; cases hq_); exact z_ rfl) | (intro q_ hq_; have cn_ : ¬ c_ne b_ n_ A_ M_ p_ := (by unfold c_ne; rintro (z_ | z_); omega; (apply z_; show A_.2.2.1 (k_nx b_ n_ A_ M_ p_) = 3; have z2_ := q33_.1; have z3_ := q33_.2.1; have z4_ := q33_.2.2; by_cases z5_ : A_.2.2.1 (k_nx b_ n_ A_ M_ p_) = 4; (rw [if_pos z5_] at z3_; omega); (unfold r_s2 at z2_; split at z2_ <;> (try split at z2_) <;> omega))); exact ⟨e16_, by omega, by omega, Decidable.byContradiction fun z_ => cn_ (Or.inr z_)⟩)
        · first | exact re69_ | exact re2_
        · first | exact rs69_ | exact rs2_
      · have cx39_ : ¬ (vx31_ = (-1)) := of_decide_eq_false cx39_
        have q33_ := q16_ (by omega)
        refine sm_T_go 4 (c1 := (43, [some (.inr (.inr (some (13, 0)))), some (.inl m_), some (.inl vx6_), some (.inl vx31_), none], [.inl m_, .inl 40, .inr (.inr (some (128, 0)))], Sx1_)) rfl ?_
        refine sm_T_bin (w := 40 * m_) rfl (bi_mul (by omega) (by omega) (by omega)) ?_
        refine sm_T_go 1 (c1 := (45, [some (.inr (.inr (some (13, 0)))), some (.inl m_), some (.inl vx6_), some (.inl vx31_), none], [.inl vx31_, .inl (40 * m_), .inr (.inr (some (128, 0)))], Sx1_)) rfl ?_
        refine sm_T_bin (w := 40 * m_ + vx31_) rfl (bi_add (by omega) (by omega) (by omega)) ?_
        refine sm_T_iald (n := 640) rfl rfl (by omega) (by omega) ?_
        have bx45_ : 0 ≤ Sx1_.2.2.1 128 0 (40 * m_ + vx31_).toNat ∧ Sx1_.2.2.1 128 0 (40 * m_ + vx31_).toNat ≤ 5 := hIx2_.2 128 0 _
        refine sm_T_go 1 (c1 := (48, [some (.inr (.inr (some (13, 0)))), some (.inl m_), some (.inl vx6_), some (.inl vx31_), none], [.inl 4, .inl (Sx1_.2.2.1 128 0 (40 * m_ + vx31_).toNat)], Sx1_)) rfl ?_
        refine sm_T_br (a := 1) (z := 17) rfl (fun cx46_ => ?_) (fun cx46_ => ?_)
        · have cx46_ : (Sx1_.2.2.1 128 0 (40 * m_ + vx31_).toNat) ≠ 4 := of_decide_eq_true cx46_
          refine sm_T_go 3 (c1 := (69, [some (.inr (.inr (some (13, 0)))), some (.inl m_), some (.inl vx6_), some (.inl vx31_), none], [.inl vx6_, .inl 11, .inr (.inr (some (13, 0)))], Sx1_)) rfl ?_
          refine sm_T_cal (d1 := 0) (Q1 := vq_293 11 vx6_ Sx1_) rfl rfl (by decide) (vc_293 11 vx6_ Sx1_ hIx2_ (by decide) (by omega)) (fun u_ Sx47_ px50_ => ?_)
          obtain ⟨rfl, hIx48_, hFx49_, px50_⟩ := px50_
          have hFx51_ : ai_fr (sx_W vw_337) S0_ Sx47_ := ai_fr_tr hFx5_ (fr_le hFx49_ rfl)
          have re69_ : ∀ m_, m_ ≤ M_ → re1 b_ n_ T_ A_ m_ Sx47_ := fun m_ hm_ => re1_fr (re2_ m_ hm_) hFx49_ rfl rfl rfl rfl rfl rfl
          have rs69_ : ∀ m_, m_ ≤ M_ → rs1 A_ m_ Sx47_ := fun m_ hm_ => rs1_fr (rs2_ m_ hm_) hFx49_ rfl rfl rfl rfl
          have g69_ : rg b_ n_ T_ (z_n2 b_ n_ A_ M_ p_) Sx47_ := by first | (exact absurd hz3_ hz_) | (have cn_ : c_ne b_ n_ A_ M_ p_ := (by unfold c_ne; first | (left; omega) | (right; intro z_; have z_ : A_.2.2.1 (k_nx b_ n_ A_ M_ p_) = 3 := z_; rw [z_] at q33_; have z1_ : r_s2 3 = 4 := rfl; have z2_ := q33_.1; have z3_ := q33_.2.1; rw [if_neg (by decide)] at z3_; omega)); rw [n2c, if_pos cn_]; rcases px50_ with z_ | z_; (exact absurd hz_ z_.1); (exact ⟨z_.2.1.trans (if_neg rt3_.2.2), z_.2.2.trans rt3_.2.1, by show (11 : Int) ≠ 0; decide⟩))
          have w69_ : (z_n2 b_ n_ A_ M_ p_) = .inl (11, p_) ∨ S0_.1 13 0 10 ≠ S0_.1 13 0 10 := by first | (exact absurd hz3_ hz_) | (have cn_ : c_ne b_ n_ A_ M_ p_ := (by unfold c_ne; first | (left; omega) | (right; intro z_; have z_ : A_.2.2.1 (k_nx b_ n_ A_ M_ p_) = 3 := z_; rw [z_] at q33_; have z1_ : r_s2 3 = 4 := rfl; have z2_ := q33_.1; have z3_ := q33_.2.1; rw [if_neg (by decide)] at z3_; omega)); left; rw [n2c, if_pos cn_])
          refine sm_T_go 0 (c1 := (72, [some (.inr (.inr (some (13, 0)))), some (.inl m_), some (.inl vx6_), some (.inl vx31_), none], [], Sx47_)) rfl ?_
          refine sm_T_wk [some (.inr (.inr (some (13, 0)))), some (.inl m_), none, some (.inl vx31_), none] (by exact ⟨rfl, rfl, rfl, trivial⟩) ?_
          refine (vl_337 m_ b_ n_ T_ A_ M_ c_ p_ S0_ ht_ hx_ hmo_ hmm_ hmd_ hA_ hre_ hrs_ hc_ _).1 vx31_ Sx47_ hIx48_ hFx51_ ⟨?_, ?_, ?_, ?_, trivial⟩ (Nat.lt_succ_self _)
          · first | exact g69_ | (exact absurd hz3_ hz_) | (exact absurd hz_ hz3_) | (rw [n2w]; rw [he5_] at g2_; exact g2_) | (have cn_ : ¬ c_ne b_ n_ A_ M_ p_ := (by unfold c_ne; rintro (z_ | z_); omega; (apply z_; show A_.2.2.1 (k_nx b_ n_ A_ M_ p_) = 3; have z2_ := q33_.1; have z3_ := q33_.2.1; have z4_ := q33_.2.2; by_cases z5_ : A_.2.2.1 (k_nx b_ n_ A_ M_ p_) = 4; (rw [if_pos z5_] at z3_; omega); (unfold r_s2 at z2_; split at z2_ <;> (try split at z2_) <;> omega))); rw [n2c, if_neg cn_]; exact g2r)
          · first | (exact absurd hz3_ hz_) | (exact absurd hz_ hz3_) | (intro q_ hq_; rw [n2w] at hq_; cases hq_; done) | (intro q_ hq_; exfalso; rcases w69_ with z_ | z_; (rw [z_] at hq_; cases hq_); exact z_ rfl) | (intro q_ hq_; have cn_ : ¬ c_ne b_ n_ A_ M_ p_ := (by unfold c_ne; rintro (z_ | z_); omega; (apply z_; show A_.2.2.1 (k_nx b_ n_ A_ M_ p_) = 3; have z2_ := q33_.1; have z3_ := q33_.2.1; have z4_ := q33_.2.2; by_cases z5_ : A_.2.2.1 (k_nx b_ n_ A_ M_ p_) = 4; (rw [if_pos z5_] at z3_; omega); (unfold r_s2 at z2_; split at z2_ <;> (try split at z2_) <;> omega))); exact ⟨e16_, by omega, by omega, Decidable.byContradiction fun z_ => cn_ (Or.inr z_)⟩)
          · first | exact re69_ | exact re2_
          · first | exact rs69_ | exact rs2_
        · have cx46_ : ¬ ((Sx1_.2.2.1 128 0 (40 * m_ + vx31_).toNat) ≠ 4) := of_decide_eq_false cx46_
          refine sm_T_go 4 (c1 := (58, [some (.inr (.inr (some (13, 0)))), some (.inl m_), some (.inl vx6_), some (.inl vx31_), none], [.inl m_, .inl 40, .inr (.inr (some (131, 0)))], Sx1_)) rfl ?_
          refine sm_T_bin (w := 40 * m_) rfl (bi_mul (by omega) (by omega) (by omega)) ?_
          refine sm_T_go 1 (c1 := (60, [some (.inr (.inr (some (13, 0)))), some (.inl m_), some (.inl vx6_), some (.inl vx31_), none], [.inl vx31_, .inl (40 * m_), .inr (.inr (some (131, 0)))], Sx1_)) rfl ?_
          refine sm_T_bin (w := 40 * m_ + vx31_) rfl (bi_add (by omega) (by omega) (by omega)) ?_
          refine sm_T_zald (n := 640) rfl rfl (by omega) (by omega) ?_
          have bx52_ : 0 ≤ Sx1_.2.2.1 131 0 (40 * m_ + vx31_).toNat ∧ Sx1_.2.2.1 131 0 (40 * m_ + vx31_).toNat ≤ 1 := hIx2_.2 131 0 _
          refine sm_T_b0 (a := 0) (z := 10) rfl (fun cx53_ => ?_) (fun cx53_ => ?_)
          · have cx53_ : (Sx1_.2.2.1 131 0 (40 * m_ + vx31_).toNat) = 0 := of_decide_eq_true cx53_
            refine sm_T_go 0 (c1 := (72, [some (.inr (.inr (some (13, 0)))), some (.inl m_), some (.inl vx6_), some (.inl vx31_), none], [], Sx1_)) rfl ?_
            refine sm_T_wk [some (.inr (.inr (some (13, 0)))), some (.inl m_), none, some (.inl vx31_), none] (by exact ⟨rfl, rfl, rfl, trivial⟩) ?_
            refine (vl_337 m_ b_ n_ T_ A_ M_ c_ p_ S0_ ht_ hx_ hmo_ hmm_ hmd_ hA_ hre_ hrs_ hc_ _).1 vx31_ Sx1_ hIx2_ hFx5_ ⟨?_, ?_, ?_, ?_, trivial⟩ (Nat.lt_succ_self _)
            · first | exact g69_ | (exact absurd hz3_ hz_) | (exact absurd hz_ hz3_) | (rw [n2w]; rw [he5_] at g2_; exact g2_) | (have cn_ : ¬ c_ne b_ n_ A_ M_ p_ := (by unfold c_ne; rintro (z_ | z_); omega; (apply z_; show A_.2.2.1 (k_nx b_ n_ A_ M_ p_) = 3; have z2_ := q33_.1; have z3_ := q33_.2.1; have z4_ := q33_.2.2; by_cases z5_ : A_.2.2.1 (k_nx b_ n_ A_ M_ p_) = 4; (rw [if_pos z5_] at z3_; omega); (unfold r_s2 at z2_; split at z2_ <;> (try split at z2_) <;> omega))); rw [n2c, if_neg cn_]; exact g2r)
            · first | (exact absurd hz3_ hz_) | (exact absurd hz_ hz3_) | (intro q_ hq_; rw [n2w] at hq_; cases hq_; done) | (intro q_ hq_; exfalso; rcases w69_ with z_ | z_; (rw [z_] at hq_; cases hq_); exact z_ rfl) | (intro q_ hq_; have cn_ : ¬ c_ne b_ n_ A_ M_ p_ := (by unfold c_ne; rintro (z_ | z_); omega; (apply z_; show A_.2.2.1 (k_nx b_ n_ A_ M_ p_) = 3; have z2_ := q33_.1; have z3_ := q33_.2.1; have z4_ := q33_.2.2; by_cases z5_ : A_.2.2.1 (k_nx b_ n_ A_ M_ p_) = 4; (rw [if_pos z5_] at z3_; omega); (unfold r_s2 at z2_; split at z2_ <;> (try split at z2_) <;> omega))); exact ⟨e16_, by omega, by omega, Decidable.byContradiction fun z_ => cn_ (Or.inr z_)⟩)
            · first | exact re69_ | exact re2_
            · first | exact rs69_ | exact rs2_
          · have cx53_ : ¬ ((Sx1_.2.2.1 131 0 (40 * m_ + vx31_).toNat) = 0) := of_decide_eq_false cx53_
            refine sm_T_go 3 (c1 := (69, [some (.inr (.inr (some (13, 0)))), some (.inl m_), some (.inl vx6_), some (.inl vx31_), none], [.inl vx6_, .inl 11, .inr (.inr (some (13, 0)))], Sx1_)) rfl ?_
            refine sm_T_cal (d1 := 0) (Q1 := vq_293 11 vx6_ Sx1_) rfl rfl (by decide) (vc_293 11 vx6_ Sx1_ hIx2_ (by decide) (by omega)) (fun u_ Sx54_ px57_ => ?_)
            obtain ⟨rfl, hIx55_, hFx56_, px57_⟩ := px57_
            have hFx58_ : ai_fr (sx_W vw_337) S0_ Sx54_ := ai_fr_tr hFx5_ (fr_le hFx56_ rfl)
            have re69_ : ∀ m_, m_ ≤ M_ → re1 b_ n_ T_ A_ m_ Sx54_ := fun m_ hm_ => re1_fr (re2_ m_ hm_) hFx56_ rfl rfl rfl rfl rfl rfl
            have rs69_ : ∀ m_, m_ ≤ M_ → rs1 A_ m_ Sx54_ := fun m_ hm_ => rs1_fr (rs2_ m_ hm_) hFx56_ rfl rfl rfl rfl
            have g69_ : rg b_ n_ T_ (z_n2 b_ n_ A_ M_ p_) Sx54_ := by first | (exact absurd hz3_ hz_) | (have cn_ : c_ne b_ n_ A_ M_ p_ := (by unfold c_ne; first | (left; omega) | (right; intro z_; have z_ : A_.2.2.1 (k_nx b_ n_ A_ M_ p_) = 3 := z_; rw [z_] at q33_; have z1_ : r_s2 3 = 4 := rfl; have z2_ := q33_.1; have z3_ := q33_.2.1; rw [if_neg (by decide)] at z3_; omega)); rw [n2c, if_pos cn_]; rcases px57_ with z_ | z_; (exact absurd hz_ z_.1); (exact ⟨z_.2.1.trans (if_neg rt3_.2.2), z_.2.2.trans rt3_.2.1, by show (11 : Int) ≠ 0; decide⟩))
            have w69_ : (z_n2 b_ n_ A_ M_ p_) = .inl (11, p_) ∨ S0_.1 13 0 10 ≠ S0_.1 13 0 10 := by first | (exact absurd hz3_ hz_) | (have cn_ : c_ne b_ n_ A_ M_ p_ := (by unfold c_ne; first | (left; omega) | (right; intro z_; have z_ : A_.2.2.1 (k_nx b_ n_ A_ M_ p_) = 3 := z_; rw [z_] at q33_; have z1_ : r_s2 3 = 4 := rfl; have z2_ := q33_.1; have z3_ := q33_.2.1; rw [if_neg (by decide)] at z3_; omega)); left; rw [n2c, if_pos cn_])
            refine sm_T_go 0 (c1 := (72, [some (.inr (.inr (some (13, 0)))), some (.inl m_), some (.inl vx6_), some (.inl vx31_), none], [], Sx54_)) rfl ?_
            refine sm_T_wk [some (.inr (.inr (some (13, 0)))), some (.inl m_), none, some (.inl vx31_), none] (by exact ⟨rfl, rfl, rfl, trivial⟩) ?_
            refine (vl_337 m_ b_ n_ T_ A_ M_ c_ p_ S0_ ht_ hx_ hmo_ hmm_ hmd_ hA_ hre_ hrs_ hc_ _).1 vx31_ Sx54_ hIx55_ hFx58_ ⟨?_, ?_, ?_, ?_, trivial⟩ (Nat.lt_succ_self _)
            · first | exact g69_ | (exact absurd hz3_ hz_) | (exact absurd hz_ hz3_) | (rw [n2w]; rw [he5_] at g2_; exact g2_) | (have cn_ : ¬ c_ne b_ n_ A_ M_ p_ := (by unfold c_ne; rintro (z_ | z_); omega; (apply z_; show A_.2.2.1 (k_nx b_ n_ A_ M_ p_) = 3; have z2_ := q33_.1; have z3_ := q33_.2.1; have z4_ := q33_.2.2; by_cases z5_ : A_.2.2.1 (k_nx b_ n_ A_ M_ p_) = 4; (rw [if_pos z5_] at z3_; omega); (unfold r_s2 at z2_; split at z2_ <;> (try split at z2_) <;> omega))); rw [n2c, if_neg cn_]; exact g2r)
            · first | (exact absurd hz3_ hz_) | (exact absurd hz_ hz3_) | (intro q_ hq_; rw [n2w] at hq_; cases hq_; done) | (intro q_ hq_; exfalso; rcases w69_ with z_ | z_; (rw [z_] at hq_; cases hq_); exact z_ rfl) | (intro q_ hq_; have cn_ : ¬ c_ne b_ n_ A_ M_ p_ := (by unfold c_ne; rintro (z_ | z_); omega; (apply z_; show A_.2.2.1 (k_nx b_ n_ A_ M_ p_) = 3; have z2_ := q33_.1; have z3_ := q33_.2.1; have z4_ := q33_.2.2; by_cases z5_ : A_.2.2.1 (k_nx b_ n_ A_ M_ p_) = 4; (rw [if_pos z5_] at z3_; omega); (unfold r_s2 at z2_; split at z2_ <;> (try split at z2_) <;> omega))); exact ⟨e16_, by omega, by omega, Decidable.byContradiction fun z_ => cn_ (Or.inr z_)⟩)
            · first | exact re69_ | exact re2_
            · first | exact rs69_ | exact rs2_
end
