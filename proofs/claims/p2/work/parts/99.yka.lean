/-! the reference: tables; written by wip/p55/gen/vg -/

/-! the_ names of_ a_ sort in their order -/
theorem p_cn_le {g_ : Nat → Bool} : ∀ {i_ k_ : Nat}, i_ ≤ k_ → p_cn g_ i_ ≤ p_cn g_ k_
  | i_, 0, h_ => by rw [show i_ = 0 by omega]; exact Nat.le_refl _
  | i_, k_ + 1, h_ => by
    by_cases e_ : i_ = k_ + 1
    · rw [e_]; exact Nat.le_refl _
    · have := p_cn_le (g_ := g_) (i_ := i_) (k_ := k_) (by omega)
      have h2_ : p_cn g_ (k_ + 1) = p_cn g_ k_ + if g_ k_ = true then 1 else 0 := rfl
      omega
theorem p_cn_z {g_ : Nat → Bool} {i_ : Nat} : ∀ {k_ : Nat}, i_ ≤ k_ → (∀ j_, i_ ≤ j_ → j_ < k_ → g_ j_ = false) → p_cn g_ k_ = p_cn g_ i_
  | 0, h_, _ => by rw [show i_ = 0 by omega]
  | k_ + 1, h_, hz_ => by
    by_cases e_ : i_ = k_ + 1
    · rw [e_]
    · have h1_ := p_cn_z (g_ := g_) (i_ := i_) (k_ := k_) (by omega) (fun j_ h1_ h2_ => hz_ j_ h1_ (by omega))
      have h2_ : p_cn g_ (k_ + 1) = p_cn g_ k_ + if g_ k_ = true then 1 else 0 := rfl
      rw [h2_, h1_, if_neg (by rw [hz_ k_ (by omega) (by omega)]; decide)]
      omega
theorem p_fd_mn {f_ : Nat → Bool} : ∀ {k_ v_ : Nat}, p_fd f_ k_ = (v_ : Int) → ∀ j_, j_ < v_ → f_ j_ = false
  | 0, v_, h_, j_, hj_ => by
    exfalso
    rw [p_fd] at h_
    omega
  | k_ + 1, v_, h_, j_, hj_ => by
    rw [p_fd] at h_
    split at h_
    · rename_i g_
      split at h_
      · exact p_fd_no g_ j_ (by omega)
      · exfalso; omega
    · exact p_fd_mn h_ j_ hj_
def g_in (A_ : pA) (m_ : Nat) (s_ : Nat) : Bool := decide (r_s2 (A_.2.2.1 (40 * m_ + s_)) = 1)
theorem g_in_0 {b_ : Nat → Int} {n_ M_ m_ s_ : Nat} {A_ : pA} (h_ : a_ok b_ n_ A_ M_) (hm_ : m_ ≤ M_) (hs_ : s_ < A_.1 m_) : g_in A_ m_ s_ = decide (A_.2.2.1 (40 * m_ + s_) = 0) := by
  have h1_ := ((h_.2 m_ hm_).2 s_ hs_).2.1
  unfold g_in r_s2
  by_cases z_ : A_.2.2.1 (40 * m_ + s_) = 0
  · rw [z_]; rfl
  · rw [decide_eq_false z_]
    apply decide_eq_false
    split
    · omega
    · split <;> decide
def p_nth (A_ : pA) (m_ : Nat) : Nat → Int
  | 0 => p_ni A_ m_ 0
  | j_ + 1 => p_a2 A_ m_ (p_nth A_ m_ j_)
theorem p_ni_r {b_ : Nat → Int} {n_ M_ m_ k_ : Nat} {A_ : pA} (h_ : a_ok b_ n_ A_ M_) (hm_ : m_ ≤ M_) : (p_ni A_ m_ k_ = -1 ∧ p_cn (g_in A_ m_) (A_.1 m_) ≤ p_cn (g_in A_ m_) k_) ∨ ∃ v_ : Nat, p_ni A_ m_ k_ = (v_ : Int) ∧ k_ ≤ v_ ∧ v_ < A_.1 m_ ∧ g_in A_ m_ v_ = true ∧ p_cn (g_in A_ m_) v_ = p_cn (g_in A_ m_) k_ := by
  have hb_ := p_fd_b (f_ := fun s_ => decide (k_ ≤ s_) && decide (A_.2.2.1 (40 * m_ + s_) = 0)) (A_.1 m_)
  by_cases z_ : p_ni A_ m_ k_ = -1
  · left
    refine ⟨z_, ?_⟩
    have h1_ := p_fd_no z_
    by_cases e_ : k_ ≤ A_.1 m_
    · have h9_ : p_cn (g_in A_ m_) (A_.1 m_) = p_cn (g_in A_ m_) k_ := p_cn_z e_ (fun j_ hj1_ hj2_ => by
        have h2_ : (decide (k_ ≤ j_) && decide (A_.2.2.1 (40 * m_ + j_) = 0)) = false := h1_ j_ hj2_
        rw [decide_eq_true hj1_, Bool.true_and] at h2_
        rw [g_in_0 h_ hm_ hj2_]
        exact h2_)
      omega
    · exact p_cn_le (by omega)
  · right
    have hv_ : 0 ≤ p_ni A_ m_ k_ := by unfold p_ni at z_ ⊢; omega
    obtain ⟨v_, hv2_⟩ : ∃ v_ : Nat, p_ni A_ m_ k_ = (v_ : Int) := ⟨(p_ni A_ m_ k_).toNat, by omega⟩
    have h1_ := p_fd_f hv2_
    have h2_ := p_fd_mn hv2_
    have h3_ : (decide (k_ ≤ v_) && decide (A_.2.2.1 (40 * m_ + v_) = 0)) = true := h1_.1
    rw [Bool.and_eq_true, decide_eq_true_eq, decide_eq_true_eq] at h3_
    refine ⟨v_, hv2_, h3_.1, h1_.2, ?_, ?_⟩
    · rw [g_in_0 h_ hm_ h1_.2]; exact decide_eq_true h3_.2
    · refine p_cn_z h3_.1 (fun j_ hj1_ hj2_ => ?_)
      have h4_ : (decide (k_ ≤ j_) && decide (A_.2.2.1 (40 * m_ + j_) = 0)) = false := h2_ j_ hj2_
      rw [decide_eq_true hj1_, Bool.true_and] at h4_
      have := h1_.2
      rw [g_in_0 h_ hm_ (by omega)]
      exact h4_
theorem p_nth_r {b_ : Nat → Int} {n_ M_ m_ : Nat} {A_ : pA} (h_ : a_ok b_ n_ A_ M_) (hm_ : m_ ≤ M_) : ∀ j_ : Nat, (p_nth A_ m_ j_ = -1 ∧ p_cn (g_in A_ m_) (A_.1 m_) ≤ j_) ∨ ∃ v_ : Nat, p_nth A_ m_ j_ = (v_ : Int) ∧ v_ < A_.1 m_ ∧ g_in A_ m_ v_ = true ∧ p_cn (g_in A_ m_) v_ = j_
  | 0 => by
    rcases p_ni_r (k_ := 0) h_ hm_ with ⟨h1_, h2_⟩ | ⟨v_, h1_, h2_, h3_, h4_, h5_⟩
    · exact Or.inl ⟨h1_, h2_⟩
    · exact Or.inr ⟨v_, h1_, h3_, h4_, h5_⟩
  | j_ + 1 => by
    show (p_a2 A_ m_ (p_nth A_ m_ j_) = -1 ∧ _) ∨ ∃ v_ : Nat, p_a2 A_ m_ (p_nth A_ m_ j_) = _ ∧ _
    rcases p_nth_r h_ hm_ j_ with ⟨h1_, h2_⟩ | ⟨v_, h1_, h3_, h4_, h5_⟩
    · left
      rw [h1_]
      exact ⟨rfl, by omega⟩
    · have e_ : p_cn (g_in A_ m_) (v_ + 1) = j_ + 1 := by
        show p_cn (g_in A_ m_) v_ + (if g_in A_ m_ v_ = true then 1 else 0) = _
        rw [if_pos h4_, h5_]
      rw [h1_]
      unfold p_a2
      rw [if_neg (by omega), show ((v_ : Int).toNat + 1) = v_ + 1 by omega]
      rcases p_ni_r (k_ := v_ + 1) h_ hm_ with ⟨q1_, q2_⟩ | ⟨u_, q1_, q2_, q3_, q4_, q5_⟩
      · exact Or.inl ⟨q1_, by omega⟩
      · exact Or.inr ⟨u_, q1_, q3_, q4_, by omega⟩
theorem p_nth_n {b_ : Nat → Int} {n_ M_ m_ : Nat} {A_ : pA} (h_ : a_ok b_ n_ A_ M_) (hm_ : m_ ≤ M_) (j_ : Nat) : p_nth A_ m_ j_ = -1 ↔ p_cn (g_in A_ m_) (A_.1 m_) ≤ j_ := by
  rcases p_nth_r h_ hm_ j_ with ⟨h1_, h2_⟩ | ⟨v_, h1_, h3_, h4_, h5_⟩
  · exact ⟨fun _ => h2_, fun _ => h1_⟩
  · constructor
    · intro z_; omega
    · intro z_
      have h6_ := p_cn_le (g_ := g_in A_ m_) (i_ := v_ + 1) (k_ := A_.1 m_) (by omega)
      have h7_ : p_cn (g_in A_ m_) (v_ + 1) = p_cn (g_in A_ m_) v_ + if g_in A_ m_ v_ = true then 1 else 0 := rfl
      rw [if_pos h4_] at h7_
      omega
theorem p_cn_u {g_ : Nat → Bool} {u_ v_ : Nat} (h1_ : g_ u_ = true) (h2_ : g_ v_ = true) (h_ : p_cn g_ u_ = p_cn g_ v_) : u_ = v_ := by
  have e1_ : p_cn g_ (u_ + 1) = p_cn g_ u_ + if g_ u_ = true then 1 else 0 := rfl
  have e2_ : p_cn g_ (v_ + 1) = p_cn g_ v_ + if g_ v_ = true then 1 else 0 := rfl
  rw [if_pos h1_] at e1_
  rw [if_pos h2_] at e2_
  by_cases c1_ : u_ < v_
  · have := p_cn_le (g_ := g_) (i_ := u_ + 1) (k_ := v_) (by omega); omega
  · by_cases c2_ : v_ < u_
    · have := p_cn_le (g_ := g_) (i_ := v_ + 1) (k_ := u_) (by omega); omega
    · omega
/-! sums -/
def su (g_ : Nat → Int) : Nat → Int
  | 0 => 0
  | k_ + 1 => su g_ k_ + g_ k_
theorem su_cg {f_ g_ : Nat → Int} : ∀ {k_ : Nat}, (∀ j_, j_ < k_ → f_ j_ = g_ j_) → su f_ k_ = su g_ k_
  | 0, _ => rfl
  | k_ + 1, h_ => by
    show su f_ k_ + f_ k_ = su g_ k_ + g_ k_
    rw [su_cg (fun j_ hj_ => h_ j_ (by omega)), h_ k_ (by omega)]
theorem su_b {f_ : Nat → Int} {c_ : Int} : ∀ {k_ : Nat}, (∀ j_, j_ < k_ → 0 ≤ f_ j_ ∧ f_ j_ ≤ c_) → 0 ≤ su f_ k_ ∧ su f_ k_ ≤ k_ * c_
  | 0, _ => by
    show (0 : Int) ≤ 0 ∧ (0 : Int) ≤ ((0 : Nat) : Int) * c_
    simp
  | k_ + 1, h_ => by
    have h1_ := su_b (f_ := f_) (c_ := c_) (k_ := k_) (fun j_ hj_ => h_ j_ (by omega))
    have h2_ := h_ k_ (by omega)
    show 0 ≤ su f_ k_ + f_ k_ ∧ su f_ k_ + f_ k_ ≤ ((k_ + 1 : Nat) : Int) * c_
    have e_ : ((k_ + 1 : Nat) : Int) * c_ = k_ * c_ + c_ := by push_cast; rw [Int.add_mul, Int.one_mul]
    omega
def mn (x_ : Int) : Int := if 1000 < x_ then 1000 else x_
theorem mn_b {x_ : Int} (h_ : 0 ≤ x_) : 0 ≤ mn x_ ∧ mn x_ ≤ 1000 := by
  unfold mn
  split <;> omega
theorem mn_mn {x_ y_ : Int} (hx_ : 0 ≤ x_) (hy_ : 0 ≤ y_) : mn (mn x_ + y_) = mn (x_ + y_) := by
  unfold mn
  repeat' split
  all_goals omega
def t_in (A_ : pA) (so_ : Int) (m_ s_ : Nat) : Int := if A_.2.2.1 (40 * m_ + s_) = so_ then A_.2.2.2.1 (40 * m_ + s_) else 0
def t_rg (f_ : Nat → Int) (A_ : pA) (m_ s_ : Nat) : Int := if A_.2.2.1 (40 * m_ + s_) = 3 ∨ A_.2.2.1 (40 * m_ + s_) = 4 then A_.2.2.2.1 (40 * m_ + s_) else if A_.2.2.1 (40 * m_ + s_) = 5 then f_ (A_.2.2.2.2 (40 * m_ + s_)).toNat else 0
def t_is (f_ : Nat → Int) (A_ : pA) (m_ s_ : Nat) : Int := if A_.2.2.1 (40 * m_ + s_) = 5 then 1 + f_ (A_.2.2.2.2 (40 * m_ + s_)).toNat else 0
/-- the_ sums of_ a_ module -/
def rs1 (A_ : pA) (m_ : Nat) (S_ : sm_S) : Prop := S_.2.2.1 132 0 m_ = su (t_in A_ 0 m_) (A_.1 m_) ∧ S_.2.2.1 133 0 m_ = su (t_in A_ 1 m_) (A_.1 m_) ∧ S_.2.2.1 134 0 m_ = mn (su (t_rg (S_.2.2.1 134 0) A_ m_) (A_.1 m_)) ∧ S_.2.2.1 135 0 m_ = mn (su (t_is (S_.2.2.1 135 0) A_ m_) (A_.1 m_))
theorem rs1_b {b_ : Nat → Int} {n_ M_ m_ : Nat} {A_ : pA} {S_ : sm_S} (hI_ : gi S_) (h_ : a_ok b_ n_ A_ M_) (hm_ : m_ ≤ M_) (hr_ : rs1 A_ m_ S_) : (S_.2.2.1 132 0 m_ ≤ 8 * A_.1 m_) ∧ (S_.2.2.1 133 0 m_ ≤ 8 * A_.1 m_) ∧ (0 ≤ S_.2.2.1 134 0 m_ ∧ S_.2.2.1 134 0 m_ ≤ 1000) ∧ (0 ≤ S_.2.2.1 135 0 m_ ∧ S_.2.2.1 135 0 m_ ≤ 1000) := by
  obtain ⟨h1_, h2_, h3_, h4_⟩ := hr_
  have hw_ := fun s_ (hs_ : s_ < A_.1 m_) => ((h_.2 m_ hm_).2 s_ hs_).2.2.1
  have b1_ := su_b (f_ := t_in A_ 0 m_) (c_ := 8) (k_ := A_.1 m_) (fun j_ hj_ => by have := hw_ j_ hj_; unfold t_in; split <;> omega)
  have b2_ := su_b (f_ := t_in A_ 1 m_) (c_ := 8) (k_ := A_.1 m_) (fun j_ hj_ => by have := hw_ j_ hj_; unfold t_in; split <;> omega)
  have c3_ : ∀ j_ : Nat, 0 ≤ S_.2.2.1 134 0 j_ ∧ S_.2.2.1 134 0 j_ ≤ 1073741823 := fun j_ => hI_.2 134 0 j_
  have c4_ : ∀ j_ : Nat, 0 ≤ S_.2.2.1 135 0 j_ ∧ S_.2.2.1 135 0 j_ ≤ 1073741823 := fun j_ => hI_.2 135 0 j_
  have b3_ := su_b (f_ := t_rg (S_.2.2.1 134 0) A_ m_) (c_ := 1073741823) (k_ := A_.1 m_) (fun j_ hj_ => by
    have q_ := hw_ j_ hj_
    have q2_ := c3_ (A_.2.2.2.2 (40 * m_ + j_)).toNat
    unfold t_rg
    split
    · omega
    · split <;> omega)
  have b4_ := su_b (f_ := t_is (S_.2.2.1 135 0) A_ m_) (c_ := 1073741824) (k_ := A_.1 m_) (fun j_ hj_ => by
    have q2_ := c4_ (A_.2.2.2.2 (40 * m_ + j_)).toNat
    unfold t_is
    split <;> omega)
  have b5_ := mn_b b3_.1
  have b6_ := mn_b b4_.1
  omega
/-- the_ tables hold one_ name more -/
theorem te_re {b_ : Nat → Int} {n_ T_ M_ q_ : Nat} {A_ : pA} {cs_ so_ w_ th tk_ : Int} {S_ S'_ : sm_S} (h_ : ∀ m_, m_ ≤ M_ → re1 b_ n_ T_ A_ m_ S_) (hr_ : rtk b_ n_ T_ tk_ q_) (hso_ : so_ = r_s2 cs_ ∧ cs_ ≠ 4)
  (h0_ : ∀ j_, S'_.2.2.1 126 0 j_ = if j_ = M_ then (A_.1 M_ : Int) + 1 else S_.2.2.1 126 0 j_)
  (h1_ : ∀ j_, S'_.2.2.1 127 0 j_ = if j_ = 40 * M_ + A_.1 M_ then tk_ else S_.2.2.1 127 0 j_)
  (h2_ : ∀ j_, S'_.2.2.1 128 0 j_ = if j_ = 40 * M_ + A_.1 M_ then so_ else S_.2.2.1 128 0 j_)
  (h3_ : ∀ j_, S'_.2.2.1 129 0 j_ = if j_ = 40 * M_ + A_.1 M_ then w_ else S_.2.2.1 129 0 j_)
  (h4_ : ∀ j_, S'_.2.2.1 130 0 j_ = if j_ = 40 * M_ + A_.1 M_ then th else S_.2.2.1 130 0 j_)
  (h5_ : ∀ j_, S'_.2.2.1 131 0 j_ = if j_ = 40 * M_ + A_.1 M_ then 0 else S_.2.2.1 131 0 j_) (ha_ : ∀ m_, m_ ≤ M_ → A_.1 m_ ≤ 40) (hlt_ : A_.1 M_ < 40) : ∀ m_, m_ ≤ M_ → re1 b_ n_ T_ (a_te A_ M_ q_ cs_ w_ th) m_ S'_ := by
  intro m_ hm_
  unfold re1 a_te
  show S'_.2.2.1 126 0 m_ = (((if m_ = M_ then A_.1 M_ + 1 else A_.1 m_ : Nat)) : Int) ∧ ∀ s_, s_ < (if m_ = M_ then A_.1 M_ + 1 else A_.1 m_) → _
  have hx_ := h_ m_ hm_
  by_cases e_ : m_ = M_
  · subst e_
    rw [if_pos rfl, h0_, if_pos rfl]
    refine ⟨by push_cast; rfl, fun s_ hs_ => ?_⟩
    show rtk b_ n_ T_ (S'_.2.2.1 127 0 (40 * m_ + s_)) (if 40 * m_ + s_ = 40 * m_ + A_.1 m_ then q_ else A_.2.1 (40 * m_ + s_)) ∧ S'_.2.2.1 128 0 (40 * m_ + s_) = r_s2 (if 40 * m_ + s_ = 40 * m_ + A_.1 m_ then cs_ else A_.2.2.1 (40 * m_ + s_)) ∧ S'_.2.2.1 129 0 (40 * m_ + s_) = (if 40 * m_ + s_ = 40 * m_ + A_.1 m_ then w_ else A_.2.2.2.1 (40 * m_ + s_)) ∧ S'_.2.2.1 130 0 (40 * m_ + s_) = (if 40 * m_ + s_ = 40 * m_ + A_.1 m_ then th else A_.2.2.2.2 (40 * m_ + s_)) ∧ S'_.2.2.1 131 0 (40 * m_ + s_) = (if (if 40 * m_ + s_ = 40 * m_ + A_.1 m_ then cs_ else A_.2.2.1 (40 * m_ + s_)) = 4 then 1 else 0)
    rw [h1_, h2_, h3_, h4_, h5_]
    by_cases e2_ : s_ = A_.1 m_
    · subst e2_
      simp only [if_true]
      exact ⟨hr_, hso_.1, trivial, trivial, by rw [if_neg hso_.2]⟩
    · have e3_ : ¬ (40 * m_ + s_ = 40 * m_ + A_.1 m_) := by omega
      simp only [if_neg e3_]
      exact hx_.2 s_ (by omega)
  · rw [if_neg e_, h0_, if_neg e_]
    refine ⟨hx_.1, fun s_ hs_ => ?_⟩
    have e3_ : ¬ (40 * m_ + s_ = 40 * M_ + A_.1 M_) := by have := ha_ m_ hm_; omega
    show rtk b_ n_ T_ (S'_.2.2.1 127 0 (40 * m_ + s_)) (if 40 * m_ + s_ = 40 * M_ + A_.1 M_ then q_ else A_.2.1 (40 * m_ + s_)) ∧ S'_.2.2.1 128 0 (40 * m_ + s_) = r_s2 (if 40 * m_ + s_ = 40 * M_ + A_.1 M_ then cs_ else A_.2.2.1 (40 * m_ + s_)) ∧ S'_.2.2.1 129 0 (40 * m_ + s_) = (if 40 * m_ + s_ = 40 * M_ + A_.1 M_ then w_ else A_.2.2.2.1 (40 * m_ + s_)) ∧ S'_.2.2.1 130 0 (40 * m_ + s_) = (if 40 * m_ + s_ = 40 * M_ + A_.1 M_ then th else A_.2.2.2.2 (40 * m_ + s_)) ∧ S'_.2.2.1 131 0 (40 * m_ + s_) = (if (if 40 * m_ + s_ = 40 * M_ + A_.1 M_ then cs_ else A_.2.2.1 (40 * m_ + s_)) = 4 then 1 else 0)
    rw [h1_, h2_, h3_, h4_, h5_]
    simp only [if_neg e3_]
    exact hx_.2 s_ hs_
def v_in (so_ cs_ w_ : Int) : Int := if cs_ = so_ then w_ else 0
theorem su_te {A_ : pA} {M_ q_ m_ : Nat} {cs_ w_ th : Int} (f_ : Nat → Int) (G_ : (Nat → Int) → pA → Nat → Nat → Int) (hG_ : ∀ (A_ B_ : pA) (m_ s_ : Nat), A_.2.2.1 (40 * m_ + s_) = B_.2.2.1 (40 * m_ + s_) → A_.2.2.2.1 (40 * m_ + s_) = B_.2.2.2.1 (40 * m_ + s_) → A_.2.2.2.2 (40 * m_ + s_) = B_.2.2.2.2 (40 * m_ + s_) → G_ f_ A_ m_ s_ = G_ f_ B_ m_ s_) (hA_ : A_.1 m_ ≤ 40) (hm_ : m_ ≤ M_) : su (G_ f_ (a_te A_ M_ q_ cs_ w_ th) m_) ((a_te A_ M_ q_ cs_ w_ th).1 m_) = su (G_ f_ A_ m_) (A_.1 m_) + if m_ = M_ then G_ f_ (a_te A_ M_ q_ cs_ w_ th) m_ (A_.1 m_) else 0 := by
  have hc_ : ∀ s_, s_ < A_.1 m_ → G_ f_ (a_te A_ M_ q_ cs_ w_ th) m_ s_ = G_ f_ A_ m_ s_ := by
    intro s_ hs_
    have e3_ : ¬ (40 * m_ + s_ = 40 * M_ + A_.1 M_) := by
      by_cases e_ : m_ = M_
      · subst e_; omega
      · omega
    exact hG_ _ _ m_ s_ (if_neg e3_) (if_neg e3_) (if_neg e3_)
  have e0_ : (a_te A_ M_ q_ cs_ w_ th).1 m_ = if m_ = M_ then A_.1 M_ + 1 else A_.1 m_ := rfl
  rw [e0_]
  by_cases e_ : m_ = M_
  · subst e_
    rw [if_pos rfl, if_pos rfl]
    show su _ (A_.1 m_) + _ = _
    rw [su_cg hc_]
  · rw [if_neg e_, if_neg e_, su_cg hc_, Int.add_zero]
theorem te_rs {b_ : Nat → Int} {n_ M_ q_ : Nat} {A_ : pA} {cs_ w_ th : Int} {S_ S'_ : sm_S} (hI_ : gi S_) (h_ : a_ok b_ n_ A_ M_) (hs_ : ∀ m_, m_ ≤ M_ → rs1 A_ m_ S_) (hw_ : 0 ≤ w_) (ht_ : cs_ = 5 → 0 ≤ th ∧ th < M_)
  (h2_ : ∀ j_, S'_.2.2.1 132 0 j_ = if j_ = M_ then S_.2.2.1 132 0 M_ + (if cs_ = 0 then w_ else 0) else S_.2.2.1 132 0 j_)
  (h3_ : ∀ j_, S'_.2.2.1 133 0 j_ = if j_ = M_ then S_.2.2.1 133 0 M_ + (if cs_ = 1 then w_ else 0) else S_.2.2.1 133 0 j_)
  (h4_ : ∀ j_, S'_.2.2.1 134 0 j_ = if j_ = M_ then mn (S_.2.2.1 134 0 M_ + (if cs_ = 3 ∨ cs_ = 4 then w_ else if cs_ = 5 then S_.2.2.1 134 0 th.toNat else 0)) else S_.2.2.1 134 0 j_)
  (h5_ : ∀ j_, S'_.2.2.1 135 0 j_ = if j_ = M_ then mn (S_.2.2.1 135 0 M_ + (if cs_ = 5 then 1 + S_.2.2.1 135 0 th.toNat else 0)) else S_.2.2.1 135 0 j_) : ∀ m_, m_ ≤ M_ → rs1 (a_te A_ M_ q_ cs_ w_ th) m_ S'_ := by
  intro m_ hm_
  obtain ⟨r1_, r2_, r3_, r4_⟩ := hs_ m_ hm_
  have hA_ := (h_.2 m_ hm_).1
  have q1_ : (a_te A_ M_ q_ cs_ w_ th).2.2.1 (40 * M_ + A_.1 M_) = cs_ := if_pos rfl
  have q2_ : (a_te A_ M_ q_ cs_ w_ th).2.2.2.1 (40 * M_ + A_.1 M_) = w_ := if_pos rfl
  have q3_ : (a_te A_ M_ q_ cs_ w_ th).2.2.2.2 (40 * M_ + A_.1 M_) = th := if_pos rfl
  have dt_ : ∀ s_, s_ < A_.1 m_ → A_.2.2.1 (40 * m_ + s_) = 5 → (A_.2.2.2.2 (40 * m_ + s_)).toNat ≠ M_ := by
    intro s_ hs1_ h5_
    have := ((h_.2 m_ hm_).2 s_ hs1_).2.2.2.2.1 h5_
    omega
  have c3_ : ∀ j_ : Nat, 0 ≤ S_.2.2.1 134 0 j_ ∧ S_.2.2.1 134 0 j_ ≤ 1073741823 := fun j_ => hI_.2 134 0 j_
  have c4_ : ∀ j_ : Nat, 0 ≤ S_.2.2.1 135 0 j_ ∧ S_.2.2.1 135 0 j_ ≤ 1073741823 := fun j_ => hI_.2 135 0 j_
  have hw8_ := fun s_ (hs_ : s_ < A_.1 m_) => ((h_.2 m_ hm_).2 s_ hs_).2.2.1
  refine ⟨?_, ?_, ?_, ?_⟩
  · rw [su_te (fun _ => 0) (fun _ A_ m_ s_ => t_in A_ 0 m_ s_) (fun A_ B_ m_ s_ z1_ z2_ z3_ => by unfold t_in; rw [z1_, z2_]) hA_ hm_, h2_]
    by_cases e_ : m_ = M_
    · subst e_
      rw [if_pos rfl, if_pos rfl, r1_]
      unfold t_in
      rw [q1_, q2_]
    · rw [if_neg e_, if_neg e_, r1_, Int.add_zero]
  · rw [su_te (fun _ => 0) (fun _ A_ m_ s_ => t_in A_ 1 m_ s_) (fun A_ B_ m_ s_ z1_ z2_ z3_ => by unfold t_in; rw [z1_, z2_]) hA_ hm_, h3_]
    by_cases e_ : m_ = M_
    · subst e_
      rw [if_pos rfl, if_pos rfl, r2_]
      unfold t_in
      rw [q1_, q2_]
    · rw [if_neg e_, if_neg e_, r2_, Int.add_zero]
  · rw [su_te (S'_.2.2.1 134 0) t_rg (fun A_ B_ m_ s_ z1_ z2_ z3_ => by unfold t_rg; rw [z1_, z2_, z3_]) hA_ hm_, h4_]
    have e0_ : su (t_rg (S'_.2.2.1 134 0) A_ m_) (A_.1 m_) = su (t_rg (S_.2.2.1 134 0) A_ m_) (A_.1 m_) := su_cg (fun s_ hs1_ => by
      unfold t_rg
      by_cases z_ : A_.2.2.1 (40 * m_ + s_) = 3 ∨ A_.2.2.1 (40 * m_ + s_) = 4
      · rw [if_pos z_, if_pos z_]
      · rw [if_neg z_, if_neg z_]
        by_cases z2_ : A_.2.2.1 (40 * m_ + s_) = 5
        · rw [if_pos z2_, if_pos z2_, h4_, if_neg (dt_ s_ hs1_ z2_)]
        · rw [if_neg z2_, if_neg z2_])
    rw [e0_]
    have hp_ := su_b (f_ := t_rg (S_.2.2.1 134 0) A_ m_) (c_ := 1073741823) (k_ := A_.1 m_) (fun j_ hj_ => by
      have q_ := hw8_ j_ hj_
      have q2_ := c3_ (A_.2.2.2.2 (40 * m_ + j_)).toNat
      unfold t_rg
      split
      · omega
      · split <;> omega)
    by_cases e_ : m_ = M_
    · subst e_
      rw [if_pos rfl, if_pos rfl]
      have e5_ : t_rg (S'_.2.2.1 134 0) (a_te A_ m_ q_ cs_ w_ th) m_ (A_.1 m_) = if cs_ = 3 ∨ cs_ = 4 then w_ else if cs_ = 5 then S_.2.2.1 134 0 th.toNat else 0 := by
        unfold t_rg
        rw [q1_, q2_, q3_]
        by_cases z_ : cs_ = 3 ∨ cs_ = 4
        · rw [if_pos z_, if_pos z_]
        · rw [if_neg z_, if_neg z_]
          by_cases z2_ : cs_ = 5
          · have := ht_ z2_
            rw [if_pos z2_, if_pos z2_, h4_, if_neg (by omega)]
          · rw [if_neg z2_, if_neg z2_]
      rw [e5_, r3_]
      refine mn_mn hp_.1 ?_
      split
      · exact hw_
      · split
        · exact (c3_ _).1
        · decide
    · rw [if_neg e_, if_neg e_, r3_, Int.add_zero]
  · rw [su_te (S'_.2.2.1 135 0) t_is (fun A_ B_ m_ s_ z1_ z2_ z3_ => by unfold t_is; rw [z1_, z3_]) hA_ hm_, h5_]
    have e0_ : su (t_is (S'_.2.2.1 135 0) A_ m_) (A_.1 m_) = su (t_is (S_.2.2.1 135 0) A_ m_) (A_.1 m_) := su_cg (fun s_ hs1_ => by
      unfold t_is
      by_cases z2_ : A_.2.2.1 (40 * m_ + s_) = 5
      · rw [if_pos z2_, if_pos z2_, h5_, if_neg (dt_ s_ hs1_ z2_)]
      · rw [if_neg z2_, if_neg z2_])
    rw [e0_]
    have hp_ := su_b (f_ := t_is (S_.2.2.1 135 0) A_ m_) (c_ := 1073741824) (k_ := A_.1 m_) (fun j_ hj_ => by
      have q2_ := c4_ (A_.2.2.2.2 (40 * m_ + j_)).toNat
      unfold t_is
      split <;> omega)
    by_cases e_ : m_ = M_
    · subst e_
      rw [if_pos rfl, if_pos rfl]
      have e5_ : t_is (S'_.2.2.1 135 0) (a_te A_ m_ q_ cs_ w_ th) m_ (A_.1 m_) = if cs_ = 5 then 1 + S_.2.2.1 135 0 th.toNat else 0 := by
        unfold t_is
        rw [q1_, q3_]
        by_cases z2_ : cs_ = 5
        · have := ht_ z2_
          rw [if_pos z2_, if_pos z2_, h5_, if_neg (by omega)]
        · rw [if_neg z2_, if_neg z2_]
      rw [e5_, r4_]
      refine mn_mn hp_.1 ?_
      split
      · have := (c4_ th.toNat).1; omega
      · decide
    · rw [if_neg e_, if_neg e_, r4_, Int.add_zero]
