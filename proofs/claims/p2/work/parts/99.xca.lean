/-! the class reader: arguments; written by wip/p55/gen/vg -/

/-! inputs -/
theorem p_ni_c {A_ : pA} {m_ k_ : Nat} : p_ni A_ m_ k_ = -1 ∨ (0 ≤ p_ni A_ m_ k_ ∧ p_ni A_ m_ k_ < (A_.1 m_ : Int)) := by
  rcases p_ni_b (A_ := A_) (m_ := m_) (k_ := k_) with h_ | ⟨s_, h1_, h2_⟩
  · exact Or.inl h_
  · right; omega
