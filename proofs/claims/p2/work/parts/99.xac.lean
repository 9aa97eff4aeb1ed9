/-! powers -/
theorem pw_8 : ∀ k_ : Nat, k_ ≤ 8 → (1 : Int) ≤ 2 ^ k_ ∧ (2 : Int) ^ k_ ≤ 256 := by
  intro k_ hk_
  have : ∀ j_ : Nat, j_ < 9 → (1 : Int) ≤ 2 ^ j_ ∧ (2 : Int) ^ j_ ≤ 256 := by decide
  exact this k_ (by omega)
