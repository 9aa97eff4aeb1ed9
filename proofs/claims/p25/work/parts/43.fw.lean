section
/-! what may be written, as lists -/
abbrev sx_Wl : Type := List (Nat × Nat) × List Nat × List (Nat × Nat)
def sx_W (w : sx_Wl) : ai_W := (fun t k => w.1.any fun q => decide (q.1 = t) && decide (q.2 = k), fun t => w.2.1.any fun q => decide (q = t), fun t k => w.2.2.any fun q => decide (q.1 = t) && decide (q.2 = k))
def sx_wle (w w' : sx_Wl) : Bool := (w.1.all fun q => (sx_W w').1 q.1 q.2) && (w.2.1.all fun q => (sx_W w').2.1 q) && w.2.2.all fun q => (sx_W w').2.2 q.1 q.2
theorem sx_wle_g {w w' : sx_Wl} {S S' : sm_S} (h : sx_wle w w' = true) (g : ai_fr (sx_W w) S S') : ai_fr (sx_W w') S S' := by
  unfold sx_wle at h
  simp only [Bool.and_eq_true] at h
  obtain ⟨⟨h1, h2⟩, h3⟩ := h
  have k1 : ∀ t k, (sx_W w').1 t k = false → (sx_W w).1 t k = false := by
    intro t k hf
    cases hc : (sx_W w).1 t k with
    | false => rfl
    | true =>
      obtain ⟨q, hq, e⟩ := List.any_eq_true.mp hc
      simp only [Bool.and_eq_true, decide_eq_true_eq] at e
      have := List.all_eq_true.mp h1 q hq
      rw [e.1, e.2, hf] at this
      cases this
  have k2 : ∀ t, (sx_W w').2.1 t = false → (sx_W w).2.1 t = false := by
    intro t hf
    cases hc : (sx_W w).2.1 t with
    | false => rfl
    | true =>
      obtain ⟨q, hq, e⟩ := List.any_eq_true.mp hc
      have e := of_decide_eq_true e
      have := List.all_eq_true.mp h2 q hq
      rw [e, hf] at this
      cases this
  have k3 : ∀ t k, (sx_W w').2.2 t k = false → (sx_W w).2.2 t k = false := by
    intro t k hf
    cases hc : (sx_W w).2.2 t k with
    | false => rfl
    | true =>
      obtain ⟨q, hq, e⟩ := List.any_eq_true.mp hc
      simp only [Bool.and_eq_true, decide_eq_true_eq] at e
      have := List.all_eq_true.mp h3 q hq
      rw [e.1, e.2, hf] at this
      cases this
  exact ⟨fun t i k q => g.1 t i k (k1 t k q), fun t i k q => g.2.1 t i k (k3 t k q), fun t q i k => g.2.2 t (k2 t q) i k⟩
end
