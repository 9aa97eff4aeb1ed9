/-! intervals of fields and arrays, frames -/
abbrev ai_W : Type := (Nat → Nat → Bool) × (Nat → Bool) × (Nat → Nat → Bool)
def ai_fr (W : ai_W) (S S' : sm_S) : Prop := (∀ t i k, W.1 t k = false → S'.1 t i k = S.1 t i k) ∧ (∀ t i k, W.2.2 t k = false → S'.2.1 t i k = S.2.1 t i k) ∧ ∀ t, W.2.1 t = false → ∀ i k, S'.2.2.1 t i k = S.2.2.1 t i k ∧ S'.2.2.2 t i k = S.2.2.2 t i k
theorem ai_fr_rf {W : ai_W} {S : sm_S} : ai_fr W S S := ⟨fun _ _ _ _ => rfl, fun _ _ _ _ => rfl, fun _ _ _ _ => ⟨rfl, rfl⟩⟩
theorem ai_fr_tr {W : ai_W} {S S1 S2 : sm_S} (h : ai_fr W S S1) (g : ai_fr W S1 S2) : ai_fr W S S2 := ⟨fun t i k q => (g.1 t i k q).trans (h.1 t i k q), fun t i k q => (g.2.1 t i k q).trans (h.2.1 t i k q), fun t q i k => ⟨(g.2.2 t q i k).1.trans (h.2.2 t q i k).1, (g.2.2 t q i k).2.trans (h.2.2 t q i k).2⟩⟩
/-- intervals of fields and of arrays' contents; what may be written -/
abbrev ai_E : Type := (Nat → Nat → Int × Int) × (Nat → Int × Int) × ai_W
section AT
variable {S : sm_S} {E : ai_E}
theorem ai_GI_pI {t i k : Nat} {y : Int} (hG : ai_GI E.1 E.2.1 S) (h : (E.1 t k).1 ≤ y ∧ y ≤ (E.1 t k).2) : ai_GI E.1 E.2.1 (sm_pI S t i k y) := by
  refine ⟨fun t' i' k' hk => ?_, hG.2⟩
  show (E.1 t' k').1 ≤ sm_up S.1 t i k y t' i' k' ∧ sm_up S.1 t i k y t' i' k' ≤ (E.1 t' k').2
  by_cases q : t' = t ∧ i' = i ∧ k' = k
  · obtain ⟨rfl, rfl, rfl⟩ := q
    rw [sm_up_self]
    exact h
  · rw [sm_up_ne q]
    exact hG.1 t' i' k' hk
theorem ai_GI_pJ {t i k : Nat} {y : Int} (hG : ai_GI E.1 E.2.1 S) (h : (sh_fk t k).1 = 3) : ai_GI E.1 E.2.1 (sm_pI S t i k y) := by
  refine ⟨fun t' i' k' hk => ?_, hG.2⟩
  show (E.1 t' k').1 ≤ sm_up S.1 t i k y t' i' k' ∧ sm_up S.1 t i k y t' i' k' ≤ (E.1 t' k').2
  rw [sm_up_ne (fun g => by obtain ⟨rfl, rfl, rfl⟩ := g; rw [h] at hk; cases hk)]
  exact hG.1 t' i' k' hk
theorem ai_GI_aI {t i k : Nat} {y : Int} (hG : ai_GI E.1 E.2.1 S) (h : (E.2.1 t).1 ≤ y ∧ y ≤ (E.2.1 t).2) : ai_GI E.1 E.2.1 (sm_aI S t i k y) := by
  refine ⟨hG.1, fun t' i' k' => ?_⟩
  show (E.2.1 t').1 ≤ sm_up S.2.2.1 t i k y t' i' k' ∧ sm_up S.2.2.1 t i k y t' i' k' ≤ (E.2.1 t').2
  by_cases q : t' = t ∧ i' = i ∧ k' = k
  · obtain ⟨rfl, rfl, rfl⟩ := q
    rw [sm_up_self]
    exact h
  · rw [sm_up_ne q]
    exact hG.2 t' i' k'
theorem ai_fr_pI {W : ai_W} {t i k : Nat} {y : Int} (h : W.1 t k = true) : ai_fr W S (sm_pI S t i k y) := ⟨fun t' i' k' q => sm_up_ne (fun g => by obtain ⟨rfl, rfl, rfl⟩ := g; rw [h] at q; cases q), fun _ _ _ _ => rfl, fun _ _ _ _ => ⟨rfl, rfl⟩⟩
theorem ai_fr_aI {W : ai_W} {t i k : Nat} {y : Int} (h : W.2.1 t = true) : ai_fr W S (sm_aI S t i k y) := ⟨fun _ _ _ _ => rfl, fun _ _ _ _ => rfl, fun t' q i' k' => ⟨sm_up_ne (fun g => by obtain ⟨rfl, rfl, rfl⟩ := g; rw [h] at q; cases q), rfl⟩⟩
theorem ai_fr_aL {W : ai_W} {t i k : Nat} {y : Int} (h : W.2.1 t = true) : ai_fr W S (sm_aL S t i k y) := ⟨fun _ _ _ _ => rfl, fun _ _ _ _ => rfl, fun t' q i' k' => ⟨rfl, sm_up_ne (fun g => by obtain ⟨rfl, rfl, rfl⟩ := g; rw [h] at q; cases q)⟩⟩
theorem ai_nar_b (x : Int32) : -128 ≤ (vp_nar .byte x).toInt ∧ (vp_nar .byte x).toInt ≤ 127 := by
  have e : vp_nar .byte x = x.toInt8.toInt32 := rfl
  rw [e, Int8.toInt_toInt32]
  have h1 := x.toInt8.toInt_lt
  have h2 := x.toInt8.le_toInt
  omega
end AT
