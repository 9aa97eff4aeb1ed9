/-! symbolic locals: stores -/
def sx_isl : Option sx_V → Bool
  | some (.inr (.inl _)) => true
  | _ => false
def sx_s1 (L : sx_L) (i : Nat) (v : sx_V) : sx_L := (List.range L.length).map fun j => if j = i then some v else if j + 1 = i && (sx_isl (L.getD j none) || (L.getD j none).isNone) then none else L.getD j none
def sx_s2 (L : sx_L) (i : Nat) (v : sx_V) : sx_L := (List.range L.length).map fun j => if j = i then some v else if j = i + 1 then none else if j + 1 = i && (sx_isl (L.getD j none) || (L.getD j none).isNone) then none else L.getD j none
section SE
variable {ρ : Nat → Int} {τ : Nat → Nat}
theorem sx_map_getD {n j : Nat} {f : Nat → Option sx_V} {a : sx_V} (h : ((List.range n).map f).getD j none = some a) : j < n ∧ f j = some a := by
  rw [List.getD_eq_getElem?_getD, List.getElem?_map] at h
  by_cases q : j < n
  · rw [List.getElem?_range q] at h
    exact ⟨q, h⟩
  · rw [List.getElem?_eq_none (by simpa using q)] at h
    cases h
theorem sx_isl_g {a : sx_V} {v : sm_V} (h : sx_gV ρ τ a v) : sm_isl (some v) = sx_isl (some a) := by
  rcases a with a | _ | a <;> rcases v with z | z | v <;> first | rfl | exact h.elim
theorem sx_s1_g {L : sm_L} {aL : sx_L} {i : Nat} {a : sx_V} {v : sm_V} (h : sx_gL ρ τ aL L) (hv : sx_gV ρ τ a v) : sx_gL ρ τ (sx_s1 aL i a) (sm_s1 L i v) := by
  refine ⟨by unfold sx_s1 sm_s1; simp [h.1], fun j b hj => ?_⟩
  unfold sx_s1 at hj
  obtain ⟨hlt, hj⟩ := sx_map_getD hj
  have hlt2 : j < L.length := by rw [← h.1]; exact hlt
  have hget : (sm_s1 L i v).getD j none = if j = i then some v else if j + 1 = i && sm_isl (L.getD j none) then none else L.getD j none := by unfold sm_s1; rw [sm_map_getD hlt2]
  rw [hget]
  split at hj
  · rename_i e
    cases hj
    rw [if_pos e]
    exact ⟨v, rfl, hv⟩
  · rename_i e
    rw [if_neg e]
    split at hj
    · cases hj
    · rename_i g
      obtain ⟨w, h1, h2⟩ := h.2 j b hj
      rw [h1]
      rw [if_neg (by
        intro q
        apply g
        rw [hj]
        simp only [Bool.and_eq_true, decide_eq_true_eq] at q
        rw [sx_isl_g h2] at q
        simp [q.1, q.2])]
      exact ⟨w, rfl, h2⟩
theorem sx_s2_g {L : sm_L} {aL : sx_L} {i : Nat} {a : sx_V} {v : sm_V} (h : sx_gL ρ τ aL L) (hv : sx_gV ρ τ a v) : sx_gL ρ τ (sx_s2 aL i a) (sm_s2 L i v) := by
  refine ⟨by unfold sx_s2 sm_s2; simp [h.1], fun j b hj => ?_⟩
  unfold sx_s2 at hj
  obtain ⟨hlt, hj⟩ := sx_map_getD hj
  have hlt2 : j < L.length := by rw [← h.1]; exact hlt
  have hget : (sm_s2 L i v).getD j none = if j = i then some v else if j = i + 1 then none else if j + 1 = i && sm_isl (L.getD j none) then none else L.getD j none := by unfold sm_s2; rw [sm_map_getD hlt2]
  rw [hget]
  split at hj
  · rename_i e
    cases hj
    rw [if_pos e]
    exact ⟨v, rfl, hv⟩
  · rename_i e
    rw [if_neg e]
    split at hj
    · cases hj
    · rename_i e2
      rw [if_neg e2]
      split at hj
      · cases hj
      · rename_i g
        obtain ⟨w, h1, h2⟩ := h.2 j b hj
        rw [h1]
        rw [if_neg (by
          intro q
          apply g
          rw [hj]
          simp only [Bool.and_eq_true, decide_eq_true_eq] at q
          rw [sx_isl_g h2] at q
          simp [q.1, q.2])]
        exact ⟨w, rfl, h2⟩
theorem sx_s1_w {n t i : Nat} {aL : sx_L} {a : sx_V} (h : sx_wL n t aL) (hv : sx_wV n t a) : sx_wL n t (sx_s1 aL i a) := by
  intro j b hj
  unfold sx_s1 at hj
  obtain ⟨hlt, hj⟩ := sx_map_getD hj
  split at hj
  · cases hj
    exact hv
  · split at hj
    · cases hj
    · exact h j b hj
theorem sx_s2_w {n t i : Nat} {aL : sx_L} {a : sx_V} (h : sx_wL n t aL) (hv : sx_wV n t a) : sx_wL n t (sx_s2 aL i a) := by
  intro j b hj
  unfold sx_s2 at hj
  obtain ⟨hlt, hj⟩ := sx_map_getD hj
  split at hj
  · cases hj
    exact hv
  · split at hj
    · cases hj
    · split at hj
      · cases hj
      · exact h j b hj
/-! the top of the stack -/
theorem sx_inv {a : sx_V} {as : List sx_V} {vs : List sm_V} (h : sx_gS ρ τ (a :: as) vs) : ∃ v w, vs = v :: w ∧ sx_gV ρ τ a v ∧ sx_gS ρ τ as w := by
  cases vs with
  | nil => exact h.elim
  | cons v w => exact ⟨v, w, rfl, h.1, h.2⟩
theorem sx_inv_i {e : sx_E} {as : List sx_V} {vs : List sm_V} (h : sx_gS ρ τ (.inl e :: as) vs) : ∃ w, vs = .inl (sx_ev ρ e) :: w ∧ sx_gS ρ τ as w := by
  obtain ⟨v, w, rfl, h1, h2⟩ := sx_inv h
  rcases v with z | z | z
  · have e1 : sx_ev ρ e = z := h1
    rw [e1]
    exact ⟨w, rfl, h2⟩
  · exact h1.elim
  · exact h1.elim
theorem sx_inv_l {u : Unit} {as : List sx_V} {vs : List sm_V} (h : sx_gS ρ τ (.inr (.inl u) :: as) vs) : ∃ z w, vs = .inr (.inl z) :: w ∧ sx_gS ρ τ as w := by
  obtain ⟨v, w, rfl, h1, h2⟩ := sx_inv h
  rcases v with z | z | z
  · exact h1.elim
  · exact ⟨z, w, rfl, h2⟩
  · exact h1.elim
theorem sx_inv_r {r : Nat × Nat × Nat × Bool} {as : List sx_V} {vs : List sm_V} (h : sx_gS ρ τ (.inr (.inr r) :: as) vs) : ∃ w, vs = .inr (.inr (cond r.2.2.2 none (some (r.1, τ r.2.1 + r.2.2.1)))) :: w ∧ sx_gS ρ τ as w := by
  obtain ⟨v, w, rfl, h1, h2⟩ := sx_inv h
  rcases v with z | z | z
  · exact h1.elim
  · exact h1.elim
  · have h1 : z = cond r.2.2.2 none (some (r.1, τ r.2.1 + r.2.2.1)) := h1
    rw [h1]
    exact ⟨w, rfl, h2⟩
theorem sx_inv_n {t0 tk o : Nat} {as : List sx_V} {vs : List sm_V} (h : sx_gS ρ τ (.inr (.inr (t0, tk, o, false)) :: as) vs) : ∃ w, vs = .inr (.inr (some (t0, τ tk + o))) :: w ∧ sx_gS ρ τ as w := sx_inv_r h
theorem sx_wS_tl {n t : Nat} {a : sx_V} {as : List sx_V} (h : sx_wS n t (a :: as)) : sx_wS n t as := fun b hb => h b (List.mem_cons_of_mem _ hb)
theorem sx_wS_hd {n t : Nat} {a : sx_V} {as : List sx_V} (h : sx_wS n t (a :: as)) : sx_wV n t a := h a List.mem_cons_self
theorem sx_wS_cons {n t : Nat} {a : sx_V} {as : List sx_V} (h : sx_wV n t a) (h2 : sx_wS n t as) : sx_wS n t (a :: as) := fun b hb => (List.mem_cons.mp hb).elim (fun e => e ▸ h) (h2 b)
end SE
