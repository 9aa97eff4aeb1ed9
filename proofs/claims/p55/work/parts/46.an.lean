/-! annotations: what is known at a place, a measure; specs of methods -/
abbrev ai_M : Type := List (Int × Option (Bool × Nat))
abbrev ai_A : Type := ai_L × List ai_V × ai_M
def ai_h (b : ai_V) (v : sm_V) : Prop := match b, v with
  | .inl i, .inl z => i.1 ≤ z ∧ z ≤ i.2.1
  | .inr (.inl _), .inr (.inl _) => True
  | .inr (.inr r), .inr (.inr v) => (v = none ∧ r.2.2 = true) ∨ ∃ i, v = some (r.1, i)
  | _, _ => False
def ai_hL (aL : ai_L) (L : sm_L) : Prop := aL.length = L.length ∧ ∀ j b, aL.getD j none = some b → ∃ v, L.getD j none = some v ∧ ai_h b v
def ai_hS : List ai_V → List sm_V → Prop
  | [], [] => True
  | a :: as, v :: vs => ai_h a v ∧ ai_hS as vs
  | _, _ => False
def ai_le (a b : ai_V) : Bool := match a, b with
  | .inl x, .inl y => decide (y.1 ≤ x.1) && decide (x.2.1 ≤ y.2.1)
  | .inr (.inl _), .inr (.inl _) => true
  | .inr (.inr x), .inr (.inr y) => decide (x.1 = y.1) && (!x.2.2 || y.2.2)
  | _, _ => false
theorem ai_le_g {L0 L : sm_L} {S : sm_S} {a b : ai_V} {v : sm_V} (h : ai_le a b = true) (hv : ai_gV L0 L S a v) : ai_h b v := by
  rcases a with x | _ | x <;> rcases b with y | _ | y <;> rcases v with z | z | v <;> first | exact hv.elim | (cases h; done) | skip
  · have hv : ai_gI L0 L S x z := hv
    simp only [ai_le, Bool.and_eq_true, decide_eq_true_eq] at h
    have := hv.1
    show y.1 ≤ z ∧ z ≤ y.2.1
    omega
  · trivial
  · simp only [ai_le, Bool.and_eq_true, decide_eq_true_eq] at h
    rcases hv with ⟨rfl, h2⟩ | ⟨i, rfl, -⟩
    · refine Or.inl ⟨rfl, ?_⟩
      rw [h2] at h
      simpa using h.2
    · exact Or.inr ⟨i, by rw [h.1]⟩
def ai_leS : List ai_V → List ai_V → Bool
  | [], [] => true
  | a :: as, b :: bs => ai_le a b && ai_leS as bs
  | _, _ => false
theorem ai_leS_g {L0 L : sm_L} {S : sm_S} : ∀ {as bs : List ai_V} {vs : List sm_V}, ai_leS as bs = true → ai_gS L0 L S as vs → ai_hS bs vs
  | [], [], [], _, _ => trivial
  | a :: as, b :: bs, v :: vs, h, g => by
    simp only [ai_leS, Bool.and_eq_true] at h
    exact ⟨ai_le_g h.1 g.1, ai_leS_g h.2 g.2⟩
  | [], [], _ :: _, _, g => g.elim
  | _ :: _, _, [], _, g => g.elim
  | [], _ :: _, _, h, _ => by cases h
  | _ :: _, [], _, h, _ => by cases h
def ai_leL (aL bL : ai_L) : Bool := decide (aL.length = bL.length) && (List.range bL.length).all fun j => match bL.getD j none with
  | none => true
  | some b => match aL.getD j none with
    | none => false
    | some a => ai_le a b
theorem ai_leL_g {L0 L : sm_L} {S : sm_S} {aL bL : ai_L} (h : ai_leL aL bL = true) (hL : ai_gL L0 L S aL) : ai_hL bL L := by
  simp only [ai_leL, Bool.and_eq_true, decide_eq_true_eq] at h
  refine ⟨by rw [← h.1]; exact hL.1, fun j b hb => ?_⟩
  have hlt : j < bL.length := by
    by_cases q : j < bL.length
    · exact q
    · rw [List.getD_eq_getElem?_getD, List.getElem?_eq_none (by omega)] at hb
      cases hb
  have h2 := List.all_eq_true.mp h.2 j (List.mem_range.mpr hlt)
  rw [hb] at h2
  dsimp only at h2
  split at h2
  · cases h2
  · rename_i a ha
    obtain ⟨v, g1, g2⟩ := hL.2 j a ha
    exact ⟨v, g1, ai_le_g h2 g2⟩
/-- a value at the beginning of a segment: its own start -/
def ai_sv (j : Nat) (b : ai_V) : ai_V := match b with
  | .inl i => .inl (i.1, i.2.1, some (j, 0, 0), none)
  | .inr (.inl u) => .inr (.inl u)
  | .inr (.inr r) => .inr (.inr (r.1, if r.2.2 then none else some j, r.2.2))
theorem ai_sv_g {L : sm_L} {S : sm_S} {j : Nat} {b : ai_V} {v : sm_V} (h : ai_h b v) (hj : L.getD j none = some v) : ai_gV L L S (ai_sv j b) v := by
  rcases b with i | _ | r <;> rcases v with z | z | v <;> first | exact h.elim | skip
  · refine ⟨h, fun j' x y q => ?_, fun j' q => (by cases q), fun j' k q => (by cases q)⟩
    cases q
    exact ⟨z, hj, by omega, by omega⟩
  · trivial
  · rcases h with ⟨rfl, h2⟩ | ⟨i, rfl⟩
    · exact Or.inl ⟨rfl, h2⟩
    · refine Or.inr ⟨i, rfl, fun j' q => ?_⟩
      dsimp only at q
      split at q
      · cases q
      · cases q
        exact hj
def ai_ini (aL : ai_L) : ai_L := (List.range aL.length).map fun j => (aL.getD j none).map (ai_sv j)
theorem ai_ini_g {L : sm_L} {S : sm_S} {aL : ai_L} (h : ai_hL aL L) : ai_gL L L S (ai_ini aL) := by
  refine ⟨by unfold ai_ini; simp [h.1], fun j a hj => ?_⟩
  unfold ai_ini at hj
  obtain ⟨hlt, hj⟩ := ai_map_getD hj
  rw [Option.map_eq_some_iff] at hj
  obtain ⟨b, hb, rfl⟩ := hj
  obtain ⟨v, g1, g2⟩ := h.2 j b hb
  exact ⟨v, g1, ai_sv_g g2 g1⟩
/-- a value of which only its interval or kind is known -/
def ai_pv (b : ai_V) : ai_V := match b with
  | .inl i => .inl (i.1, i.2.1, none, none)
  | .inr (.inl u) => .inr (.inl u)
  | .inr (.inr r) => .inr (.inr (r.1, none, r.2.2))
theorem ai_pv_g {L0 L : sm_L} {S : sm_S} {b : ai_V} {v : sm_V} (h : ai_h b v) : ai_gV L0 L S (ai_pv b) v := by
  rcases b with i | _ | r <;> rcases v with z | z | v <;> first | exact h.elim | skip
  · exact ai_ivl h.1 h.2
  · trivial
  · rcases h with ⟨rfl, h2⟩ | ⟨i, rfl⟩
    · exact Or.inl ⟨rfl, h2⟩
    · exact Or.inr ⟨i, rfl, fun j' q => by cases q⟩
theorem ai_pvS_g {L0 L : sm_L} {S : sm_S} : ∀ {bs : List ai_V} {vs : List sm_V}, ai_hS bs vs → ai_gS L0 L S (bs.map ai_pv) vs
  | [], [], _ => trivial
  | _ :: _, _ :: _, h => ⟨ai_pv_g h.1, ai_pvS_g h.2⟩
  | [], _ :: _, h => h.elim
  | _ :: _, [], h => h.elim
/-! measures: three numbers, each a constant, or one plus or minus a local -/
def ai_B : Int := 17179869184
def ai_mv (L : sm_L) (m : Int × Option (Bool × Nat)) : Int := match m.2 with
  | none => m.1
  | some (s, j) => match L.getD j none with
    | some (.inl z) => if s then m.1 + z else m.1 - z
    | _ => m.1
def ai_ms (L : sm_L) (M : ai_M) : Int := M.foldl (fun x m => x * ai_B + ai_mv L m) 0
/-- bounds of a measure's number, by the intervals of the locals -/
def ai_mb (aL : ai_L) (m : Int × Option (Bool × Nat)) : Option (Int × Int) := match m.2 with
  | none => some (m.1, m.1)
  | some (s, j) => match aL.getD j none with
    | some (.inl i) => some (if s then (m.1 + i.1, m.1 + i.2.1) else (m.1 - i.2.1, m.1 - i.1))
    | _ => none
theorem ai_mb_g {aL : ai_L} {L : sm_L} {m : Int × Option (Bool × Nat)} {q : Int × Int} (hL : ai_hL aL L) (h : ai_mb aL m = some q) : q.1 ≤ ai_mv L m ∧ ai_mv L m ≤ q.2 := by
  unfold ai_mb at h
  unfold ai_mv
  split at h
  · cases h
    exact ⟨Int.le_refl _, Int.le_refl _⟩
  · rename_i s j e
    split at h
    · rename_i i hi
      cases h
      obtain ⟨v, g1, g2⟩ := hL.2 j _ hi
      rcases v with z | z | v
      · have g2 : i.1 ≤ z ∧ z ≤ i.2.1 := g2
        rw [g1]
        dsimp only
        split
        · dsimp only; omega
        · dsimp only; omega
      · exact g2.elim
      · exact g2.elim
    · cases h
