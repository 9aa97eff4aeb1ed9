/-! an abstract reading of the small machine: intervals, where a number comes from, kinds of references -/
abbrev ai_I : Type := Int × Int × Option (Nat × Int × Int) × Option (Nat ⊕ (Nat × Nat))
abbrev ai_V : Type := ai_I ⊕ (Unit ⊕ (Nat × Option Nat × Bool))
abbrev ai_L : Type := List (Option ai_V)
abbrev ai_F : Type := List ((Nat × Nat) × Int × Int)
abbrev ai_C : Type := Nat × ai_L × List ai_V × ai_F
/-- a number: its interval, how far it is from the start value of a local, whose value it is now -/
def ai_gI (L0 L : sm_L) (S : sm_S) (a : ai_I) (z : Int) : Prop := (a.1 ≤ z ∧ z ≤ a.2.1) ∧ (∀ j x y, a.2.2.1 = some (j, x, y) → ∃ z0, L0.getD j none = some (.inl z0) ∧ z0 + x ≤ z ∧ z ≤ z0 + y) ∧ (∀ j, a.2.2.2 = some (.inl j) → L.getD j none = some (.inl z)) ∧ ∀ j k, a.2.2.2 = some (.inr (j, k)) → ∃ t i, L0.getD j none = some (.inr (.inr (some (t, i)))) ∧ S.1 t i k = z
def ai_gR (L0 : sm_L) (a : Nat × Option Nat × Bool) (v : Option (Nat × Nat)) : Prop := (v = none ∧ a.2.2 = true) ∨ ∃ i, v = some (a.1, i) ∧ ∀ j, a.2.1 = some j → L0.getD j none = some (.inr (.inr (some (a.1, i))))
def ai_gV (L0 L : sm_L) (S : sm_S) (a : ai_V) (v : sm_V) : Prop := match a, v with
  | .inl a, .inl z => ai_gI L0 L S a z
  | .inr (.inl _), .inr (.inl _) => True
  | .inr (.inr a), .inr (.inr v) => ai_gR L0 a v
  | _, _ => False
def ai_gS (L0 L : sm_L) (S : sm_S) : List ai_V → List sm_V → Prop
  | [], [] => True
  | a :: as, v :: vs => ai_gV L0 L S a v ∧ ai_gS L0 L S as vs
  | _, _ => False
def ai_gL (L0 L : sm_L) (S : sm_S) (aL : ai_L) : Prop := aL.length = L.length ∧ ∀ j a, aL.getD j none = some a → ∃ v, L.getD j none = some v ∧ ai_gV L0 L S a v
def ai_gF (L0 : sm_L) (S : sm_S) (F : ai_F) : Prop := ∀ q ∈ F, ∀ t i, L0.getD q.1.1 none = some (.inr (.inr (some (t, i)))) → q.2.1 ≤ S.1 t i q.1.2 ∧ S.1 t i q.1.2 ≤ q.2.2
def ai_gC (L0 : sm_L) (a : ai_C) (c : sm_C) : Prop := a.1 = c.1 ∧ ai_gL L0 c.2.1 c.2.2.2 a.2.1 ∧ ai_gS L0 c.2.1 c.2.2.2 a.2.2.1 c.2.2.1 ∧ ai_gF L0 c.2.2.2 a.2.2.2
/-- an interval for each int field, and for the contents of each kind of array -/
def ai_GI (gi : Nat → Nat → Int × Int) (ga : Nat → Int × Int) (S : sm_S) : Prop := (∀ t i k, (gi t k).1 ≤ S.1 t i k ∧ S.1 t i k ≤ (gi t k).2) ∧ ∀ t i k, (ga t).1 ≤ S.2.2.1 t i k ∧ S.2.2.1 t i k ≤ (ga t).2
/-! forgetting -/
def ai_noI (a : ai_I) : ai_I := (a.1, a.2.1, a.2.2.1, none)
def ai_no (a : ai_V) : ai_V := match a with
  | .inl a => .inl (ai_noI a)
  | a => a
theorem ai_noI_g {L0 L L' : sm_L} {S S' : sm_S} {a : ai_I} {z : Int} (h : ai_gI L0 L S a z) : ai_gI L0 L' S' (ai_noI a) z := ⟨h.1, h.2.1, fun j hj => (by cases hj), fun j k hj => (by cases hj)⟩
theorem ai_no_g {L0 L L' : sm_L} {S S' : sm_S} {a : ai_V} {v : sm_V} (h : ai_gV L0 L S a v) : ai_gV L0 L' S' (ai_no a) v := by
  rcases a with a | _ | a
  · rcases v with z | z | v
    · exact ai_noI_g h
    · exact h.elim
    · exact h.elim
  · rcases v with z | z | v
    · exact h.elim
    · trivial
    · exact h.elim
  · rcases v with z | z | v
    · exact h.elim
    · exact h.elim
    · exact h
theorem ai_noS_g {L0 L L' : sm_L} {S S' : sm_S} : ∀ {as : List ai_V} {vs : List sm_V}, ai_gS L0 L S as vs → ai_gS L0 L' S' (as.map ai_no) vs
  | [], [], _ => trivial
  | _ :: _, _ :: _, h => ⟨ai_no_g h.1, ai_noS_g h.2⟩
  | [], _ :: _, h => h.elim
  | _ :: _, [], h => h.elim
def ai_noL (aL : ai_L) : ai_L := aL.map fun x => x.map ai_no
theorem ai_noL_getD {aL : ai_L} {j : Nat} {a : ai_V} (h : (ai_noL aL).getD j none = some a) : ∃ b, aL.getD j none = some b ∧ ai_no b = a := by
  unfold ai_noL at h
  rw [List.getD_eq_getElem?_getD, List.getElem?_map] at h
  rw [List.getD_eq_getElem?_getD]
  cases hj : aL[j]? with
  | none => rw [hj] at h; cases h
  | some x =>
    rw [hj] at h
    cases x with
    | none => cases h
    | some b => exact ⟨b, rfl, Option.some.inj h⟩
theorem ai_noL_g {L0 L : sm_L} {S S' : sm_S} {aL : ai_L} (h : ai_gL L0 L S aL) : ai_gL L0 L S' (ai_noL aL) := by
  refine ⟨by unfold ai_noL; rw [List.length_map]; exact h.1, fun j a hj => ?_⟩
  obtain ⟨b, hb, rfl⟩ := ai_noL_getD hj
  obtain ⟨v, h1, h2⟩ := h.2 j b hb
  exact ⟨v, h1, ai_no_g h2⟩
/-! stores into locals -/
def ai_isl : Option ai_V → Bool
  | some (.inr (.inl _)) => true
  | _ => false
def ai_s1 (L : ai_L) (i : Nat) (v : ai_V) : ai_L := (List.range L.length).map fun j => if j = i then some (ai_no v) else if j + 1 = i && (ai_isl (L.getD j none) || (L.getD j none).isNone) then none else (L.getD j none).map ai_no
def ai_s2 (L : ai_L) (i : Nat) (v : ai_V) : ai_L := (List.range L.length).map fun j => if j = i then some (ai_no v) else if j = i + 1 then none else if j + 1 = i && (ai_isl (L.getD j none) || (L.getD j none).isNone) then none else (L.getD j none).map ai_no
theorem ai_map_getD {n j : Nat} {f : Nat → Option ai_V} {a : ai_V} (h : ((List.range n).map f).getD j none = some a) : j < n ∧ f j = some a := by
  rw [List.getD_eq_getElem?_getD, List.getElem?_map] at h
  by_cases q : j < n
  · rw [List.getElem?_range q] at h
    exact ⟨q, h⟩
  · rw [List.getElem?_eq_none (by simpa using q)] at h
    cases h
theorem ai_isl_g {L0 L : sm_L} {S : sm_S} {a : ai_V} {v : sm_V} (h : ai_gV L0 L S a v) : sm_isl (some v) = ai_isl (some a) := by
  rcases a with a | _ | a <;> rcases v with z | z | v <;> first | rfl | exact h.elim
theorem ai_s1_g {L0 L : sm_L} {S : sm_S} {aL : ai_L} {i : Nat} {a : ai_V} {v : sm_V} (h : ai_gL L0 L S aL) (hv : ai_gV L0 L S a v) : ai_gL L0 (sm_s1 L i v) S (ai_s1 aL i a) := by
  refine ⟨by unfold ai_s1 sm_s1; simp [h.1], fun j b hj => ?_⟩
  unfold ai_s1 at hj
  obtain ⟨hlt, hj⟩ := ai_map_getD hj
  have hlt2 : j < L.length := by rw [← h.1]; exact hlt
  have hget : (sm_s1 L i v).getD j none = if j = i then some v else if j + 1 = i && sm_isl (L.getD j none) then none else L.getD j none := by unfold sm_s1; rw [sm_map_getD hlt2]
  rw [hget]
  split at hj
  · rename_i e
    cases hj
    rw [if_pos e]
    exact ⟨v, rfl, ai_no_g hv⟩
  · rename_i e
    rw [if_neg e]
    split at hj
    · cases hj
    · rename_i g
      rw [Option.map_eq_some_iff] at hj
      obtain ⟨c, hc, rfl⟩ := hj
      obtain ⟨w, h1, h2⟩ := h.2 j c hc
      rw [h1]
      rw [if_neg (by
        intro q
        apply g
        rw [hc]
        simp only [Bool.and_eq_true, decide_eq_true_eq] at q
        rw [ai_isl_g h2] at q
        simp [q.1, q.2])]
      exact ⟨w, rfl, ai_no_g h2⟩
theorem ai_s2_g {L0 L : sm_L} {S : sm_S} {aL : ai_L} {i : Nat} {a : ai_V} {v : sm_V} (h : ai_gL L0 L S aL) (hv : ai_gV L0 L S a v) : ai_gL L0 (sm_s2 L i v) S (ai_s2 aL i a) := by
  refine ⟨by unfold ai_s2 sm_s2; simp [h.1], fun j b hj => ?_⟩
  unfold ai_s2 at hj
  obtain ⟨hlt, hj⟩ := ai_map_getD hj
  have hlt2 : j < L.length := by rw [← h.1]; exact hlt
  have hget : (sm_s2 L i v).getD j none = if j = i then some v else if j = i + 1 then none else if j + 1 = i && sm_isl (L.getD j none) then none else L.getD j none := by unfold sm_s2; rw [sm_map_getD hlt2]
  rw [hget]
  split at hj
  · rename_i e
    cases hj
    rw [if_pos e]
    exact ⟨v, rfl, ai_no_g hv⟩
  · rename_i e
    rw [if_neg e]
    split at hj
    · cases hj
    · rename_i e2
      rw [if_neg e2]
      split at hj
      · cases hj
      · rename_i g
        rw [Option.map_eq_some_iff] at hj
        obtain ⟨c, hc, rfl⟩ := hj
        obtain ⟨w, h1, h2⟩ := h.2 j c hc
        rw [h1]
        rw [if_neg (by
          intro q
          apply g
          rw [hc]
          simp only [Bool.and_eq_true, decide_eq_true_eq] at q
          rw [ai_isl_g h2] at q
          simp [q.1, q.2])]
        exact ⟨w, rfl, ai_no_g h2⟩
