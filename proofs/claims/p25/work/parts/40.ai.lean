/-! an abstract reading of the small machine: intervals, where a number comes from, kinds of references -/
abbrev ai_I : Type := Int × Int × Option (Nat × Int × Int) × Option (Nat ⊕ (Nat × Nat))
abbrev ai_V : Type := ai_I ⊕ (Unit ⊕ (Nat × Option Nat × Bool))
abbrev ai_L : Type := List (Option ai_V)
abbrev ai_F : Type := List ((Nat × Nat) × Int × Int)
abbrev ai_C : Type := Nat × ai_L × List ai_V × ai_F
/-- a number: its interval, how far it is from the start value of a local, whose value it is now -/
def ai_gI (L0 L : sm_L) (S : sm_S) (a : ai_I) (z : Int) : Prop := (a.1 ≤ z ∧ z ≤ a.2.1) ∧ (∀ j x y, a.2.2.1 = some (j, x, y) → ∃ z0, L0.getD j none = some (.inl z0) ∧ z0 + x ≤ z ∧ z ≤ z0 + y) ∧ (∀ j, a.2.2.2 = some (.inl j) → L.getD j none = some (.inl z)) ∧ ∀ j k, a.2.2.2 = some (.inr (j, k)) → ∃ t i, L0.getD j none = some (.inr (.inr (some (t, i)))) ∧ S.1 t i k = z
def ai_gR (L0 : sm_L) (a : Nat × Option Nat × Bool) (v : Option (Nat × Nat)) : Prop := (v = none ∧ a.2.2 = true) ∨ ∃ i, v = some (a.1, i) ∧ ∀ j, a.2.1 = some j → L0.getD j none = some (.inr (.inr (some (a.1, i))))
def ai_gV (L0 L : sm_L) (S : sm_S) (a : ai_V) (v : sm_V) : Prop := match a, v with
  | .inl a, .inl z => ai_gI L0 L S a z
  | .inr (.inl _), .inr (.inl _) => True
  | .inr (.inr a), .inr (.inr v) => ai_gR L0 a v
  | _, _ => False
def ai_gS (L0 L : sm_L) (S : sm_S) : List ai_V → List sm_V → Prop
  | [], [] => True
  | a :: as, v :: vs => ai_gV L0 L S a v ∧ ai_gS L0 L S as vs
  | _, _ => False
def ai_gL (L0 L : sm_L) (S : sm_S) (aL : ai_L) : Prop := aL.length = L.length ∧ ∀ j a, aL.getD j none = some a → ∃ v, L.getD j none = some v ∧ ai_gV L0 L S a v
def ai_gF (L0 : sm_L) (S : sm_S) (F : ai_F) : Prop := ∀ q ∈ F, ∀ t i, L0.getD q.1.1 none = some (.inr (.inr (some (t, i)))) → q.2.1 ≤ S.1 t i q.1.2 ∧ S.1 t i q.1.2 ≤ q.2.2
def ai_gC (L0 : sm_L) (a : ai_C) (c : sm_C) : Prop := a.1 = c.1 ∧ ai_gL L0 c.2.1 c.2.2.2 a.2.1 ∧ ai_gS L0 c.2.1 c.2.2.2 a.2.2.1 c.2.2.1 ∧ ai_gF L0 c.2.2.2 a.2.2.2
/-- an interval for each int field, and for the contents of each kind of array -/
def ai_GI (gi : Nat → Nat → Int × Int) (ga : Nat → Int × Int) (S : sm_S) : Prop := (∀ t i k, (sh_fk t k).1 = 0 → (gi t k).1 ≤ S.1 t i k ∧ S.1 t i k ≤ (gi t k).2) ∧ ∀ t i k, (ga t).1 ≤ S.2.2.1 t i k ∧ S.2.2.1 t i k ≤ (ga t).2
