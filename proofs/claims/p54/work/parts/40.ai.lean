/-! an abstract reading of the small machine: intervals, where a number comes from, kinds of references -/
/-- an interval for each int field, and for the contents of each kind of array -/
def ai_GI (gi : Nat → Nat → Int × Int) (ga : Nat → Int × Int) (S : sm_S) : Prop := (∀ t i k, (sh_fk t k).1 = 0 → (gi t k).1 ≤ S.1 t i k ∧ S.1 t i k ≤ (gi t k).2) ∧ ∀ t i k, (ga t).1 ≤ S.2.2.1 t i k ∧ S.2.2.1 t i k ≤ (ga t).2
