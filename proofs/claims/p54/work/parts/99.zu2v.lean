/-! the reference: chips asked; written by wip/p55/gen/vg -/
/-! M_.netOf -/
/-! M_.gate -/
/-! M_.isThere -/
def ora_alter (a1_ a2_ a3_ : Int) (S_ : sm_S) : Prop := (0 ≤ a1_ ∧ a1_ < 4 ∧ S_.2.2.1 222 0 a1_.toNat = 1) ∧ (0 ≤ a2_ ∧ a2_ < S_.2.2.1 228 0 a1_.toNat) ∧ (0 ≤ a3_ ∧ a3_ < S_.2.2.1 233 0 a1_.toNat)
def okr_alter (a1_ a2_ a3_ : Int) (S_ : sm_S) : Prop := ora_alter a1_ a2_ a3_ S_ ∧ S_.2.2.1 234 0 (12 * a1_ + a3_).toNat = S_.2.2.1 234 0 (12 * a1_ + S_.2.2.1 229 0 (150 * a1_ + a2_).toNat).toNat
/-! M_.alter -/
def vw_428n : sx_Wl := ([(13, 0)], [229, 289, 294], [])
