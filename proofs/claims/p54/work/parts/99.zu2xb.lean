/-! the tester is not newer than its chip; written by wip/p55/gen/vg -/

/-! what the_ tester holds isn't newer than its_ chip -/
def tsa (S_ : sm_S) : Prop := ∀ c_ : Nat, S_.2.1 9 0 0 = some c_ → S_.1 9 0 1 ≤ S_.1 2 c_ 19
theorem tsa_fr {w_ : sx_Wl} {S_ S'_ : sm_S} (h_ : tsa S_) (g_ : ai_fr (sx_W w_) S_ S'_) (b_ : (sx_W w_).2.2 9 0 = false := by rfl) (c_ : (sx_W w_).1 9 1 = false := by rfl) (d_ : (sx_W w_).1 2 19 = false := by rfl) : tsa S'_ := fun k_ q_ => by
  rw [g_.1 9 0 1 c_, g_.1 2 k_ 19 d_]
  rw [g_.2.1 9 0 0 b_] at q_
  exact h_ k_ q_
theorem tsa_of {cc_ : Nat} {S_ : sm_S} (h1_ : S_.2.1 9 0 0 = some cc_) (h2_ : S_.1 9 0 1 = S_.1 2 cc_ 19) : tsa S_ := fun c_ q_ => by
  have e_ : cc_ = c_ := Option.some.inj (h1_.symm.trans q_)
  rw [← e_, h2_]
  exact Int.le_refl _
/-! Tester.prepare -/
/-! Tester.workFault -/
/-! Tester.leastPattern -/
/-! Tester.countHidden -/
/-! Tester.countShownBySet -/
/-! Tester.suspectOf -/
/-! Tester.makeSet -/
