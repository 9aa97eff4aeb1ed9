/-! tests: gates worked out; written by wip/p55/gen/vg -/

/-! tests -/
def shn (S_ : sm_S) : Prop := ∀ k_, nl9 (S_.2.2.2 95 0 k_)
theorem shn_fr {w_ : sx_Wl} {S_ S'_ : sm_S} (h_ : shn S_) (g_ : ai_fr (sx_W w_) S_ S'_) (a_ : (sx_W w_).2.1 95 = false := by rfl) : shn S'_ := fun k_ => by
  rw [(g_.2.2 95 a_ 0 k_).2]
  exact h_ k_
theorem nl9_0 : nl9 0 := by unfold nl9; decide
theorem nl9_4 (x_ y_ : Int) : nl9 (l_4 x_ y_) := nl9_i _
