/-! a design mapped: the class, with the table; written by wip/p55/gen/vg -/

theorem kctb_fr {w_ : sx_Wl} {cc_ : Nat} {S_ S'_ : sm_S} (h_ : kctb cc_ S_) (f_ : ai_fr (sx_W w_) S_ S'_) (h1_ : (sx_W w_).2.1 35 = false := by rfl) (h2_ : (sx_W w_).2.1 36 = false := by rfl) (h3_ : (sx_W w_).2.1 55 = false := by rfl) (h4_ : (sx_W w_).2.1 56 = false := by rfl) (h5_ : (sx_W w_).1 2 3 = false := by rfl) (h6_ : (sx_W w_).1 2 1 = false := by rfl) (h7_ : (sx_W w_).1 2 2 = false := by rfl) (h8_ : (sx_W w_).1 2 8 = false := by rfl) (h9_ : (sx_W w_).2.1 34 = false := by rfl) (ha_ : (sx_W w_).2.1 37 = false := by rfl) (hb_ : (sx_W w_).2.1 38 = false := by rfl) : kctb cc_ S'_ := by
  have k_ := kcX_fr (cc_ := cc_) f_ h1_ h2_ h3_ h4_
  unfold kctb
  rw [k_.1, k_.2.1, k_.2.2, f_.1 2 cc_ 3 h5_, f_.1 2 cc_ 1 h6_, f_.1 2 cc_ 2 h7_, f_.1 2 cc_ 8 h8_, fr_arr (t := 34) (i := 0 + cc_) f_ h9_, fr_arr (t := 37) (i := 0 + cc_) f_ ha_, fr_arr (t := 38) (i := 0 + cc_) f_ hb_]
  exact h_
/-- what map_ does to_ tables and stamps -/
def mpt (cc_ : Nat) (S0_ S1_ : sm_S) : Prop := (S1_.1 2 cc_ 0 = 0 ∧ (S1_.1 2 cc_ 19 = S0_.1 2 cc_ 19 ∨ S1_.1 2 cc_ 19 = S0_.1 2 cc_ 19 + 1) ∧ S1_.2.1 9 0 0 = S0_.2.1 9 0 0 ∧ S1_.1 9 0 1 = S0_.1 9 0 1) ∨ (tsf cc_ S1_ ∧ S1_.1 2 cc_ 19 = S0_.1 2 cc_ 19 + 1)
/-! ChipFlow.map -/
def vw_230m : sx_Wl := ([(0, 1), (0, 11), (0, 16), (2, 0), (2, 1), (2, 2), (2, 3), (2, 4), (2, 5), (2, 8), (2, 14), (2, 15), (2, 19), (4, 0), (5, 1), (5, 2), (6, 11), (6, 13), (9, 1), (9, 2), (9, 3)], [16, 17, 18, 19, 20, 21, 34, 35, 36, 37, 38, 39, 55, 56, 57, 58, 59, 60, 61, 62, 63, 64, 65, 66, 67, 68, 69, 70, 71, 72, 73, 92, 93, 94, 96], [(6, 0), (6, 1), (9, 0)])
