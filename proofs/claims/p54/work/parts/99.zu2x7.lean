/-! the class: alter, with its table; written by wip/p55/gen/vg -/

/-- what the_ tester holds is_ not newer than the_ chip; stamps stay small -/
def tsk (c_ : Nat) (S_ : sm_S) : Prop := (0 ≤ S_.1 2 c_ 19 ∧ S_.1 2 c_ 19 ≤ 1000000) ∧ (S_.2.1 9 0 0 = some c_ → S_.1 9 0 1 ≤ S_.1 2 c_ 19)
/-- a_ chip whose table was_ filled last -/
def tsf (c_ : Nat) (S_ : sm_S) : Prop := kctb c_ S_ ∧ S_.2.1 9 0 0 = some c_ ∧ S_.1 9 0 1 = S_.1 2 c_ 19
/-! ChipFlow.alter -/
def vw_234m : sx_Wl := ([(0, 16), (2, 15), (2, 19), (9, 1), (9, 2), (9, 3)], [34, 35, 92, 93, 94, 96], [(9, 0)])
