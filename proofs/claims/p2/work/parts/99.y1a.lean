/-! the reference: tokens taken; written by wip/p55/gen/vg -/

/-! right or wrong -/
theorem rg_r {b_ : Nat → Int} {n_ T_ : Nat} {x_ : pE Nat} {S_ : sm_S} (h_ : rg b_ n_ T_ x_ S_) (h0_ : S_.1 13 0 10 = 0) : ∃ p_ i_ : Nat, x_ = .inr p_ ∧ S_.1 13 0 9 = (i_ : Int) ∧ rp b_ n_ T_ i_ p_ := by
  cases x_ with
  | inl e_ => exact absurd (h_.1.symm.trans h0_) h_.2.2
  | inr p_ => obtain ⟨i_, h1_, h2_⟩ := h_.2; exact ⟨p_, i_, rfl, h1_, h2_⟩
theorem rg_w {b_ : Nat → Int} {n_ T_ : Nat} {x_ : pE Nat} {S_ : sm_S} (h_ : rg b_ n_ T_ x_ S_) (h0_ : S_.1 13 0 10 ≠ 0) : ∃ e_, x_ = .inl e_ := by
  cases x_ with
  | inl e_ => exact ⟨e_, rfl⟩
  | inr p_ => exact absurd h_.1 h0_
theorem rg_e {b_ : Nat → Int} {n_ T_ : Nat} {e_ : Int × Nat} {f_ : Nat → pE Nat} {S_ S'_ : sm_S} (h_ : rg b_ n_ T_ (.inl e_) S_) (h1_ : S'_.1 13 0 10 = S_.1 13 0 10) (h2_ : S'_.1 13 0 11 = S_.1 13 0 11) : rg b_ n_ T_ (pb (.inl e_) f_) S'_ := ⟨h1_.trans h_.1, h2_.trans h_.2.1, h_.2.2⟩
def p_du (b_ : Nat → Int) (n_ : Nat) (s_ : Int) (p_ : Nat) : pE Nat := if lx_kd b_ n_ p_ = s_ then .inr p_ else .inl (2, p_)
/-! M_.isRight -/
def vw_292 : sx_Wl := ([], [], [])
def vq_292  (S0_ : sm_S) (u_ : Option sm_V) (S1_ : sm_S) : Prop := S0_ = S1_ ∧ ∃ v_ : Int, u_ = some (.inl v_) ∧ (v_ = if (S1_.1 13 0 10) = 0 then 1 else 0)
set_option maxHeartbeats 400000 in
theorem vc_292 {sc_ : Nat × (Nat → Int)}  (S0_ : sm_S) (hI_ : gi S0_)  : sm_T (mt_P sc_) 0 292 (0, [some (.inr (.inr (some (13, 0))))], [], S0_) (fun r_ => ∃ u_ S1_, r_ = (.inl u_, S1_, 0) ∧ vq_292  S0_ u_ S1_) := by
  have hF_ : ai_fr (sx_W vw_292) S0_ S0_ := ai_fr_rf
  have bx1_ : 0 ≤ S0_.1 13 0 10 ∧ S0_.1 13 0 10 ≤ 23 := hI_.1 13 0 10 rfl
  refine sm_T_go 2 (c1 := (4, [some (.inr (.inr (some (13, 0))))], [.inl (S0_.1 13 0 10)], S0_)) rfl ?_
  refine sm_T_b0 (a := 1) (z := 7) rfl (fun cx2_ => ?_) (fun cx2_ => ?_)
  · have cx2_ : (S0_.1 13 0 10) ≠ 0 := of_decide_eq_true cx2_
    refine sm_T_go 1 (c1 := (12, [some (.inr (.inr (some (13, 0))))], [.inl 0], S0_)) rfl ?_
    refine sm_T_rz rfl (by omega) ⟨_, _, rfl, rfl, _, rfl, ?_⟩
    first | rw [if_pos (by omega)] | rw [if_neg (by omega)]
  · have cx2_ : ¬ ((S0_.1 13 0 10) ≠ 0) := of_decide_eq_false cx2_
    refine sm_T_go 2 (c1 := (12, [some (.inr (.inr (some (13, 0))))], [.inl 1], S0_)) rfl ?_
    refine sm_T_rz rfl (by omega) ⟨_, _, rfl, rfl, _, rfl, ?_⟩
    first | rw [if_pos (by omega)] | rw [if_neg (by omega)]
