/-! the reference: opening; written by wip/p55/gen/vg -/
/-! M_.within -/
def vw_278 : sx_Wl := ([], [], [])
def vq_278 (v0_ : Int) (lo_ : Int) (hi_ : Int) (S0_ : sm_S) (u_ : Option sm_V) (S1_ : sm_S) : Prop := S0_ = S1_ ∧ ∃ v_ : Int, u_ = some (.inl v_) ∧ ((v_ = 0 ∨ v_ = 1) ∧ (v_ = 1 ↔ lo_ ≤ v0_ ∧ v0_ ≤ hi_))
set_option maxHeartbeats 400000 in
theorem vc_278 {sc_ : Nat × (Nat → Int)} (v0_ : Int) (lo_ : Int) (hi_ : Int) (S0_ : sm_S) (hI_ : gi S0_)  : sm_T (mt_P sc_) 0 278 (0, [some (.inl v0_), some (.inl lo_), some (.inl hi_)], [], S0_) (fun r_ => ∃ u_ S1_, r_ = (.inl u_, S1_, 0) ∧ vq_278 v0_ lo_ hi_ S0_ u_ S1_) := by
  have hF_ : ai_fr (sx_W vw_278) S0_ S0_ := ai_fr_rf
  refine sm_T_go 2 (c1 := (2, [some (.inl v0_), some (.inl lo_), some (.inl hi_)], [.inl lo_, .inl v0_], S0_)) rfl ?_
  refine sm_T_br (a := 2) (z := 12) rfl (fun cx1_ => ?_) (fun cx1_ => ?_)
  · have cx1_ : v0_ < lo_ := of_decide_eq_true cx1_
    refine sm_T_go 1 (c1 := (15, [some (.inl v0_), some (.inl lo_), some (.inl hi_)], [.inl 0], S0_)) rfl ?_
    refine sm_T_rz rfl (by omega) ⟨_, _, rfl, rfl, _, rfl, ?_⟩
    omega
  · have cx1_ : ¬ (v0_ < lo_) := of_decide_eq_false cx1_
    refine sm_T_go 2 (c1 := (7, [some (.inl v0_), some (.inl lo_), some (.inl hi_)], [.inl hi_, .inl v0_], S0_)) rfl ?_
    refine sm_T_br (a := 4) (z := 7) rfl (fun cx2_ => ?_) (fun cx2_ => ?_)
    · have cx2_ : hi_ < v0_ := of_decide_eq_true cx2_
      refine sm_T_go 1 (c1 := (15, [some (.inl v0_), some (.inl lo_), some (.inl hi_)], [.inl 0], S0_)) rfl ?_
      refine sm_T_rz rfl (by omega) ⟨_, _, rfl, rfl, _, rfl, ?_⟩
      omega
    · have cx2_ : ¬ (hi_ < v0_) := of_decide_eq_false cx2_
      refine sm_T_go 2 (c1 := (15, [some (.inl v0_), some (.inl lo_), some (.inl hi_)], [.inl 1], S0_)) rfl ?_
      refine sm_T_rz rfl (by omega) ⟨_, _, rfl, rfl, _, rfl, ?_⟩
      omega
