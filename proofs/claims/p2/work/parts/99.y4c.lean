/-! M_.rank -/
def vw_309 : sx_Wl := ([], [], [])
def vq_309 (s_ : Int) (S0_ : sm_S) (u_ : Option sm_V) (S1_ : sm_S) : Prop := S0_ = S1_ ∧ ∃ v_ : Int, u_ = some (.inl v_) ∧ (v_ = p_lv false s_)
set_option maxHeartbeats 400000 in
theorem vc_309 {sc_ : Nat × (Nat → Int)} (s_ : Int) (S0_ : sm_S) (hI_ : gi S0_)  : sm_T (mt_P sc_) 0 309 (0, [some (.inl s_)], [], S0_) (fun r_ => ∃ u_ S1_, r_ = (.inl u_, S1_, 0) ∧ vq_309 s_ S0_ u_ S1_) := by
  have hF_ : ai_fr (sx_W vw_309) S0_ S0_ := ai_fr_rf
  refine sm_T_go 2 (c1 := (3, [some (.inl s_)], [.inl 124, .inl s_], S0_)) rfl ?_
  refine sm_T_br (a := 1) (z := 7) rfl (fun cx1_ => ?_) (fun cx1_ => ?_)
  · have cx1_ : s_ ≠ 124 := of_decide_eq_true cx1_
    refine sm_T_go 2 (c1 := (13, [some (.inl s_)], [.inl 94, .inl s_], S0_)) rfl ?_
    refine sm_T_br (a := 1) (z := 7) rfl (fun cx2_ => ?_) (fun cx2_ => ?_)
    · have cx2_ : s_ ≠ 94 := of_decide_eq_true cx2_
      refine sm_T_go 2 (c1 := (23, [some (.inl s_)], [.inl 38, .inl s_], S0_)) rfl ?_
      refine sm_T_br (a := 1) (z := 7) rfl (fun cx3_ => ?_) (fun cx3_ => ?_)
      · have cx3_ : s_ ≠ 38 := of_decide_eq_true cx3_
        refine sm_T_go 2 (c1 := (34, [some (.inl s_)], [.inl 257, .inl s_], S0_)) rfl ?_
        refine sm_T_br (a := 1) (z := 7) rfl (fun cx4_ => ?_) (fun cx4_ => ?_)
        · have cx4_ : s_ ≠ 257 := of_decide_eq_true cx4_
          refine sm_T_go 2 (c1 := (44, [some (.inl s_)], [.inl 43, .inl s_], S0_)) rfl ?_
          refine sm_T_br (a := 1) (z := 7) rfl (fun cx5_ => ?_) (fun cx5_ => ?_)
          · have cx5_ : s_ ≠ 43 := of_decide_eq_true cx5_
            refine sm_T_go 1 (c1 := (52, [some (.inl s_)], [.inl 0], S0_)) rfl ?_
            refine sm_T_ri rfl ⟨_, _, rfl, rfl, _, rfl, ?_⟩
            unfold p_lv
            first | rw [if_pos (by omega)] | rw [if_neg (by omega), if_pos (by omega)] | rw [if_neg (by omega), if_neg (by omega), if_pos (by omega)] | rw [if_neg (by omega), if_neg (by omega), if_neg (by omega), if_neg (by decide), if_pos (by omega)] | rw [if_neg (by omega), if_neg (by omega), if_neg (by omega), if_neg (by decide), if_neg (by omega), if_pos (by omega)] | rw [if_neg (by omega), if_neg (by omega), if_neg (by omega), if_neg (by decide), if_neg (by omega), if_neg (by omega)]
          · have cx5_ : ¬ (s_ ≠ 43) := of_decide_eq_false cx5_
            refine sm_T_go 2 (c1 := (52, [some (.inl s_)], [.inl 5], S0_)) rfl ?_
            refine sm_T_ri rfl ⟨_, _, rfl, rfl, _, rfl, ?_⟩
            unfold p_lv
            first | rw [if_pos (by omega)] | rw [if_neg (by omega), if_pos (by omega)] | rw [if_neg (by omega), if_neg (by omega), if_pos (by omega)] | rw [if_neg (by omega), if_neg (by omega), if_neg (by omega), if_neg (by decide), if_pos (by omega)] | rw [if_neg (by omega), if_neg (by omega), if_neg (by omega), if_neg (by decide), if_neg (by omega), if_pos (by omega)] | rw [if_neg (by omega), if_neg (by omega), if_neg (by omega), if_neg (by decide), if_neg (by omega), if_neg (by omega)]
        · have cx4_ : ¬ (s_ ≠ 257) := of_decide_eq_false cx4_
          refine sm_T_go 2 (c1 := (52, [some (.inl s_)], [.inl 4], S0_)) rfl ?_
          refine sm_T_ri rfl ⟨_, _, rfl, rfl, _, rfl, ?_⟩
          unfold p_lv
          first | rw [if_pos (by omega)] | rw [if_neg (by omega), if_pos (by omega)] | rw [if_neg (by omega), if_neg (by omega), if_pos (by omega)] | rw [if_neg (by omega), if_neg (by omega), if_neg (by omega), if_neg (by decide), if_pos (by omega)] | rw [if_neg (by omega), if_neg (by omega), if_neg (by omega), if_neg (by decide), if_neg (by omega), if_pos (by omega)] | rw [if_neg (by omega), if_neg (by omega), if_neg (by omega), if_neg (by decide), if_neg (by omega), if_neg (by omega)]
      · have cx3_ : ¬ (s_ ≠ 38) := of_decide_eq_false cx3_
        refine sm_T_go 2 (c1 := (52, [some (.inl s_)], [.inl 3], S0_)) rfl ?_
        refine sm_T_ri rfl ⟨_, _, rfl, rfl, _, rfl, ?_⟩
        unfold p_lv
        first | rw [if_pos (by omega)] | rw [if_neg (by omega), if_pos (by omega)] | rw [if_neg (by omega), if_neg (by omega), if_pos (by omega)] | rw [if_neg (by omega), if_neg (by omega), if_neg (by omega), if_neg (by decide), if_pos (by omega)] | rw [if_neg (by omega), if_neg (by omega), if_neg (by omega), if_neg (by decide), if_neg (by omega), if_pos (by omega)] | rw [if_neg (by omega), if_neg (by omega), if_neg (by omega), if_neg (by decide), if_neg (by omega), if_neg (by omega)]
    · have cx2_ : ¬ (s_ ≠ 94) := of_decide_eq_false cx2_
      refine sm_T_go 2 (c1 := (52, [some (.inl s_)], [.inl 2], S0_)) rfl ?_
      refine sm_T_ri rfl ⟨_, _, rfl, rfl, _, rfl, ?_⟩
      unfold p_lv
      first | rw [if_pos (by omega)] | rw [if_neg (by omega), if_pos (by omega)] | rw [if_neg (by omega), if_neg (by omega), if_pos (by omega)] | rw [if_neg (by omega), if_neg (by omega), if_neg (by omega), if_neg (by decide), if_pos (by omega)] | rw [if_neg (by omega), if_neg (by omega), if_neg (by omega), if_neg (by decide), if_neg (by omega), if_pos (by omega)] | rw [if_neg (by omega), if_neg (by omega), if_neg (by omega), if_neg (by decide), if_neg (by omega), if_neg (by omega)]
  · have cx1_ : ¬ (s_ ≠ 124) := of_decide_eq_false cx1_
    refine sm_T_go 2 (c1 := (52, [some (.inl s_)], [.inl 1], S0_)) rfl ?_
    refine sm_T_ri rfl ⟨_, _, rfl, rfl, _, rfl, ?_⟩
    unfold p_lv
    first | rw [if_pos (by omega)] | rw [if_neg (by omega), if_pos (by omega)] | rw [if_neg (by omega), if_neg (by omega), if_pos (by omega)] | rw [if_neg (by omega), if_neg (by omega), if_neg (by omega), if_neg (by decide), if_pos (by omega)] | rw [if_neg (by omega), if_neg (by omega), if_neg (by omega), if_neg (by decide), if_neg (by omega), if_pos (by omega)] | rw [if_neg (by omega), if_neg (by omega), if_neg (by omega), if_neg (by decide), if_neg (by omega), if_neg (by omega)]

/-! levels on_ both sides -/
theorem p_lv_md {k_ : Int} : (p_lv true k_ = if p_lv false k_ < 4 then p_lv false k_ else 0) := by
  by_cases g1_ : k_ = 124
  · subst g1_; decide
  · by_cases g2_ : k_ = 94
    · subst g2_; decide
    · by_cases g3_ : k_ = 38
      · subst g3_; decide
      · by_cases g4_ : k_ = 257
        · subst g4_; decide
        · by_cases g5_ : k_ = 43
          · subst g5_; decide
          · simp [p_lv, g1_, g2_, g3_, g4_, g5_]
theorem p_lv_lo {md_ : Bool} {k_ : Int} (h_ : k_ < 33) : p_lv md_ k_ = 0 := by
  unfold p_lv
  rw [if_neg (by omega), if_neg (by omega), if_neg (by omega)]
  split
  · rfl
  · rw [if_neg (by omega), if_neg (by omega)]
def mdo (mo_ : Int) : Bool := decide (mo_ = 2)
