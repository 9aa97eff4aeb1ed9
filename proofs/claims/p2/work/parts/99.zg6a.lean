/-! the class: a row that is like another; written by wip/p55/gen/vg -/
/-! Builder.wordOf -/
def vw_48 : sx_Wl := ([], [], [])
def vq_48 (l_ : Int) (w_ : Int) (S0_ : sm_S) (u_ : Option sm_V) (S1_ : sm_S) : Prop := S0_ = S1_ ∧ ∃ v_ : Int, u_ = some (.inr (.inl v_)) ∧ (v_ = wlt (S0_.2.2.2 32 0) l_ w_.toNat)
set_option maxHeartbeats 400000 in
theorem vc_48 {sc_ : Nat × (Nat → Int)} (l_ : Int) (w_ : Int) (S0_ : sm_S) (hI_ : gi S0_) (hl_ : 0 ≤ l_ ∧ l_ ≤ 2025) (hw_ : 0 ≤ w_ ∧ w_ ≤ 63) : sm_T (mt_P sc_) 0 48 (0, [some (.inr (.inr (some (1, 0)))), some (.inl l_), some (.inl w_), none, none], [], S0_) (fun ro9_ => ∃ u_ S1_, ro9_ = (.inl u_, S1_, 0) ∧ vq_48 l_ w_ S0_ u_ S1_) := by
  have hF_ : ai_fr (sx_W vw_48) S0_ S0_ := ai_fr_rf
  refine sm_T_go 4 (c1 := (6, [some (.inr (.inr (some (1, 0)))), some (.inl l_), some (.inl w_), none, none], [.inl 1, .inl l_, .inr (.inr (some (32, 0)))], S0_)) rfl ?_
  refine sm_T_bin (w := (l_ / 2)) rfl (bi_shr (k := 1) (by decide) (by omega) (by omega)) ?_
  refine sm_T_go 1 (c1 := (9, [some (.inr (.inr (some (1, 0)))), some (.inl l_), some (.inl w_), none, none], [.inl 64, .inl (l_ / 2), .inr (.inr (some (32, 0)))], S0_)) rfl ?_
  refine sm_T_bin (w := 64 * (l_ / 2)) rfl (bi_mul (by omega) (by omega) (by omega)) ?_
  refine sm_T_go 1 (c1 := (11, [some (.inr (.inr (some (1, 0)))), some (.inl l_), some (.inl w_), none, none], [.inl w_, .inl (64 * (l_ / 2)), .inr (.inr (some (32, 0)))], S0_)) rfl ?_
  refine sm_T_bin (w := 64 * (l_ / 2) + w_) rfl (bi_add (by omega) (by omega) (by omega)) ?_
  refine sm_T_lald (n := 64832) rfl rfl (by omega) (by omega) ?_
  refine sm_T_go 3 (c1 := (16, [some (.inr (.inr (some (1, 0)))), some (.inl l_), some (.inl w_), some (.inr (.inl (S0_.2.2.2 32 0 (64 * (l_ / 2) + w_).toNat))), none], [.inl 1, .inl l_], S0_)) rfl ?_
  refine sm_T_bin (w := (l_ % 2)) rfl (bi_msk (k := 1) (by decide)) ?_
  refine sm_T_b0 (a := 1) (z := 7) rfl (fun cx1_ => ?_) (fun cx1_ => ?_)
  · have cx1_ : (l_ % 2) ≠ 0 := of_decide_eq_true cx1_
    refine sm_T_go 1 (c1 := (25, [some (.inr (.inr (some (1, 0)))), some (.inl l_), some (.inl w_), some (.inr (.inl (S0_.2.2.2 32 0 (64 * (l_ / 2) + w_).toNat))), none], [.inr (.inl (S0_.2.2.2 32 0 (64 * (l_ / 2) + w_).toNat))], S0_)) rfl ?_
    refine sm_T_nt (u := some (.inr (.inl (-1)))) (S1 := S0_) rfl rfl rfl ?_
    refine sm_T_go 1 (c1 := (29, [some (.inr (.inr (some (1, 0)))), some (.inl l_), some (.inl w_), some (.inr (.inl (S0_.2.2.2 32 0 (64 * (l_ / 2) + w_).toNat))), none], [.inr (.inl (l_5 ((S0_.2.2.2 32 0 (64 * (l_ / 2) + w_).toNat)) (-1)))], S0_)) rfl ?_
    refine sm_T_rl rfl ⟨_, _, rfl, rfl, _, rfl, ?_⟩
    unfold wlt
    rw [show 64 * (l_ / 2).toNat + w_.toNat = (64 * (l_ / 2) + w_).toNat by omega]
    first | rw [if_pos (by omega)] | rw [if_neg (by omega)]
  · have cx1_ : ¬ ((l_ % 2) ≠ 0) := of_decide_eq_false cx1_
    refine sm_T_go 2 (c1 := (29, [some (.inr (.inr (some (1, 0)))), some (.inl l_), some (.inl w_), some (.inr (.inl (S0_.2.2.2 32 0 (64 * (l_ / 2) + w_).toNat))), none], [.inr (.inl (S0_.2.2.2 32 0 (64 * (l_ / 2) + w_).toNat))], S0_)) rfl ?_
    refine sm_T_rl rfl ⟨_, _, rfl, rfl, _, rfl, ?_⟩
    unfold wlt
    rw [show 64 * (l_ / 2).toNat + w_.toNat = (64 * (l_ / 2) + w_).toNat by omega]
    first | rw [if_pos (by omega)] | rw [if_neg (by omega)]
