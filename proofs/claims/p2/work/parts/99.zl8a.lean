/-! tests: patterns; written by wip/p55/gen/vg -/
/-! Tester.isShown -/
def vw_176 : sx_Wl := ([], [], [])
def vq_176 (a1_ : Int) (a2_ : Int) (S0_ : sm_S) (u_ : Option sm_V) (S1_ : sm_S) : Prop := S0_ = S1_ ∧ ∃ v_ : Int, u_ = some (.inl v_) ∧ (0 ≤ v_ ∧ v_ ≤ 1)
set_option maxHeartbeats 400000 in
theorem vc_176 {sc_ : Nat × (Nat → Int)} (a1_ : Int) (a2_ : Int) (S0_ : sm_S) (hI_ : gi S0_) (h1_ : 0 ≤ a1_ ∧ a1_ ≤ 4095) (h2_ : 0 ≤ a2_ ∧ a2_ ≤ 1223) : sm_T (mt_P sc_) 0 176 (0, [some (.inr (.inr (some (9, 0)))), some (.inl a1_), some (.inl a2_)], [], S0_) (fun ro9_ => ∃ u_ S1_, ro9_ = (.inl u_, S1_, 0) ∧ vq_176 a1_ a2_ S0_ u_ S1_) := by
  have hF_ : ai_fr (sx_W vw_176) S0_ S0_ := ai_fr_rf
  refine sm_T_go 4 (c1 := (7, [some (.inr (.inr (some (9, 0)))), some (.inl a1_), some (.inl a2_)], [.inl 64, .inl a2_, .inr (.inr (some (95, 0)))], S0_)) rfl ?_
  refine sm_T_bin (w := 64 * a2_) rfl (bi_mul (by omega) (by omega) (by omega)) ?_ -- pc_ 7
  refine sm_T_go 2 (c1 := (11, [some (.inr (.inr (some (9, 0)))), some (.inl a1_), some (.inl a2_)], [.inl 6, .inl a1_, .inl (64 * a2_), .inr (.inr (some (95, 0)))], S0_)) rfl ?_
  refine sm_T_bin (w := (a1_ / 64)) rfl (bi_shr (k := 6) (by decide) (by omega) (by omega)) ?_ -- pc_ 11
  refine sm_T_bin (w := 64 * a2_ + (a1_ / 64)) rfl (bi_add (by omega) (by omega) (by omega)) ?_ -- pc_ 12
  refine sm_T_lald (n := 78336) rfl rfl (by omega) (by omega) ?_
  refine sm_T_go 2 (c1 := (17, [some (.inr (.inr (some (9, 0)))), some (.inl a1_), some (.inl a2_)], [.inl 63, .inl a1_, .inr (.inl (S0_.2.2.2 95 0 (64 * a2_ + (a1_ / 64)).toNat))], S0_)) rfl ?_
  refine sm_T_bin (w := (a1_ % 64)) rfl (bi_msk (k := 6) (by decide)) ?_ -- pc_ 17
  refine sm_T_go 5 (c1 := (23, [some (.inr (.inr (some (9, 0)))), some (.inl a1_), some (.inl a2_)], [.inl (sm_lcmp ((l_3 ((l_s1 ((S0_.2.2.2 95 0 (64 * a2_ + (a1_ / 64)).toNat)) (a1_ % 64))) 1)) 0)], S0_)) rfl ?_
  refine sm_T_b0 (a := 0) (z := 7) rfl (fun cx1_ => ?_) (fun cx1_ => ?_)
  · have cx1_ : (sm_lcmp ((l_3 ((l_s1 ((S0_.2.2.2 95 0 (64 * a2_ + (a1_ / 64)).toNat)) (a1_ % 64))) 1)) 0) = 0 := of_decide_eq_true cx1_
    refine sm_T_go 1 (c1 := (31, [some (.inr (.inr (some (9, 0)))), some (.inl a1_), some (.inl a2_)], [.inl 0], S0_)) rfl ?_
    refine sm_T_rz rfl (by omega) ⟨_, _, rfl, rfl, _, rfl, ?_⟩
    omega
  · have cx1_ : ¬ ((sm_lcmp ((l_3 ((l_s1 ((S0_.2.2.2 95 0 (64 * a2_ + (a1_ / 64)).toNat)) (a1_ % 64))) 1)) 0) = 0) := of_decide_eq_false cx1_
    refine sm_T_go 2 (c1 := (31, [some (.inr (.inr (some (9, 0)))), some (.inl a1_), some (.inl a2_)], [.inl 1], S0_)) rfl ?_
    refine sm_T_rz rfl (by omega) ⟨_, _, rfl, rfl, _, rfl, ?_⟩
    omega
