/-! M_.top -/
def vw_312 : sx_Wl := ([], [], [])
def vq_312 (l_ : List (Int × Int)) (S0_ : sm_S) (u_ : Option sm_V) (S1_ : sm_S) : Prop := S0_ = S1_ ∧ ∃ v_ : Int, u_ = some (.inl v_) ∧ (v_ = w_tp l_)
set_option maxHeartbeats 400000 in
theorem vc_312 {sc_ : Nat × (Nat → Int)} (l_ : List (Int × Int)) (S0_ : sm_S) (hI_ : gi S0_) (hw_ : ws l_ S0_) : sm_T (mt_P sc_) 0 312 (0, [some (.inr (.inr (some (13, 0))))], [], S0_) (fun r_ => ∃ u_ S1_, r_ = (.inl u_, S1_, 0) ∧ vq_312 l_ S0_ u_ S1_) := by
  have hF_ : ai_fr (sx_W vw_312) S0_ S0_ := ai_fr_rf
  have bx1_ : 0 ≤ S0_.1 13 0 32 ∧ S0_.1 13 0 32 ≤ 1023 := hI_.1 13 0 32 rfl
  refine sm_T_go 2 (c1 := (4, [some (.inr (.inr (some (13, 0))))], [.inl (S0_.1 13 0 32)], S0_)) rfl ?_
  refine sm_T_b0 (a := 5) (z := 17) rfl (fun cx2_ => ?_) (fun cx2_ => ?_)
  · have cx2_ : (S0_.1 13 0 32) ≤ 0 := of_decide_eq_true cx2_
    refine sm_T_go 1 (c1 := (22, [some (.inr (.inr (some (13, 0))))], [.inl 0], S0_)) rfl ?_
    refine sm_T_ri rfl ⟨_, _, rfl, rfl, _, rfl, ?_⟩
    first | (rw [ws_t0 hw_ (by omega)]; rfl) | exact (ws_tp hw_ (by omega)).1
  · have cx2_ : ¬ ((S0_.1 13 0 32) ≤ 0) := of_decide_eq_false cx2_
    refine sm_T_go 5 (c1 := (16, [some (.inr (.inr (some (13, 0))))], [.inl 1, .inl (S0_.1 13 0 32), .inr (.inr (some (136, 0)))], S0_)) rfl ?_
    refine sm_T_bin (w := (S0_.1 13 0 32) - 1) rfl (bi_sub (by omega) (by omega) (by omega)) ?_
    refine sm_T_iald (n := 1024) rfl rfl (by omega) (by omega) ?_
    have bx3_ : (-2147483648) ≤ S0_.2.2.1 136 0 ((S0_.1 13 0 32) - 1).toNat ∧ S0_.2.2.1 136 0 ((S0_.1 13 0 32) - 1).toNat ≤ 2147483647 := hI_.2 136 0 _
    refine sm_T_go 1 (c1 := (22, [some (.inr (.inr (some (13, 0))))], [.inl (S0_.2.2.1 136 0 ((S0_.1 13 0 32) - 1).toNat)], S0_)) rfl ?_
    refine sm_T_ri rfl ⟨_, _, rfl, rfl, _, rfl, ?_⟩
    first | (rw [ws_t0 hw_ (by omega)]; rfl) | exact (ws_tp hw_ (by omega)).1
