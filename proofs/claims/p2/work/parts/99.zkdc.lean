/-! Router.priceOf -/
def vw_160 : sx_Wl := ([], [], [])
def vq_160 (a1_ : Int) (a2_ : Int) (bb_ : Nat) (S0_ : sm_S) (u_ : Option sm_V) (S1_ : sm_S) : Prop := S0_ = S1_ ∧ ∃ v_ : Int, u_ = some (.inl v_) ∧ (v_ = prc (S0_.2.2.1 22 (0 + bb_)) a2_ a1_.toNat)
set_option maxHeartbeats 400000 in
theorem vc_160 {sc_ : Nat × (Nat → Int)} (a1_ : Int) (a2_ : Int) (bb_ : Nat) (S0_ : sm_S) (hI_ : gi S0_) (hb_ : S0_.2.1 8 0 0 = some bb_) (h1_ : 0 ≤ a1_ ∧ a1_ < 4712) : sm_T (mt_P sc_) 0 160 (0, [some (.inr (.inr (some (8, 0)))), some (.inl a1_), some (.inl a2_)], [], S0_) (fun ro9_ => ∃ u_ S1_, ro9_ = (.inl u_, S1_, 0) ∧ vq_160 a1_ a2_ bb_ S0_ u_ S1_) := by
  have hF_ : ai_fr (sx_W vw_160) S0_ S0_ := ai_fr_rf
  refine sm_T_go 1 (c1 := (1, [some (.inr (.inr (some (8, 0)))), some (.inl a1_), some (.inl a2_)], [.inr (.inr (some (8, 0)))], S0_)) rfl ?_
  refine sm_T_gr rfl rfl ((hF_.2.1 8 0 0 rfl).trans hb_) ?_
  refine sm_T_go 2 (c1 := (8, [some (.inr (.inr (some (8, 0)))), some (.inl a1_), some (.inl a2_)], [.inl a1_, .inr (.inr (some (22, (0 + bb_))))], S0_)) rfl ?_
  refine sm_T_iald (n := 4712) rfl rfl (by omega) (by omega) ?_
  have bx1_ : (-1) ≤ S0_.2.2.1 22 (0 + bb_) a1_.toNat ∧ S0_.2.2.1 22 (0 + bb_) a1_.toNat ≤ 161 := hI_.2 22 (0 + bb_) _
  refine sm_T_go 1 (c1 := (10, [some (.inr (.inr (some (8, 0)))), some (.inl a1_), some (.inl a2_)], [.inl (-1), .inl (S0_.2.2.1 22 (0 + bb_) a1_.toNat)], S0_)) rfl ?_
  refine sm_T_br (a := 0) (z := 16) rfl (fun cx2_ => ?_) (fun cx2_ => ?_)
  · have cx2_ : (S0_.2.2.1 22 (0 + bb_) a1_.toNat) = (-1) := of_decide_eq_true cx2_
    refine sm_T_go 2 (c1 := (32, [some (.inr (.inr (some (8, 0)))), some (.inl a1_), some (.inl a2_)], [.inl 1], S0_)) rfl ?_
    refine sm_T_ri rfl ⟨_, _, rfl, rfl, _, rfl, ?_⟩
    unfold prc
    first | rw [if_pos (Or.inl (by omega))] | rw [if_pos (Or.inr (by omega))] | rw [if_neg (by omega)]
  · have cx2_ : ¬ ((S0_.2.2.1 22 (0 + bb_) a1_.toNat) = (-1)) := of_decide_eq_false cx2_
    refine sm_T_go 1 (c1 := (14, [some (.inr (.inr (some (8, 0)))), some (.inl a1_), some (.inl a2_)], [.inr (.inr (some (8, 0)))], S0_)) rfl ?_
    refine sm_T_gr rfl rfl ((hF_.2.1 8 0 0 rfl).trans hb_) ?_
    refine sm_T_go 2 (c1 := (21, [some (.inr (.inr (some (8, 0)))), some (.inl a1_), some (.inl a2_)], [.inl a1_, .inr (.inr (some (22, (0 + bb_))))], S0_)) rfl ?_
    refine sm_T_iald (n := 4712) rfl rfl (by omega) (by omega) ?_
    refine sm_T_go 1 (c1 := (23, [some (.inr (.inr (some (8, 0)))), some (.inl a1_), some (.inl a2_)], [.inl a2_, .inl (S0_.2.2.1 22 (0 + bb_) a1_.toNat)], S0_)) rfl ?_
    refine sm_T_br (a := 1) (z := 7) rfl (fun cx3_ => ?_) (fun cx3_ => ?_)
    · have cx3_ : (S0_.2.2.1 22 (0 + bb_) a1_.toNat) ≠ a2_ := of_decide_eq_true cx3_
      refine sm_T_go 1 (c1 := (32, [some (.inr (.inr (some (8, 0)))), some (.inl a1_), some (.inl a2_)], [.inl 11], S0_)) rfl ?_
      refine sm_T_ri rfl ⟨_, _, rfl, rfl, _, rfl, ?_⟩
      unfold prc
      first | rw [if_pos (Or.inl (by omega))] | rw [if_pos (Or.inr (by omega))] | rw [if_neg (by omega)]
    · have cx3_ : ¬ ((S0_.2.2.1 22 (0 + bb_) a1_.toNat) ≠ a2_) := of_decide_eq_false cx3_
      refine sm_T_go 2 (c1 := (32, [some (.inr (.inr (some (8, 0)))), some (.inl a1_), some (.inl a2_)], [.inl 1], S0_)) rfl ?_
      refine sm_T_ri rfl ⟨_, _, rfl, rfl, _, rfl, ?_⟩
      unfold prc
      first | rw [if_pos (Or.inl (by omega))] | rw [if_pos (Or.inr (by omega))] | rw [if_neg (by omega)]
