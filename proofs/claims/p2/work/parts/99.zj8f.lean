/-! Chip.endNet -/
def vw_58 : sx_Wl := ([], [], [])
def vq_58 (a1_ : Int) (ii_ : Nat) (S0_ : sm_S) (u_ : Option sm_V) (S1_ : sm_S) : Prop := S0_ = S1_ ∧ ∃ v_ : Int, u_ = some (.inl v_) ∧ (-2 ≤ v_ ∧ v_ ≤ 161)
set_option maxHeartbeats 400000 in
theorem vc_58 {sc_ : Nat × (Nat → Int)} (a1_ : Int) (ii_ : Nat) (S0_ : sm_S) (hI_ : gi S0_) (h1_ : 0 ≤ a1_ ∧ a1_ ≤ 21 ∧ a1_ < S0_.1 2 ii_ 3 + S0_.1 2 ii_ 2) : sm_T (mt_P sc_) 0 58 (0, [some (.inr (.inr (some (2, ii_)))), some (.inl a1_)], [], S0_) (fun ro9_ => ∃ u_ S1_, ro9_ = (.inl u_, S1_, 0) ∧ vq_58 a1_ ii_ S0_ u_ S1_) := by
  have hF_ : ai_fr (sx_W vw_58) S0_ S0_ := ai_fr_rf
  have c2_ : 0 ≤ S0_.1 2 ii_ 2 ∧ S0_.1 2 ii_ 2 ≤ 6 := hI_.1 2 ii_ 2 rfl
  have bx1_ : 0 ≤ S0_.1 2 ii_ 3 ∧ S0_.1 2 ii_ 3 ≤ 16 := hI_.1 2 ii_ 3 rfl
  refine sm_T_go 3 (c1 := (5, [some (.inr (.inr (some (2, ii_)))), some (.inl a1_)], [.inl (S0_.1 2 ii_ 3), .inl a1_], S0_)) rfl ?_
  refine sm_T_br (a := 3) (z := 12) rfl (fun cx2_ => ?_) (fun cx2_ => ?_)
  · have cx2_ : (S0_.1 2 ii_ 3) ≤ a1_ := of_decide_eq_true cx2_
    refine sm_T_go 5 (c1 := (26, [some (.inr (.inr (some (2, ii_)))), some (.inl a1_)], [.inl (S0_.1 2 ii_ 3), .inl a1_, .inr (.inr (some (38, (0 + ii_))))], S0_)) rfl ?_
    refine sm_T_bin (w := a1_ - (S0_.1 2 ii_ 3)) rfl (bi_sub (by omega) (by omega) (by omega)) ?_ -- pc_ 26
    refine sm_T_iald (n := 6) rfl rfl (by omega) (by omega) ?_
    have bx3_ : (-2) ≤ S0_.2.2.1 38 (0 + ii_) (a1_ - (S0_.1 2 ii_ 3)).toNat ∧ S0_.2.2.1 38 (0 + ii_) (a1_ - (S0_.1 2 ii_ 3)).toNat ≤ 161 := hI_.2 38 (0 + ii_) _
    refine sm_T_ri rfl ⟨_, _, rfl, rfl, _, rfl, ?_⟩
    omega
  · have cx2_ : ¬ ((S0_.1 2 ii_ 3) ≤ a1_) := of_decide_eq_false cx2_
    refine sm_T_go 3 (c1 := (13, [some (.inr (.inr (some (2, ii_)))), some (.inl a1_)], [.inl a1_, .inr (.inr (some (37, (0 + ii_))))], S0_)) rfl ?_
    refine sm_T_iald (n := 16) rfl rfl (by omega) (by omega) ?_
    have bx4_ : (-2) ≤ S0_.2.2.1 37 (0 + ii_) a1_.toNat ∧ S0_.2.2.1 37 (0 + ii_) a1_.toNat ≤ 161 := hI_.2 37 (0 + ii_) _
    refine sm_T_go 1 (c1 := (28, [some (.inr (.inr (some (2, ii_)))), some (.inl a1_)], [.inl (S0_.2.2.1 37 (0 + ii_) a1_.toNat)], S0_)) rfl ?_
    refine sm_T_ri rfl ⟨_, _, rfl, rfl, _, rfl, ?_⟩
    omega
