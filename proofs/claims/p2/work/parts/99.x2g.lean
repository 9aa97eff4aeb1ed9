/-! Reader.topKind -/
def vw_147 : sx_Wl := ([], [], [])
def vq_147 (md_ : Bool) (o_ : List (Int × Nat)) (g_ : List Int) (c_ : List Int) (S0_ : sm_S) (u_ : Option sm_V) (S1_ : sm_S) : Prop := S0_ = S1_ ∧ ∃ v_ : Int, u_ = some (.inl v_) ∧ (v_ = o_tp o_)
theorem vc_147 {sc_ : Nat × (Nat → Int)} (md_ : Bool) (o_ : List (Int × Nat)) (g_ : List Int) (c_ : List Int) (S0_ : sm_S) (hI_ : gi S0_) (hx_ : xs md_ o_ g_ c_ S0_) : sm_T (mt_P sc_) 0 147 (0, [some (.inr (.inr (some (7, 0))))], [], S0_) (fun r_ => ∃ u_ S1_, r_ = (.inl u_, S1_, 0) ∧ vq_147 md_ o_ g_ c_ S0_ u_ S1_) := by
  have hF_ : ai_fr (sx_W vw_147) S0_ S0_ := ai_fr_rf
  have x1_ := hx_.1
  have hl_ : o_.length ≤ 488 := by have := hI_.1 7 0 14 rfl; have : S0_.1 7 0 14 ≤ 488 := this.2; omega
  have b1_ : 0 ≤ S0_.1 7 0 14 ∧ S0_.1 7 0 14 ≤ 488 := hI_.1 7 0 14 rfl
  refine sm_T_go 2 (c1 := (4, [some (.inr (.inr (some (7, 0))))], [.inl (S0_.1 7 0 14)], S0_)) rfl ?_
  refine sm_T_b0 (a := 5) (z := 17) rfl (fun c2_ => ?_) (fun c2_ => ?_)
  · have c2_ : (S0_.1 7 0 14) ≤ 0 := of_decide_eq_true c2_
    refine sm_T_go 1 (c1 := (22, [some (.inr (.inr (some (7, 0))))], [.inl 0], S0_)) rfl ?_
    refine sm_T_ri rfl ⟨_, _, rfl, rfl, _, rfl, ?_⟩
    first | exact (xs_t0 hx_ (by omega)).symm | exact xs_tp hx_ (by omega)
  · have c2_ : ¬ ((S0_.1 7 0 14) ≤ 0) := of_decide_eq_false c2_
    refine sm_T_go 5 (c1 := (16, [some (.inr (.inr (some (7, 0))))], [.inl 1, .inl (S0_.1 7 0 14), .inr (.inr (some (82, 0)))], S0_)) rfl ?_
    refine sm_T_bin (w := (S0_.1 7 0 14) - 1) rfl (bi_sub (by omega) (by omega) (by omega)) ?_
    refine sm_T_iald (n := 488) rfl rfl (by omega) (by omega) ?_
    have b3_ : (-4) ≤ S0_.2.2.1 82 0 ((S0_.1 7 0 14) - 1).toNat ∧ S0_.2.2.1 82 0 ((S0_.1 7 0 14) - 1).toNat ≤ 5 := hI_.2 82 0 _
    refine sm_T_go 1 (c1 := (22, [some (.inr (.inr (some (7, 0))))], [.inl (S0_.2.2.1 82 0 ((S0_.1 7 0 14) - 1).toNat)], S0_)) rfl ?_
    refine sm_T_ri rfl ⟨_, _, rfl, rfl, _, rfl, ?_⟩
    first | exact (xs_t0 hx_ (by omega)).symm | exact xs_tp hx_ (by omega)
