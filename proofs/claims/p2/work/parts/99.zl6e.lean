/-! Tester.oneInput -/
def vw_170 : sx_Wl := ([], [], [])
def vq_170 (a0_ : Int) (y1_ : Int) (S0_ : sm_S) (u_ : Option sm_V) (S1_ : sm_S) : Prop := S0_ = S1_ ∧ ∃ v_ : Int, u_ = some (.inr (.inl v_)) ∧ (True)
set_option maxHeartbeats 400000 in
theorem vc_170 {sc_ : Nat × (Nat → Int)} (a0_ : Int) (y1_ : Int) (S0_ : sm_S) (hI_ : gi S0_) (h0_ : -2147483648 ≤ a0_ ∧ a0_ ≤ 2147483647) : sm_T (mt_P sc_) 0 170 (0, [some (.inl a0_), some (.inr (.inl y1_)), none], [], S0_) (fun ro9_ => ∃ u_ S1_, ro9_ = (.inl u_, S1_, 0) ∧ vq_170 a0_ y1_ S0_ u_ S1_) := by
  have hF_ : ai_fr (sx_W vw_170) S0_ S0_ := ai_fr_rf
  refine sm_T_go 2 (c1 := (2, [some (.inl a0_), some (.inr (.inl y1_)), none], [.inl 1, .inl a0_], S0_)) rfl ?_
  refine sm_T_bin (w := (a0_ % 2)) rfl (bi_msk (k := 1) (by decide)) ?_ -- pc_ 2
  refine sm_T_b0 (a := 1) (z := 7) rfl (fun cx1_ => ?_) (fun cx1_ => ?_)
  · have cx1_ : (a0_ % 2) ≠ 0 := of_decide_eq_true cx1_
    refine sm_T_go 1 (c1 := (11, [some (.inl a0_), some (.inr (.inl y1_)), none], [.inr (.inl y1_)], S0_)) rfl ?_
    refine sm_T_nt (u := some (.inr (.inl (-1)))) (S1 := S0_) rfl rfl rfl ?_
    refine sm_T_go 3 (c1 := (17, [some (.inl a0_), some (.inr (.inl y1_)), none], [.inl 2, .inl a0_, .inr (.inl (l_5 y1_ (-1)))], S0_)) rfl ?_
    refine sm_T_bin (w := (i_and a0_ 2)) rfl rfl ?_ -- pc_ 17
    first | have bx2_ := i_and_p (x_ := a0_) (y_ := 2) (by omega) (by omega) | have bx2_ := i_and_y a0_ (y_ := 2) (by omega) | have bx2_ := i_and_x (x_ := a0_) 2 (by omega) | have bx2_ := i_and_n a0_ 2
    refine sm_T_b0 (a := 1) (z := 7) rfl (fun cx3_ => ?_) (fun cx3_ => ?_)
    · have cx3_ : (i_and a0_ 2) ≠ 0 := of_decide_eq_true cx3_
      refine sm_T_go 2 (c1 := (27, [some (.inl a0_), some (.inr (.inl y1_)), none], [.inr (.inl (l_4 ((l_5 y1_ (-1))) y1_))], S0_)) rfl ?_
      refine sm_T_rl rfl ⟨_, _, rfl, rfl, _, rfl, ?_⟩
      trivial
    · have cx3_ : ¬ ((i_and a0_ 2) ≠ 0) := of_decide_eq_false cx3_
      refine sm_T_go 3 (c1 := (27, [some (.inl a0_), some (.inr (.inl y1_)), none], [.inr (.inl (l_4 ((l_5 y1_ (-1))) 0))], S0_)) rfl ?_
      refine sm_T_rl rfl ⟨_, _, rfl, rfl, _, rfl, ?_⟩
      trivial
  · have cx1_ : ¬ ((a0_ % 2) ≠ 0) := of_decide_eq_false cx1_
    refine sm_T_go 4 (c1 := (17, [some (.inl a0_), some (.inr (.inl y1_)), none], [.inl 2, .inl a0_, .inr (.inl 0)], S0_)) rfl ?_
    refine sm_T_bin (w := (i_and a0_ 2)) rfl rfl ?_ -- pc_ 17
    first | have bx4_ := i_and_p (x_ := a0_) (y_ := 2) (by omega) (by omega) | have bx4_ := i_and_y a0_ (y_ := 2) (by omega) | have bx4_ := i_and_x (x_ := a0_) 2 (by omega) | have bx4_ := i_and_n a0_ 2
    refine sm_T_b0 (a := 1) (z := 7) rfl (fun cx5_ => ?_) (fun cx5_ => ?_)
    · have cx5_ : (i_and a0_ 2) ≠ 0 := of_decide_eq_true cx5_
      refine sm_T_go 2 (c1 := (27, [some (.inl a0_), some (.inr (.inl y1_)), none], [.inr (.inl (l_4 0 y1_))], S0_)) rfl ?_
      refine sm_T_rl rfl ⟨_, _, rfl, rfl, _, rfl, ?_⟩
      trivial
    · have cx5_ : ¬ ((i_and a0_ 2) ≠ 0) := of_decide_eq_false cx5_
      refine sm_T_go 3 (c1 := (27, [some (.inl a0_), some (.inr (.inl y1_)), none], [.inr (.inl (l_4 0 0))], S0_)) rfl ?_
      refine sm_T_rl rfl ⟨_, _, rfl, rfl, _, rfl, ?_⟩
      trivial
