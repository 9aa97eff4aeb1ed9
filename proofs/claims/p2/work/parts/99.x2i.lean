/-! Reader.turnToColon -/
def vw_150 : sx_Wl := ([(10, 6), (10, 7)], [82], [])
def vq_150 (md_ : Bool) (o_ : List (Int × Nat)) (g_ : List Int) (c_ : List Int) (t_ : Nat) (b_ : Nat → Int) (n_ : Nat) (p_ : Nat) (S0_ : sm_S) (u_ : Option sm_V) (S1_ : sm_S) : Prop := u_ = none ∧ gi S1_ ∧ ai_fr (sx_W vw_150) S0_ S1_ ∧ (lx_kd b_ n_ p_ = 58 ∧ xs md_ ((-4, t_) :: o_) g_ c_ S1_)
def vx_150 (md_ : Bool) (o_ : List (Int × Nat)) (g_ : List Int) (c_ : List Int) (t_ : Nat) (b_ : Nat → Int) (n_ : Nat) (p_ : Nat) (S0_ : sm_S) (S1_ : sm_S) : Prop := gi S1_ ∧ ai_fr (sx_W vw_150) S0_ S1_ ∧ (lx_kd b_ n_ p_ ≠ 58 ∧ ter S1_ (2, p_))
theorem vc_150 {sc_ : Nat × (Nat → Int)} (md_ : Bool) (o_ : List (Int × Nat)) (g_ : List Int) (c_ : List Int) (t_ : Nat) (b_ : Nat → Int) (n_ : Nat) (p_ : Nat) (S0_ : sm_S) (hI_ : gi S0_) (hx_ : xs md_ ((-3, t_) :: o_) g_ c_ S0_) (hc_ : ct b_ n_ p_ S0_) (ho_ : o_.length ≤ 487) : sm_T (mt_P sc_) 1 150 (0, [some (.inr (.inr (some (7, 0))))], [], S0_) (fun r_ => (∃ u_ S1_, r_ = (.inl u_, S1_, 0) ∧ vq_150 md_ o_ g_ c_ t_ b_ n_ p_ S0_ u_ S1_) ∨ ∃ S1_, r_ = (.inr 2, S1_, 1) ∧ vx_150 md_ o_ g_ c_ t_ b_ n_ p_ S0_ S1_) := by
  have hF_ : ai_fr (sx_W vw_150) S0_ S0_ := ai_fr_rf
  obtain ⟨x1_, x2_, x3_, x4_, x5_, x6_, x7_⟩ := id hx_
  have x8_ : S0_.1 7 0 14 = (o_.length : Int) + 1 := by rw [x1_]; simp
  have hl_ : (S0_.1 7 0 14 - 1).toNat = (o_.map fun x_ => x_.1).length := by rw [List.length_map]; omega
  have e3_ := hc_.2.2.2.2.2.1
  have e2_ := hc_.2.2.2.2.2.2.2.1
  have hn1_ := hc_.2.2.1
  have hp1_ := hc_.2.2.2.1
  have b1_ : (-128) ≤ S0_.1 10 0 2 ∧ S0_.1 10 0 2 ≤ 257 := hI_.1 10 0 2 rfl
  refine sm_T_go 4 (c1 := (9, [some (.inr (.inr (some (7, 0))))], [.inl 58, .inl (S0_.1 10 0 2)], S0_)) rfl ?_
  refine sm_T_br (a := 0) (z := 18) rfl (fun c2_ => ?_) (fun c2_ => ?_)
  · have c2_ : (S0_.1 10 0 2) = 58 := of_decide_eq_true c2_
    have b3_ : 0 ≤ S0_.1 7 0 14 ∧ S0_.1 7 0 14 ≤ 488 := hI_.1 7 0 14 rfl
    refine sm_T_go 5 (c1 := (36, [some (.inr (.inr (some (7, 0))))], [.inl 1, .inl (S0_.1 7 0 14), .inr (.inr (some (82, 0)))], S0_)) rfl ?_
    refine sm_T_bin (w := (S0_.1 7 0 14) - 1) rfl (bi_sub (by omega) (by omega) (by omega)) ?_
    refine sm_T_go 1 (c1 := (39, [some (.inr (.inr (some (7, 0))))], [.inl (-4), .inl ((S0_.1 7 0 14) - 1), .inr (.inr (some (82, 0)))], S0_)) rfl ?_
    refine sm_T_iast (n := 488) rfl rfl (by omega) (by omega) ?_
    have hI4_ : gi (sm_aI S0_ 82 0 ((S0_.1 7 0 14) - 1).toNat (-4)) := gi_aI hI_ (show (-4) ≤ (-4) ∧ (-4) ≤ 5 from ⟨by omega, by omega⟩)
    have hF5_ : ai_fr (sx_W vw_150) S0_ (sm_aI S0_ 82 0 ((S0_.1 7 0 14) - 1).toNat (-4)) := ai_fr_tr hF_ (ai_fr_aI rfl)
    refine sm_T_rv rfl (Or.inl ⟨_, _, rfl, rfl, hI4_, hF5_, ?_⟩)
    refine ⟨by omega, x1_, x2_, ?_, ?_, ?_, x6_, fun z_ => ⟨(x7_ z_).1, ?_⟩⟩
    · exact stk_pu hl_ rfl x3_.2
    · exact stk_ot x4_ (by decide)
    · exact stk_ot x5_ (by decide)
    · exact stk_ot (x7_ z_).2 (by decide)
  · have c2_ : ¬ ((S0_.1 10 0 2) = 58) := of_decide_eq_false c2_
    have b6_ : 0 ≤ S0_.1 10 0 3 ∧ S0_.1 10 0 3 ≤ 1280 := hI_.1 10 0 3 rfl
    refine sm_T_go 6 (c1 := (24, [some (.inr (.inr (some (7, 0))))], [.inl (S0_.1 10 0 3), .inl 2, .inr (.inr (some (10, 0)))], S0_)) rfl ?_
    refine sm_T_calx (d1 := 0) (Q1 := vq_187 2 (S0_.1 10 0 3) S0_) (Q2 := vx_187 2 (S0_.1 10 0 3) S0_) rfl rfl (by decide) (vc_187 2 (S0_.1 10 0 3) S0_ hI_ (by decide) (by omega)) rfl (fun S7_ p10_ => ?_) (fun u_ S7_ p10_ => ?_)
    · obtain ⟨hI8_, hF9_, p10_⟩ := p10_
      refine Or.inr ⟨_, rfl, hI8_, ai_fr_tr hF_ (fr_le hF9_ rfl), ?_⟩
      exact ⟨by omega, p10_.1, p10_.2.trans e3_⟩
    · exact (p10_.2.2.2).elim
