/-! Reader.closeParen -/
def vw_151 : sx_Wl := ([(7, 14), (7, 17), (10, 6), (10, 7)], [], [])
def vq_151 (md_ : Bool) (o_ : List (Int × Nat)) (g_ : List Int) (c_ : List Int) (k_ : Int) (t_ : Nat) (b_ : Nat → Int) (n_ : Nat) (p_ : Nat) (S0_ : sm_S) (u_ : Option sm_V) (S1_ : sm_S) : Prop := u_ = none ∧ gi S1_ ∧ ai_fr (sx_W vw_151) S0_ S1_ ∧ (lx_kd b_ n_ p_ = 41 ∧ xs md_ o_ g_ c_ S1_ ∧ (S1_.1 7 0 17) = (S0_.1 7 0 17) - 1)
def vx_151 (md_ : Bool) (o_ : List (Int × Nat)) (g_ : List Int) (c_ : List Int) (k_ : Int) (t_ : Nat) (b_ : Nat → Int) (n_ : Nat) (p_ : Nat) (S0_ : sm_S) (S1_ : sm_S) : Prop := gi S1_ ∧ ai_fr (sx_W vw_151) S0_ S1_ ∧ (lx_kd b_ n_ p_ ≠ 41 ∧ ter S1_ (2, p_))
theorem vc_151 {sc_ : Nat × (Nat → Int)} (md_ : Bool) (o_ : List (Int × Nat)) (g_ : List Int) (c_ : List Int) (k_ : Int) (t_ : Nat) (b_ : Nat → Int) (n_ : Nat) (p_ : Nat) (S0_ : sm_S) (hI_ : gi S0_) (hx_ : xs md_ ((k_, t_) :: o_) g_ c_ S0_) (hc_ : ct b_ n_ p_ S0_) (ho_ : 1 ≤ (S0_.1 7 0 17)) : sm_T (mt_P sc_) 1 151 (0, [some (.inr (.inr (some (7, 0))))], [], S0_) (fun r_ => (∃ u_ S1_, r_ = (.inl u_, S1_, 0) ∧ vq_151 md_ o_ g_ c_ k_ t_ b_ n_ p_ S0_ u_ S1_) ∨ ∃ S1_, r_ = (.inr 2, S1_, 1) ∧ vx_151 md_ o_ g_ c_ k_ t_ b_ n_ p_ S0_ S1_) := by
  have hF_ : ai_fr (sx_W vw_151) S0_ S0_ := ai_fr_rf
  obtain ⟨x1_, x2_, x3_, x4_, x5_, x6_, x7_⟩ := id hx_
  have x8_ : S0_.1 7 0 14 = (o_.length : Int) + 1 := by rw [x1_]; simp
  have e3_ := hc_.2.2.2.2.2.1
  have e2_ := hc_.2.2.2.2.2.2.2.1
  have hn1_ := hc_.2.2.1
  have hp1_ := hc_.2.2.2.1
  have b1_ : (-128) ≤ S0_.1 10 0 2 ∧ S0_.1 10 0 2 ≤ 257 := hI_.1 10 0 2 rfl
  refine sm_T_go 4 (c1 := (9, [some (.inr (.inr (some (7, 0))))], [.inl 41, .inl (S0_.1 10 0 2)], S0_)) rfl ?_
  refine sm_T_br (a := 0) (z := 18) rfl (fun c2_ => ?_) (fun c2_ => ?_)
  · have c2_ : (S0_.1 10 0 2) = 41 := of_decide_eq_true c2_
    have b3_ : 0 ≤ S0_.1 7 0 14 ∧ S0_.1 7 0 14 ≤ 488 := hI_.1 7 0 14 rfl
    refine sm_T_go 4 (c1 := (33, [some (.inr (.inr (some (7, 0))))], [.inl 1, .inl (S0_.1 7 0 14), .inr (.inr (some (7, 0)))], S0_)) rfl ?_
    refine sm_T_bin (w := (S0_.1 7 0 14) - 1) rfl (bi_sub (by omega) (by omega) (by omega)) ?_
    have hI4_ : gi (sm_pI S0_ 7 0 14 ((S0_.1 7 0 14) - 1)) := gi_pI hI_ (show 0 ≤ (S0_.1 7 0 14) - 1 ∧ (S0_.1 7 0 14) - 1 ≤ 488 from ⟨by omega, by omega⟩)
    have hF5_ : ai_fr (sx_W vw_151) S0_ (sm_pI S0_ 7 0 14 ((S0_.1 7 0 14) - 1)) := ai_fr_tr hF_ (ai_fr_pI rfl)
    have b6_ : 0 ≤ S0_.1 7 0 17 ∧ S0_.1 7 0 17 ≤ 60 := hI_.1 7 0 17 rfl
    refine sm_T_go 5 (c1 := (43, [some (.inr (.inr (some (7, 0))))], [.inl 1, .inl (S0_.1 7 0 17), .inr (.inr (some (7, 0)))], sm_pI S0_ 7 0 14 ((S0_.1 7 0 14) - 1))) rfl ?_
    refine sm_T_bin (w := (S0_.1 7 0 17) - 1) rfl (bi_sub (by omega) (by omega) (by omega)) ?_
    have hI7_ : gi (sm_pI (sm_pI S0_ 7 0 14 ((S0_.1 7 0 14) - 1)) 7 0 17 ((S0_.1 7 0 17) - 1)) := gi_pI hI4_ (show 0 ≤ (S0_.1 7 0 17) - 1 ∧ (S0_.1 7 0 17) - 1 ≤ 60 from ⟨by omega, by omega⟩)
    have hF8_ : ai_fr (sx_W vw_151) S0_ (sm_pI (sm_pI S0_ 7 0 14 ((S0_.1 7 0 14) - 1)) 7 0 17 ((S0_.1 7 0 17) - 1)) := ai_fr_tr hF5_ (ai_fr_pI rfl)
    refine sm_T_go 1 (c1 := (47, [some (.inr (.inr (some (7, 0))))], [], sm_pI (sm_pI S0_ 7 0 14 ((S0_.1 7 0 14) - 1)) 7 0 17 ((S0_.1 7 0 17) - 1))) rfl ?_
    refine sm_T_rv rfl (Or.inl ⟨_, _, rfl, rfl, hI7_, hF8_, ?_⟩)
    refine ⟨by omega, ⟨?_, x2_, x3_.2, x4_.2, x5_, x6_, x7_⟩, ?_⟩
    · (try simp only [rd_eq, rd_ne, rf_eq, rf_nk, rf_nt, rd_fa, rd_af, rd_fl, rd_al, rd_lf, rd_la, rd_leq, rd_lne, rd_fr, rd_ar, ne_eq, Nat.reduceEqDiff, not_false_eq_true]); omega
    · (try simp only [rd_eq, rd_ne, rf_eq, rf_nk, rf_nt, rd_fa, rd_af, rd_fl, rd_al, rd_lf, rd_la, rd_leq, rd_lne, rd_fr, rd_ar, ne_eq, Nat.reduceEqDiff, not_false_eq_true])
  · have c2_ : ¬ ((S0_.1 10 0 2) = 41) := of_decide_eq_false c2_
    have b9_ : 0 ≤ S0_.1 10 0 3 ∧ S0_.1 10 0 3 ≤ 1280 := hI_.1 10 0 3 rfl
    refine sm_T_go 6 (c1 := (24, [some (.inr (.inr (some (7, 0))))], [.inl (S0_.1 10 0 3), .inl 2, .inr (.inr (some (10, 0)))], S0_)) rfl ?_
    refine sm_T_calx (d1 := 0) (Q1 := vq_187 2 (S0_.1 10 0 3) S0_) (Q2 := vx_187 2 (S0_.1 10 0 3) S0_) rfl rfl (by decide) (vc_187 2 (S0_.1 10 0 3) S0_ hI_ (by decide) (by omega)) rfl (fun S10_ p13_ => ?_) (fun u_ S10_ p13_ => ?_)
    · obtain ⟨hI11_, hF12_, p13_⟩ := p13_
      refine Or.inr ⟨_, rfl, hI11_, ai_fr_tr hF_ (fr_le hF12_ rfl), ?_⟩
      exact ⟨by omega, p13_.1, p13_.2.trans e3_⟩
    · exact (p13_.2.2.2).elim
