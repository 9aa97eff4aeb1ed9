/-! Reader.needCondition -/
def vw_149 : sx_Wl := ([(10, 6), (10, 7)], [], [])
def vq_149 (md_ : Bool) (o_ : List (Int × Nat)) (g_ : List Int) (c_ : List Int) (z_ : Int) (b_ : Nat → Int) (n_ : Nat) (p_ : Nat) (S0_ : sm_S) (u_ : Option sm_V) (S1_ : sm_S) : Prop := u_ = none ∧ gi S1_ ∧ ai_fr (sx_W vw_149) S0_ S1_ ∧ (z_ = 1)
def vx_149 (md_ : Bool) (o_ : List (Int × Nat)) (g_ : List Int) (c_ : List Int) (z_ : Int) (b_ : Nat → Int) (n_ : Nat) (p_ : Nat) (S0_ : sm_S) (S1_ : sm_S) : Prop := gi S1_ ∧ ai_fr (sx_W vw_149) S0_ S1_ ∧ (z_ ≠ 1 ∧ ter S1_ (13, p_))
theorem vc_149 {sc_ : Nat × (Nat → Int)} (md_ : Bool) (o_ : List (Int × Nat)) (g_ : List Int) (c_ : List Int) (z_ : Int) (b_ : Nat → Int) (n_ : Nat) (p_ : Nat) (S0_ : sm_S) (hI_ : gi S0_) (hx_ : xs md_ o_ (z_ :: g_) c_ S0_) (hc_ : ct b_ n_ p_ S0_) (ho_ : g_.length ≤ 487) : sm_T (mt_P sc_) 1 149 (0, [some (.inr (.inr (some (7, 0))))], [], S0_) (fun r_ => (∃ u_ S1_, r_ = (.inl u_, S1_, 0) ∧ vq_149 md_ o_ g_ c_ z_ b_ n_ p_ S0_ u_ S1_) ∨ ∃ S1_, r_ = (.inr 2, S1_, 1) ∧ vx_149 md_ o_ g_ c_ z_ b_ n_ p_ S0_ S1_) := by
  have hF_ : ai_fr (sx_W vw_149) S0_ S0_ := ai_fr_rf
  obtain ⟨x1_, x2_, x3_, x4_, x5_, x6_, x7_⟩ := id hx_
  have x8_ : S0_.1 7 0 16 = (g_.length : Int) + 1 := by rw [x2_]; simp
  have hl_ : (S0_.1 7 0 16 - 1).toNat = g_.length := by omega
  have x9_ : S0_.2.2.1 84 0 (S0_.1 7 0 16 - 1).toNat = z_ := by rw [hl_]; exact x5_.1
  have e3_ := hc_.2.2.2.2.2.1
  have hn1_ := hc_.2.2.1
  have hp1_ := hc_.2.2.2.1
  have b1_ : 0 ≤ S0_.1 7 0 16 ∧ S0_.1 7 0 16 ≤ 488 := hI_.1 7 0 16 rfl
  refine sm_T_go 5 (c1 := (9, [some (.inr (.inr (some (7, 0))))], [.inl 1, .inl (S0_.1 7 0 16), .inr (.inr (some (84, 0)))], S0_)) rfl ?_
  refine sm_T_bin (w := (S0_.1 7 0 16) - 1) rfl (bi_sub (by omega) (by omega) (by omega)) ?_
  refine sm_T_iald (n := 488) rfl rfl (by omega) (by omega) ?_
  have b2_ : 0 ≤ S0_.2.2.1 84 0 ((S0_.1 7 0 16) - 1).toNat ∧ S0_.2.2.1 84 0 ((S0_.1 7 0 16) - 1).toNat ≤ 255 := hI_.2 84 0 _
  refine sm_T_go 1 (c1 := (12, [some (.inr (.inr (some (7, 0))))], [.inl 1, .inl (S0_.2.2.1 84 0 ((S0_.1 7 0 16) - 1).toNat)], S0_)) rfl ?_
  refine sm_T_br (a := 0) (z := 19) rfl (fun c3_ => ?_) (fun c3_ => ?_)
  · have c3_ : (S0_.2.2.1 84 0 ((S0_.1 7 0 16) - 1).toNat) = 1 := of_decide_eq_true c3_
    refine sm_T_rv rfl (Or.inl ⟨_, _, rfl, rfl, hI_, hF_, ?_⟩)
    omega
  · have c3_ : ¬ ((S0_.2.2.1 84 0 ((S0_.1 7 0 16) - 1).toNat) = 1) := of_decide_eq_false c3_
    have b4_ : 0 ≤ S0_.1 10 0 3 ∧ S0_.1 10 0 3 ≤ 1280 := hI_.1 10 0 3 rfl
    refine sm_T_go 6 (c1 := (28, [some (.inr (.inr (some (7, 0))))], [.inl (S0_.1 10 0 3), .inl 13, .inr (.inr (some (10, 0)))], S0_)) rfl ?_
    refine sm_T_calx (d1 := 0) (Q1 := vq_187 13 (S0_.1 10 0 3) S0_) (Q2 := vx_187 13 (S0_.1 10 0 3) S0_) rfl rfl (by decide) (vc_187 13 (S0_.1 10 0 3) S0_ hI_ (by decide) (by omega)) rfl (fun S5_ p8_ => ?_) (fun u_ S5_ p8_ => ?_)
    · obtain ⟨hI6_, hF7_, p8_⟩ := p8_
      refine Or.inr ⟨_, rfl, hI6_, ai_fr_tr hF_ (fr_le hF7_ rfl), ?_⟩
      exact ⟨by omega, p8_.1, p8_.2.trans e3_⟩
    · exact (p8_.2.2.2).elim
