/-! Reader.turnHeld -/
def vw_139 : sx_Wl := ([(7, 2)], [74, 84], [])
def vq_139 (md_ : Bool) (o_ : List (Int × Nat)) (g_ : List Int) (c_ : List Int) (z_ : Int) (S0_ : sm_S) (u_ : Option sm_V) (S1_ : sm_S) : Prop := u_ = none ∧ gi S1_ ∧ ai_fr (sx_W vw_139) S0_ S1_ ∧ (xs md_ o_ (p_tn md_ (z_ :: g_) c_).1 (p_tn md_ (z_ :: g_) c_).2 S1_)
theorem vc_139 {sc_ : Nat × (Nat → Int)} (md_ : Bool) (o_ : List (Int × Nat)) (g_ : List Int) (c_ : List Int) (z_ : Int) (S0_ : sm_S) (hI_ : gi S0_) (hx_ : xs md_ o_ (z_ :: g_) c_ S0_) (ho_ : c_.length ≤ 65535) : sm_T (mt_P sc_) 1 139 (0, [some (.inr (.inr (some (7, 0))))], [], S0_) (fun r_ => ∃ u_ S1_, r_ = (.inl u_, S1_, 0) ∧ vq_139 md_ o_ g_ c_ z_ S0_ u_ S1_) := by
  have hF_ : ai_fr (sx_W vw_139) S0_ S0_ := ai_fr_rf
  obtain ⟨x1_, x2_, x3_, x4_, x5_, x6_, x7_⟩ := id hx_
  have x8_ : S0_.1 7 0 16 = (g_.length : Int) + 1 := by rw [x2_]; simp
  have hl_ : (S0_.1 7 0 16 - 1).toNat = g_.length := by omega
  refine sm_T_go 1 (c1 := (1, [some (.inr (.inr (some (7, 0))))], [.inr (.inr (some (7, 0)))], S0_)) rfl ?_
  cases q1_ : S0_.2.1 7 0 11 with
  | none =>
    refine sm_T_gr rfl rfl q1_ ?_
    have hmd_ : md_ = false := xs_n hx_ q1_
    subst hmd_
    refine sm_T_go 5 (c1 := (12, [some (.inr (.inr (some (7, 0))))], [.inl 0, .inl 0, .inl 6, .inr (.inr (some (7, 0)))], S0_)) rfl ?_
    refine sm_T_cal (d1 := 0) (Q1 := vq_140 6 0 0 o_ (z_ :: g_) c_ S0_) rfl rfl (by decide) (vc_140 6 0 0 o_ (z_ :: g_) c_ S0_ hI_ (by exact hx_) (by decide) (by decide) (by decide) (by exact ho_)) (fun u_ S3_ p6_ => ?_)
    obtain ⟨rfl, hI4_, hF5_, p6_⟩ := p6_
    have hF7_ : ai_fr (sx_W vw_139) S0_ S3_ := ai_fr_tr hF_ (fr_le hF5_ rfl)
    have e12_ := p6_
    refine sm_T_go 1 (c1 := (35, [some (.inr (.inr (some (7, 0))))], [], S3_)) rfl ?_
    refine sm_T_rv rfl ⟨_, _, rfl, rfl, hI4_, hF7_, ?_⟩
    first | (rw [cw_0] at e12_; exact e12_) | (refine ⟨x1_, x2_, stk_ot x3_ (by decide), stk_ot x4_ (by decide), stk_pu hl_ (by rw [hl_, x5_.1]) x5_.2, x6_, fun y_ => absurd y_ (by decide)⟩)
  | some j2_ =>
    refine sm_T_gr rfl rfl q1_ ?_
    have hmd_ : md_ = true := xs_s hx_ q1_
    subst hmd_
    have b8_ : 0 ≤ S0_.1 7 0 16 ∧ S0_.1 7 0 16 ≤ 488 := hI_.1 7 0 16 rfl
    refine sm_T_go 6 (c1 := (27, [some (.inr (.inr (some (7, 0))))], [.inl 1, .inl (S0_.1 7 0 16), .inr (.inr (some (84, 0)))], S0_)) rfl ?_
    refine sm_T_bin (w := (S0_.1 7 0 16) - 1) rfl (bi_sub (by omega) (by omega) (by omega)) ?_
    refine sm_T_go 1 (c1 := (29, [some (.inr (.inr (some (7, 0))))], [.inl ((S0_.1 7 0 16) - 1), .inr (.inr (some (84, 0))), .inl ((S0_.1 7 0 16) - 1), .inr (.inr (some (84, 0)))], S0_)) rfl ?_
    refine sm_T_iald (n := 488) rfl rfl (by omega) (by omega) ?_
    have b9_ : 0 ≤ S0_.2.2.1 84 0 ((S0_.1 7 0 16) - 1).toNat ∧ S0_.2.2.1 84 0 ((S0_.1 7 0 16) - 1).toNat ≤ 255 := hI_.2 84 0 _
    refine sm_T_go 1 (c1 := (33, [some (.inr (.inr (some (7, 0))))], [.inl 255, .inl (S0_.2.2.1 84 0 ((S0_.1 7 0 16) - 1).toNat), .inl ((S0_.1 7 0 16) - 1), .inr (.inr (some (84, 0)))], S0_)) rfl ?_
    refine sm_T_bin (w := (i_xor (S0_.2.2.1 84 0 ((S0_.1 7 0 16) - 1).toNat) 255)) rfl rfl ?_
    refine sm_T_iast (n := 488) rfl rfl (by omega) (by omega) ?_
    have hI10_ : gi (sm_aI S0_ 84 0 ((S0_.1 7 0 16) - 1).toNat (i_xor (S0_.2.2.1 84 0 ((S0_.1 7 0 16) - 1).toNat) 255)) := gi_aI hI_ (show 0 ≤ (i_xor (S0_.2.2.1 84 0 ((S0_.1 7 0 16) - 1).toNat) 255) ∧ (i_xor (S0_.2.2.1 84 0 ((S0_.1 7 0 16) - 1).toNat) 255) ≤ 255 from ⟨by first | exact (i_by ⟨by omega, by omega⟩ ⟨by omega, by omega⟩).2.1.1 | exact (i_by ⟨by omega, by omega⟩ ⟨by omega, by omega⟩).2.1.2, by first | exact (i_by ⟨by omega, by omega⟩ ⟨by omega, by omega⟩).2.1.1 | exact (i_by ⟨by omega, by omega⟩ ⟨by omega, by omega⟩).2.1.2⟩)
    have hF11_ : ai_fr (sx_W vw_139) S0_ (sm_aI S0_ 84 0 ((S0_.1 7 0 16) - 1).toNat (i_xor (S0_.2.2.1 84 0 ((S0_.1 7 0 16) - 1).toNat) 255)) := ai_fr_tr hF_ (ai_fr_aI rfl)
    refine sm_T_rv rfl ⟨_, _, rfl, rfl, hI10_, hF11_, ?_⟩
    first | (rw [cw_0] at e12_; exact e12_) | (refine ⟨x1_, x2_, stk_ot x3_ (by decide), stk_ot x4_ (by decide), stk_pu hl_ (by rw [hl_, x5_.1]) x5_.2, x6_, fun y_ => absurd y_ (by decide)⟩)

