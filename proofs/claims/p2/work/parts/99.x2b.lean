/-! Reader.hold -/
def vw_138 : sx_Wl := ([(7, 16)], [84], [])
def vq_138 (k_ : Int) (md_ : Bool) (o_ : List (Int × Nat)) (g_ : List Int) (c_ : List Int) (S0_ : sm_S) (u_ : Option sm_V) (S1_ : sm_S) : Prop := u_ = none ∧ gi S1_ ∧ ai_fr (sx_W vw_138) S0_ S1_ ∧ (xs md_ o_ (k_ :: g_) c_ S1_)
theorem vc_138 {sc_ : Nat × (Nat → Int)} (k_ : Int) (md_ : Bool) (o_ : List (Int × Nat)) (g_ : List Int) (c_ : List Int) (S0_ : sm_S) (hI_ : gi S0_) (hx_ : xs md_ o_ g_ c_ S0_) (hk_ : 0 ≤ k_ ∧ k_ ≤ 255) (ho_ : g_.length ≤ 487) : sm_T (mt_P sc_) 0 138 (0, [some (.inr (.inr (some (7, 0)))), some (.inl k_)], [], S0_) (fun r_ => ∃ u_ S1_, r_ = (.inl u_, S1_, 0) ∧ vq_138 k_ md_ o_ g_ c_ S0_ u_ S1_) := by
  have hF_ : ai_fr (sx_W vw_138) S0_ S0_ := ai_fr_rf
  obtain ⟨x1_, x2_, x3_, x4_, x5_, x6_, x7_⟩ := id hx_
  have hl_ : (S0_.1 7 0 16).toNat = g_.length := by omega
  have b1_ : 0 ≤ S0_.1 7 0 16 ∧ S0_.1 7 0 16 ≤ 488 := hI_.1 7 0 16 rfl
  refine sm_T_go 5 (c1 := (9, [some (.inr (.inr (some (7, 0)))), some (.inl k_)], [.inl 488, .inl (S0_.1 7 0 16)], S0_)) rfl ?_
  refine sm_T_br (a := 3) (z := 23) rfl (fun c2_ => ?_) (fun c2_ => ?_)
  · have c2_ : 488 ≤ (S0_.1 7 0 16) := of_decide_eq_true c2_
    exfalso; omega
  · have c2_ : ¬ (488 ≤ (S0_.1 7 0 16)) := of_decide_eq_false c2_
    refine sm_T_go 5 (c1 := (21, [some (.inr (.inr (some (7, 0)))), some (.inl k_)], [.inl k_, .inl (S0_.1 7 0 16), .inr (.inr (some (84, 0)))], S0_)) rfl ?_
    refine sm_T_iast (n := 488) rfl rfl (by omega) (by omega) ?_
    have hI3_ : gi (sm_aI S0_ 84 0 (S0_.1 7 0 16).toNat k_) := gi_aI hI_ (show 0 ≤ k_ ∧ k_ ≤ 255 from ⟨by omega, by omega⟩)
    have hF4_ : ai_fr (sx_W vw_138) S0_ (sm_aI S0_ 84 0 (S0_.1 7 0 16).toNat k_) := ai_fr_tr hF_ (ai_fr_aI rfl)
    refine sm_T_go 4 (c1 := (28, [some (.inr (.inr (some (7, 0)))), some (.inl k_)], [.inl 1, .inl (S0_.1 7 0 16), .inr (.inr (some (7, 0)))], sm_aI S0_ 84 0 (S0_.1 7 0 16).toNat k_)) rfl ?_
    refine sm_T_bin (w := (S0_.1 7 0 16) + 1) rfl (bi_add (by omega) (by omega) (by omega)) ?_
    have hI5_ : gi (sm_pI (sm_aI S0_ 84 0 (S0_.1 7 0 16).toNat k_) 7 0 16 ((S0_.1 7 0 16) + 1)) := gi_pI hI3_ (show 0 ≤ (S0_.1 7 0 16) + 1 ∧ (S0_.1 7 0 16) + 1 ≤ 488 from ⟨by omega, by omega⟩)
    have hF6_ : ai_fr (sx_W vw_138) S0_ (sm_pI (sm_aI S0_ 84 0 (S0_.1 7 0 16).toNat k_) 7 0 16 ((S0_.1 7 0 16) + 1)) := ai_fr_tr hF4_ (ai_fr_pI rfl)
    refine sm_T_go 1 (c1 := (32, [some (.inr (.inr (some (7, 0)))), some (.inl k_)], [], sm_pI (sm_aI S0_ 84 0 (S0_.1 7 0 16).toNat k_) 7 0 16 ((S0_.1 7 0 16) + 1))) rfl ?_
    refine sm_T_rv rfl ⟨_, _, rfl, rfl, hI5_, hF6_, ?_⟩
    refine ⟨x1_, ?_, ?_, ?_, ?_, x6_, fun z_ => ⟨(x7_ z_).1, ?_⟩⟩
    · (try simp only [rd_eq, rd_ne, rf_eq, rf_nk, rf_nt, rd_fa, rd_af, rd_fl, rd_al, rd_lf, rd_la, rd_leq, rd_lne, rd_fr, rd_ar, ne_eq, Nat.reduceEqDiff, not_false_eq_true]); simp only [List.length_cons]; push_cast; omega
    · exact stk_ot x3_ (by decide)
    · exact stk_ot x4_ (by decide)
    · exact stk_pu hl_ rfl x5_
    · exact stk_ot (x7_ z_).2 (by decide)
