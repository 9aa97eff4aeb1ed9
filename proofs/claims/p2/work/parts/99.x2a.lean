/-! the class reader: stacks; written by wip/p55/gen/vg -/
/-! Reader.push -/
def vw_137 : sx_Wl := ([(7, 14)], [82, 83], [])
def vq_137 (k_ : Int) (md_ : Bool) (o_ : List (Int × Nat)) (g_ : List Int) (c_ : List Int) (b_ : Nat → Int) (n_ : Nat) (p_ : Nat) (S0_ : sm_S) (u_ : Option sm_V) (S1_ : sm_S) : Prop := u_ = none ∧ gi S1_ ∧ ai_fr (sx_W vw_137) S0_ S1_ ∧ (xs md_ ((k_, p_) :: o_) g_ c_ S1_)
theorem vc_137 {sc_ : Nat × (Nat → Int)} (k_ : Int) (md_ : Bool) (o_ : List (Int × Nat)) (g_ : List Int) (c_ : List Int) (b_ : Nat → Int) (n_ : Nat) (p_ : Nat) (S0_ : sm_S) (hI_ : gi S0_) (hx_ : xs md_ o_ g_ c_ S0_) (hc_ : ct b_ n_ p_ S0_) (hk_ : -4 ≤ k_ ∧ k_ ≤ 5) (ho_ : o_.length ≤ 487) : sm_T (mt_P sc_) 0 137 (0, [some (.inr (.inr (some (7, 0)))), some (.inl k_)], [], S0_) (fun r_ => ∃ u_ S1_, r_ = (.inl u_, S1_, 0) ∧ vq_137 k_ md_ o_ g_ c_ b_ n_ p_ S0_ u_ S1_) := by
  have hF_ : ai_fr (sx_W vw_137) S0_ S0_ := ai_fr_rf
  obtain ⟨x1_, x2_, x3_, x4_, x5_, x6_, x7_⟩ := id hx_
  have e3_ := hc_.2.2.2.2.2.1
  have hn1_ := hc_.2.2.1
  have hp1_ := hc_.2.2.2.1
  have hl_ : (S0_.1 7 0 14).toNat = (o_.map fun x_ => x_.1).length := by rw [List.length_map]; omega
  have hl2_ : (S0_.1 7 0 14).toNat = (o_.map fun x_ => (x_.2 : Int)).length := by rw [List.length_map]; omega
  have b1_ : 0 ≤ S0_.1 7 0 14 ∧ S0_.1 7 0 14 ≤ 488 := hI_.1 7 0 14 rfl
  refine sm_T_go 5 (c1 := (9, [some (.inr (.inr (some (7, 0)))), some (.inl k_)], [.inl 488, .inl (S0_.1 7 0 14)], S0_)) rfl ?_
  refine sm_T_br (a := 3) (z := 39) rfl (fun c2_ => ?_) (fun c2_ => ?_)
  · have c2_ : 488 ≤ (S0_.1 7 0 14) := of_decide_eq_true c2_
    exfalso; omega
  · have c2_ : ¬ (488 ≤ (S0_.1 7 0 14)) := of_decide_eq_false c2_
    refine sm_T_go 5 (c1 := (21, [some (.inr (.inr (some (7, 0)))), some (.inl k_)], [.inl k_, .inl (S0_.1 7 0 14), .inr (.inr (some (82, 0)))], S0_)) rfl ?_
    refine sm_T_iast (n := 488) rfl rfl (by omega) (by omega) ?_
    have hI3_ : gi (sm_aI S0_ 82 0 (S0_.1 7 0 14).toNat k_) := gi_aI hI_ (show (-4) ≤ k_ ∧ k_ ≤ 5 from ⟨by omega, by omega⟩)
    have hF4_ : ai_fr (sx_W vw_137) S0_ (sm_aI S0_ 82 0 (S0_.1 7 0 14).toNat k_) := ai_fr_tr hF_ (ai_fr_aI rfl)
    have b5_ : 0 ≤ S0_.1 10 0 3 ∧ S0_.1 10 0 3 ≤ 1280 := hI_.1 10 0 3 rfl
    refine sm_T_go 7 (c1 := (37, [some (.inr (.inr (some (7, 0)))), some (.inl k_)], [.inl (S0_.1 10 0 3), .inl (S0_.1 7 0 14), .inr (.inr (some (83, 0)))], sm_aI S0_ 82 0 (S0_.1 7 0 14).toNat k_)) rfl ?_
    refine sm_T_iast (n := 488) rfl rfl (by omega) (by omega) ?_
    have hI6_ : gi (sm_aI (sm_aI S0_ 82 0 (S0_.1 7 0 14).toNat k_) 83 0 (S0_.1 7 0 14).toNat (S0_.1 10 0 3)) := gi_aI hI3_ (show 0 ≤ (S0_.1 10 0 3) ∧ (S0_.1 10 0 3) ≤ 1280 from ⟨by omega, by omega⟩)
    have hF7_ : ai_fr (sx_W vw_137) S0_ (sm_aI (sm_aI S0_ 82 0 (S0_.1 7 0 14).toNat k_) 83 0 (S0_.1 7 0 14).toNat (S0_.1 10 0 3)) := ai_fr_tr hF4_ (ai_fr_aI rfl)
    refine sm_T_go 4 (c1 := (44, [some (.inr (.inr (some (7, 0)))), some (.inl k_)], [.inl 1, .inl (S0_.1 7 0 14), .inr (.inr (some (7, 0)))], sm_aI (sm_aI S0_ 82 0 (S0_.1 7 0 14).toNat k_) 83 0 (S0_.1 7 0 14).toNat (S0_.1 10 0 3))) rfl ?_
    refine sm_T_bin (w := (S0_.1 7 0 14) + 1) rfl (bi_add (by omega) (by omega) (by omega)) ?_
    have hI8_ : gi (sm_pI (sm_aI (sm_aI S0_ 82 0 (S0_.1 7 0 14).toNat k_) 83 0 (S0_.1 7 0 14).toNat (S0_.1 10 0 3)) 7 0 14 ((S0_.1 7 0 14) + 1)) := gi_pI hI6_ (show 0 ≤ (S0_.1 7 0 14) + 1 ∧ (S0_.1 7 0 14) + 1 ≤ 488 from ⟨by omega, by omega⟩)
    have hF9_ : ai_fr (sx_W vw_137) S0_ (sm_pI (sm_aI (sm_aI S0_ 82 0 (S0_.1 7 0 14).toNat k_) 83 0 (S0_.1 7 0 14).toNat (S0_.1 10 0 3)) 7 0 14 ((S0_.1 7 0 14) + 1)) := ai_fr_tr hF7_ (ai_fr_pI rfl)
    refine sm_T_go 1 (c1 := (48, [some (.inr (.inr (some (7, 0)))), some (.inl k_)], [], sm_pI (sm_aI (sm_aI S0_ 82 0 (S0_.1 7 0 14).toNat k_) 83 0 (S0_.1 7 0 14).toNat (S0_.1 10 0 3)) 7 0 14 ((S0_.1 7 0 14) + 1))) rfl ?_
    refine sm_T_rv rfl ⟨_, _, rfl, rfl, hI8_, hF9_, ?_⟩
    refine ⟨?_, x2_, ?_, ?_, ?_, x6_, fun z_ => ⟨(x7_ z_).1, ?_⟩⟩
    · (try simp only [rd_eq, rd_ne, rf_eq, rf_nk, rf_nt, rd_fa, rd_af, rd_fl, rd_al, rd_lf, rd_la, rd_leq, rd_lne, rd_fr, rd_ar, ne_eq, Nat.reduceEqDiff, not_false_eq_true]); simp only [List.length_cons]; push_cast; omega
    · exact stk_ot (stk_pu hl_ rfl x3_) (by decide)
    · exact stk_pu (S_ := sm_aI S0_ 82 0 (S0_.1 7 0 14).toNat k_) hl2_ e3_ (stk_ot x4_ (by decide))
    · exact stk_ot (stk_ot x5_ (by decide)) (by decide)
    · exact stk_ot (stk_ot (x7_ z_).2 (by decide)) (by decide)
