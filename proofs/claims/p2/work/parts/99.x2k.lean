/-! Reader.finishChoice -/
def vw_152 : sx_Wl := ([(7, 2), (7, 14), (7, 16), (7, 17), (10, 6), (10, 7)], [74, 84], [])
def vq_152 (o_ : List (Int × Nat)) (g_ : List Int) (c_ : List Int) (k_ : Int) (t_ : Nat) (x_ : Int) (y_ : Int) (z_ : Int) (S0_ : sm_S) (u_ : Option sm_V) (S1_ : sm_S) : Prop := u_ = none ∧ gi S1_ ∧ ai_fr (sx_W vw_152) S0_ S1_ ∧ (y_ = x_ ∧ xs false o_ (y_ :: g_) (7 :: c_) S1_ ∧ (S1_.1 7 0 17) = (S0_.1 7 0 17) - 1)
def vx_152 (o_ : List (Int × Nat)) (g_ : List Int) (c_ : List Int) (k_ : Int) (t_ : Nat) (x_ : Int) (y_ : Int) (z_ : Int) (S0_ : sm_S) (S1_ : sm_S) : Prop := gi S1_ ∧ ai_fr (sx_W vw_152) S0_ S1_ ∧ (y_ ≠ x_ ∧ ter S1_ (13, t_))
theorem vc_152 {sc_ : Nat × (Nat → Int)} (o_ : List (Int × Nat)) (g_ : List Int) (c_ : List Int) (k_ : Int) (t_ : Nat) (x_ : Int) (y_ : Int) (z_ : Int) (S0_ : sm_S) (hI_ : gi S0_) (hx_ : xs false ((k_, t_) :: o_) (x_ :: y_ :: z_ :: g_) c_ S0_) (ho_ : 1 ≤ (S0_.1 7 0 17)) (hl0_ : o_.length ≤ 487) (hg0_ : g_.length ≤ 485) (hc_ : c_.length ≤ 65535) (ht_ : t_ ≤ 1280) : sm_T (mt_P sc_) 1 152 (0, [some (.inr (.inr (some (7, 0))))], [], S0_) (fun r_ => (∃ u_ S1_, r_ = (.inl u_, S1_, 0) ∧ vq_152 o_ g_ c_ k_ t_ x_ y_ z_ S0_ u_ S1_) ∨ ∃ S1_, r_ = (.inr 2, S1_, 1) ∧ vx_152 o_ g_ c_ k_ t_ x_ y_ z_ S0_ S1_) := by
  have hF_ : ai_fr (sx_W vw_152) S0_ S0_ := ai_fr_rf
  obtain ⟨x1_, x2_, x3_, x4_, x5_, x6_, x7_⟩ := id hx_
  have x8_ : S0_.1 7 0 14 = (o_.length : Int) + 1 := by rw [x1_]; simp
  have x9_ : S0_.1 7 0 16 = (g_.length : Int) + 3 := by rw [x2_]; simp only [List.length_cons]; push_cast; omega
  have l1_ : (S0_.1 7 0 14 - 1).toNat = (o_.map fun x_ => (x_.2 : Int)).length := by rw [List.length_map]; omega
  have l2_ : (S0_.1 7 0 16 - 2).toNat = (z_ :: g_).length := by simp only [List.length_cons]; omega
  have l3_ : (S0_.1 7 0 16 - 1).toNat = (y_ :: z_ :: g_).length := by simp only [List.length_cons]; omega
  have l4_ : (S0_.1 7 0 16 - 3).toNat = g_.length := by omega
  have e1_ : S0_.2.2.1 83 0 (S0_.1 7 0 14 - 1).toNat = (t_ : Int) := by rw [l1_]; exact x4_.1
  have e2_ : S0_.2.2.1 84 0 (S0_.1 7 0 16 - 2).toNat = y_ := by rw [l2_]; exact x5_.2.1
  have e3_ : S0_.2.2.1 84 0 (S0_.1 7 0 16 - 1).toNat = x_ := by rw [l3_]; exact x5_.1
  have b1_ : 0 ≤ S0_.1 7 0 14 ∧ S0_.1 7 0 14 ≤ 488 := hI_.1 7 0 14 rfl
  refine sm_T_go 4 (c1 := (6, [some (.inr (.inr (some (7, 0))))], [.inl 1, .inl (S0_.1 7 0 14), .inr (.inr (some (7, 0)))], S0_)) rfl ?_
  refine sm_T_bin (w := (S0_.1 7 0 14) - 1) rfl (bi_sub (by omega) (by omega) (by omega)) ?_
  have hI2_ : gi (sm_pI S0_ 7 0 14 ((S0_.1 7 0 14) - 1)) := gi_pI hI_ (show 0 ≤ (S0_.1 7 0 14) - 1 ∧ (S0_.1 7 0 14) - 1 ≤ 488 from ⟨by omega, by omega⟩)
  have hF3_ : ai_fr (sx_W vw_152) S0_ (sm_pI S0_ 7 0 14 ((S0_.1 7 0 14) - 1)) := ai_fr_tr hF_ (ai_fr_pI rfl)
  have b4_ : 0 ≤ S0_.1 7 0 17 ∧ S0_.1 7 0 17 ≤ 60 := hI_.1 7 0 17 rfl
  refine sm_T_go 5 (c1 := (16, [some (.inr (.inr (some (7, 0))))], [.inl 1, .inl (S0_.1 7 0 17), .inr (.inr (some (7, 0)))], sm_pI S0_ 7 0 14 ((S0_.1 7 0 14) - 1))) rfl ?_
  refine sm_T_bin (w := (S0_.1 7 0 17) - 1) rfl (bi_sub (by omega) (by omega) (by omega)) ?_
  have hI5_ : gi (sm_pI (sm_pI S0_ 7 0 14 ((S0_.1 7 0 14) - 1)) 7 0 17 ((S0_.1 7 0 17) - 1)) := gi_pI hI2_ (show 0 ≤ (S0_.1 7 0 17) - 1 ∧ (S0_.1 7 0 17) - 1 ≤ 60 from ⟨by omega, by omega⟩)
  have hF6_ : ai_fr (sx_W vw_152) S0_ (sm_pI (sm_pI S0_ 7 0 14 ((S0_.1 7 0 14) - 1)) 7 0 17 ((S0_.1 7 0 17) - 1)) := ai_fr_tr hF3_ (ai_fr_pI rfl)
  have b7_ : 0 ≤ S0_.1 7 0 16 ∧ S0_.1 7 0 16 ≤ 488 := hI_.1 7 0 16 rfl
  refine sm_T_go 5 (c1 := (26, [some (.inr (.inr (some (7, 0))))], [.inl 2, .inl (S0_.1 7 0 16), .inr (.inr (some (7, 0)))], sm_pI (sm_pI S0_ 7 0 14 ((S0_.1 7 0 14) - 1)) 7 0 17 ((S0_.1 7 0 17) - 1))) rfl ?_
  refine sm_T_bin (w := (S0_.1 7 0 16) - 2) rfl (bi_sub (by omega) (by omega) (by omega)) ?_
  have hI8_ : gi (sm_pI (sm_pI (sm_pI S0_ 7 0 14 ((S0_.1 7 0 14) - 1)) 7 0 17 ((S0_.1 7 0 17) - 1)) 7 0 16 ((S0_.1 7 0 16) - 2)) := gi_pI hI5_ (show 0 ≤ (S0_.1 7 0 16) - 2 ∧ (S0_.1 7 0 16) - 2 ≤ 488 from ⟨by omega, by omega⟩)
  have hF9_ : ai_fr (sx_W vw_152) S0_ (sm_pI (sm_pI (sm_pI S0_ 7 0 14 ((S0_.1 7 0 14) - 1)) 7 0 17 ((S0_.1 7 0 17) - 1)) 7 0 16 ((S0_.1 7 0 16) - 2)) := ai_fr_tr hF6_ (ai_fr_pI rfl)
  refine sm_T_go 5 (c1 := (38, [some (.inr (.inr (some (7, 0))))], [.inl ((S0_.1 7 0 16) - 2), .inr (.inr (some (84, 0)))], sm_pI (sm_pI (sm_pI S0_ 7 0 14 ((S0_.1 7 0 14) - 1)) 7 0 17 ((S0_.1 7 0 17) - 1)) 7 0 16 ((S0_.1 7 0 16) - 2))) rfl ?_
  refine sm_T_iald (n := 488) rfl rfl (by omega) (by omega) ?_
  have b10_ : 0 ≤ S0_.2.2.1 84 0 ((S0_.1 7 0 16) - 2).toNat ∧ S0_.2.2.1 84 0 ((S0_.1 7 0 16) - 2).toNat ≤ 255 := hI_.2 84 0 _
  refine sm_T_go 5 (c1 := (48, [some (.inr (.inr (some (7, 0))))], [.inl 1, .inl ((S0_.1 7 0 16) - 2), .inr (.inr (some (84, 0))), .inl (S0_.2.2.1 84 0 ((S0_.1 7 0 16) - 2).toNat)], sm_pI (sm_pI (sm_pI S0_ 7 0 14 ((S0_.1 7 0 14) - 1)) 7 0 17 ((S0_.1 7 0 17) - 1)) 7 0 16 ((S0_.1 7 0 16) - 2))) rfl ?_
  refine sm_T_bin (w := (S0_.1 7 0 16) - 1) rfl (bi_add (by omega) (by omega) (by omega)) ?_
  refine sm_T_iald (n := 488) rfl rfl (by omega) (by omega) ?_
  have b11_ : 0 ≤ S0_.2.2.1 84 0 ((S0_.1 7 0 16) - 1).toNat ∧ S0_.2.2.1 84 0 ((S0_.1 7 0 16) - 1).toNat ≤ 255 := hI_.2 84 0 _
  refine sm_T_br (a := 0) (z := 21) rfl (fun c12_ => ?_) (fun c12_ => ?_)
  · have c12_ : (S0_.2.2.1 84 0 ((S0_.1 7 0 16) - 2).toNat) = (S0_.2.2.1 84 0 ((S0_.1 7 0 16) - 1).toNat) := of_decide_eq_true c12_
    refine sm_T_go 5 (c1 := (80, [some (.inr (.inr (some (7, 0))))], [.inl 1, .inl ((S0_.1 7 0 16) - 2), .inr (.inr (some (84, 0)))], sm_pI (sm_pI (sm_pI S0_ 7 0 14 ((S0_.1 7 0 14) - 1)) 7 0 17 ((S0_.1 7 0 17) - 1)) 7 0 16 ((S0_.1 7 0 16) - 2))) rfl ?_
    refine sm_T_bin (w := (S0_.1 7 0 16) - 3) rfl (bi_sub (by omega) (by omega) (by omega)) ?_
    refine sm_T_go 4 (c1 := (89, [some (.inr (.inr (some (7, 0))))], [.inl ((S0_.1 7 0 16) - 2), .inr (.inr (some (84, 0))), .inl ((S0_.1 7 0 16) - 3), .inr (.inr (some (84, 0)))], sm_pI (sm_pI (sm_pI S0_ 7 0 14 ((S0_.1 7 0 14) - 1)) 7 0 17 ((S0_.1 7 0 17) - 1)) 7 0 16 ((S0_.1 7 0 16) - 2))) rfl ?_
    refine sm_T_iald (n := 488) rfl rfl (by omega) (by omega) ?_
    refine sm_T_iast (n := 488) rfl rfl (by omega) (by omega) ?_
    have hI13_ : gi (sm_aI (sm_pI (sm_pI (sm_pI S0_ 7 0 14 ((S0_.1 7 0 14) - 1)) 7 0 17 ((S0_.1 7 0 17) - 1)) 7 0 16 ((S0_.1 7 0 16) - 2)) 84 0 ((S0_.1 7 0 16) - 3).toNat (S0_.2.2.1 84 0 ((S0_.1 7 0 16) - 2).toNat)) := gi_aI hI8_ (show 0 ≤ (S0_.2.2.1 84 0 ((S0_.1 7 0 16) - 2).toNat) ∧ (S0_.2.2.1 84 0 ((S0_.1 7 0 16) - 2).toNat) ≤ 255 from ⟨by omega, by omega⟩)
    have hF14_ : ai_fr (sx_W vw_152) S0_ (sm_aI (sm_pI (sm_pI (sm_pI S0_ 7 0 14 ((S0_.1 7 0 14) - 1)) 7 0 17 ((S0_.1 7 0 17) - 1)) 7 0 16 ((S0_.1 7 0 16) - 2)) 84 0 ((S0_.1 7 0 16) - 3).toNat (S0_.2.2.1 84 0 ((S0_.1 7 0 16) - 2).toNat)) := ai_fr_tr hF9_ (ai_fr_aI rfl)
    refine sm_T_go 4 (c1 := (96, [some (.inr (.inr (some (7, 0))))], [.inl 0, .inl 0, .inl 7, .inr (.inr (some (7, 0)))], sm_aI (sm_pI (sm_pI (sm_pI S0_ 7 0 14 ((S0_.1 7 0 14) - 1)) 7 0 17 ((S0_.1 7 0 17) - 1)) 7 0 16 ((S0_.1 7 0 16) - 2)) 84 0 ((S0_.1 7 0 16) - 3).toNat (S0_.2.2.1 84 0 ((S0_.1 7 0 16) - 2).toNat))) rfl ?_
    refine sm_T_cal (d1 := 0) (Q1 := vq_140 7 0 0 o_ (y_ :: g_) c_ (sm_aI (sm_pI (sm_pI (sm_pI S0_ 7 0 14 ((S0_.1 7 0 14) - 1)) 7 0 17 ((S0_.1 7 0 17) - 1)) 7 0 16 ((S0_.1 7 0 16) - 2)) 84 0 ((S0_.1 7 0 16) - 3).toNat (S0_.2.2.1 84 0 ((S0_.1 7 0 16) - 2).toNat))) rfl rfl (by decide) (vc_140 7 0 0 o_ (y_ :: g_) c_ (sm_aI (sm_pI (sm_pI (sm_pI S0_ 7 0 14 ((S0_.1 7 0 14) - 1)) 7 0 17 ((S0_.1 7 0 17) - 1)) 7 0 16 ((S0_.1 7 0 16) - 2)) 84 0 ((S0_.1 7 0 16) - 3).toNat (S0_.2.2.1 84 0 ((S0_.1 7 0 16) - 2).toNat)) hI13_ (by refine ⟨?_, ?_, stk_ot x3_.2 (by decide), stk_ot x4_.2 (by decide), stk_pu l4_ e2_ x5_.2.2.2, x6_, fun z_ => ⟨(x7_ z_).1, stk_ot (x7_ z_).2 (by decide)⟩⟩; ((try simp only [rd_eq, rd_ne, rf_eq, rf_nk, rf_nt, rd_fa, rd_af, rd_fl, rd_al, rd_lf, rd_la, rd_leq, rd_lne, rd_fr, rd_ar, ne_eq, Nat.reduceEqDiff, not_false_eq_true]); omega); ((try simp only [rd_eq, rd_ne, rf_eq, rf_nk, rf_nt, rd_fa, rd_af, rd_fl, rd_al, rd_lf, rd_la, rd_leq, rd_lne, rd_fr, rd_ar, ne_eq, Nat.reduceEqDiff, not_false_eq_true]); simp only [List.length_cons]; push_cast; omega)) (by decide) (by decide) (by decide) (by exact hc_)) (fun u_ S15_ p18_ => ?_)
    obtain ⟨rfl, hI16_, hF17_, p18_⟩ := p18_
    have hF19_ : ai_fr (sx_W vw_152) S0_ S15_ := ai_fr_tr hF14_ (fr_le hF17_ rfl)
    have e96_ := p18_
    have f96_ := hF17_.1 7 0 17 rfl
    refine sm_T_rv rfl (Or.inl ⟨_, _, rfl, rfl, hI16_, hF19_, ?_⟩)
    rw [cw_0] at e96_
    refine ⟨by omega, e96_, ?_⟩
    rw [f96_]
    (try simp only [rd_eq, rd_ne, rf_eq, rf_nk, rf_nt, rd_fa, rd_af, rd_fl, rd_al, rd_lf, rd_la, rd_leq, rd_lne, rd_fr, rd_ar, ne_eq, Nat.reduceEqDiff, not_false_eq_true])
  · have c12_ : ¬ ((S0_.2.2.1 84 0 ((S0_.1 7 0 16) - 2).toNat) = (S0_.2.2.1 84 0 ((S0_.1 7 0 16) - 1).toNat)) := of_decide_eq_false c12_
    refine sm_T_go 7 (c1 := (67, [some (.inr (.inr (some (7, 0))))], [.inl ((S0_.1 7 0 14) - 1), .inr (.inr (some (83, 0))), .inl 13, .inr (.inr (some (10, 0)))], sm_pI (sm_pI (sm_pI S0_ 7 0 14 ((S0_.1 7 0 14) - 1)) 7 0 17 ((S0_.1 7 0 17) - 1)) 7 0 16 ((S0_.1 7 0 16) - 2))) rfl ?_
    refine sm_T_iald (n := 488) rfl rfl (by omega) (by omega) ?_
    have b20_ : 0 ≤ S0_.2.2.1 83 0 ((S0_.1 7 0 14) - 1).toNat ∧ S0_.2.2.1 83 0 ((S0_.1 7 0 14) - 1).toNat ≤ 1280 := hI_.2 83 0 _
    refine sm_T_calx (d1 := 0) (Q1 := vq_187 13 (S0_.2.2.1 83 0 ((S0_.1 7 0 14) - 1).toNat) (sm_pI (sm_pI (sm_pI S0_ 7 0 14 ((S0_.1 7 0 14) - 1)) 7 0 17 ((S0_.1 7 0 17) - 1)) 7 0 16 ((S0_.1 7 0 16) - 2))) (Q2 := vx_187 13 (S0_.2.2.1 83 0 ((S0_.1 7 0 14) - 1).toNat) (sm_pI (sm_pI (sm_pI S0_ 7 0 14 ((S0_.1 7 0 14) - 1)) 7 0 17 ((S0_.1 7 0 17) - 1)) 7 0 16 ((S0_.1 7 0 16) - 2))) rfl rfl (by decide) (vc_187 13 (S0_.2.2.1 83 0 ((S0_.1 7 0 14) - 1).toNat) (sm_pI (sm_pI (sm_pI S0_ 7 0 14 ((S0_.1 7 0 14) - 1)) 7 0 17 ((S0_.1 7 0 17) - 1)) 7 0 16 ((S0_.1 7 0 16) - 2)) hI8_ (by decide) (by omega)) rfl (fun S21_ p24_ => ?_) (fun u_ S21_ p24_ => ?_)
    · obtain ⟨hI22_, hF23_, p24_⟩ := p24_
      refine Or.inr ⟨_, rfl, hI22_, ai_fr_tr hF9_ (fr_le hF23_ rfl), ?_⟩
      exact ⟨by omega, p24_.1, p24_.2.trans e1_⟩
    · exact (p24_.2.2.2).elim
