/-! Reader.emit -/
def vw_140 : sx_Wl := ([(7, 2)], [74], [])
def vq_140 (k_ : Int) (a_ : Int) (d_ : Int) (o_ : List (Int × Nat)) (g_ : List Int) (c_ : List Int) (S0_ : sm_S) (u_ : Option sm_V) (S1_ : sm_S) : Prop := u_ = none ∧ gi S1_ ∧ ai_fr (sx_W vw_140) S0_ S1_ ∧ (xs false o_ g_ (cw k_ a_ d_ :: c_) S1_)
theorem vc_140 {sc_ : Nat × (Nat → Int)} (k_ : Int) (a_ : Int) (d_ : Int) (o_ : List (Int × Nat)) (g_ : List Int) (c_ : List Int) (S0_ : sm_S) (hI_ : gi S0_) (hx_ : xs false o_ g_ c_ S0_) (hk_ : 0 ≤ k_ ∧ k_ < 32) (ha_ : 0 ≤ a_ ∧ a_ < 64) (hd_ : 0 ≤ d_ ∧ d_ ≤ 999999) (ho_ : c_.length ≤ 65535) : sm_T (mt_P sc_) 0 140 (0, [some (.inr (.inr (some (7, 0)))), some (.inl k_), some (.inl a_), some (.inl d_)], [], S0_) (fun r_ => ∃ u_ S1_, r_ = (.inl u_, S1_, 0) ∧ vq_140 k_ a_ d_ o_ g_ c_ S0_ u_ S1_) := by
  have hF_ : ai_fr (sx_W vw_140) S0_ S0_ := ai_fr_rf
  obtain ⟨x1_, x2_, x3_, x4_, x5_, x6_, x7_⟩ := id hx_
  have x8_ := (x7_ rfl).1
  have x9_ := (x7_ rfl).2
  have hl_ : (S0_.1 7 0 2).toNat = c_.length := by omega
  have b1_ : 0 ≤ S0_.1 7 0 2 ∧ S0_.1 7 0 2 ≤ 65536 := hI_.1 7 0 2 rfl
  refine sm_T_go 5 (c1 := (9, [some (.inr (.inr (some (7, 0)))), some (.inl k_), some (.inl a_), some (.inl d_)], [.inl 65536, .inl (S0_.1 7 0 2)], S0_)) rfl ?_
  refine sm_T_br (a := 3) (z := 32) rfl (fun c2_ => ?_) (fun c2_ => ?_)
  · have c2_ : 65536 ≤ (S0_.1 7 0 2) := of_decide_eq_true c2_
    exfalso; omega
  · have c2_ : ¬ (65536 ≤ (S0_.1 7 0 2)) := of_decide_eq_false c2_
    refine sm_T_go 7 (c1 := (23, [some (.inr (.inr (some (7, 0)))), some (.inl k_), some (.inl a_), some (.inl d_)], [.inl 5, .inl a_, .inl k_, .inl (S0_.1 7 0 2), .inr (.inr (some (74, 0)))], S0_)) rfl ?_
    refine sm_T_bin (w := 32 * a_) rfl (bi_shl (k := 5) (by decide) (by omega) (by omega) (by omega)) ?_
    refine sm_T_bin (w := (i_or k_ (32 * a_))) rfl rfl ?_
    refine sm_T_go 2 (c1 := (28, [some (.inr (.inr (some (7, 0)))), some (.inl k_), some (.inl a_), some (.inl d_)], [.inl 11, .inl d_, .inl (i_or k_ (32 * a_)), .inl (S0_.1 7 0 2), .inr (.inr (some (74, 0)))], S0_)) rfl ?_
    refine sm_T_bin (w := 2048 * d_) rfl (bi_shl (k := 11) (by decide) (by omega) (by omega) (by omega)) ?_
    refine sm_T_bin (w := (i_or (i_or k_ (32 * a_)) (2048 * d_))) rfl rfl ?_
    refine sm_T_iast (n := 65536) rfl rfl (by omega) (by omega) ?_
    have hI3_ : gi (sm_aI S0_ 74 0 (S0_.1 7 0 2).toNat (i_or (i_or k_ (32 * a_)) (2048 * d_))) := gi_aI hI_ (show 0 ≤ (i_or (i_or k_ (32 * a_)) (2048 * d_)) ∧ (i_or (i_or k_ (32 * a_)) (2048 * d_)) ≤ 2147483647 from ⟨by rw [cw_or hk_ ha_ hd_]; unfold cw; omega, by rw [cw_or hk_ ha_ hd_]; unfold cw; omega⟩)
    have hF4_ : ai_fr (sx_W vw_140) S0_ (sm_aI S0_ 74 0 (S0_.1 7 0 2).toNat (i_or (i_or k_ (32 * a_)) (2048 * d_))) := ai_fr_tr hF_ (ai_fr_aI rfl)
    refine sm_T_go 4 (c1 := (37, [some (.inr (.inr (some (7, 0)))), some (.inl k_), some (.inl a_), some (.inl d_)], [.inl 1, .inl (S0_.1 7 0 2), .inr (.inr (some (7, 0)))], sm_aI S0_ 74 0 (S0_.1 7 0 2).toNat (i_or (i_or k_ (32 * a_)) (2048 * d_)))) rfl ?_
    refine sm_T_bin (w := (S0_.1 7 0 2) + 1) rfl (bi_add (by omega) (by omega) (by omega)) ?_
    have hI5_ : gi (sm_pI (sm_aI S0_ 74 0 (S0_.1 7 0 2).toNat (i_or (i_or k_ (32 * a_)) (2048 * d_))) 7 0 2 ((S0_.1 7 0 2) + 1)) := gi_pI hI3_ (show 0 ≤ (S0_.1 7 0 2) + 1 ∧ (S0_.1 7 0 2) + 1 ≤ 65536 from ⟨by omega, by omega⟩)
    have hF6_ : ai_fr (sx_W vw_140) S0_ (sm_pI (sm_aI S0_ 74 0 (S0_.1 7 0 2).toNat (i_or (i_or k_ (32 * a_)) (2048 * d_))) 7 0 2 ((S0_.1 7 0 2) + 1)) := ai_fr_tr hF4_ (ai_fr_pI rfl)
    refine sm_T_go 1 (c1 := (41, [some (.inr (.inr (some (7, 0)))), some (.inl k_), some (.inl a_), some (.inl d_)], [], sm_pI (sm_aI S0_ 74 0 (S0_.1 7 0 2).toNat (i_or (i_or k_ (32 * a_)) (2048 * d_))) 7 0 2 ((S0_.1 7 0 2) + 1))) rfl ?_
    refine sm_T_rv rfl ⟨_, _, rfl, rfl, hI5_, hF6_, ?_⟩
    refine ⟨x1_, x2_, ?_, ?_, ?_, x6_, fun z_ => ⟨?_, ?_⟩⟩
    · exact stk_ot x3_ (by decide)
    · exact stk_ot x4_ (by decide)
    · exact stk_ot x5_ (by decide)
    · (try simp only [rd_eq, rd_ne, rf_eq, rf_nk, rf_nt, rd_fa, rd_af, rd_fl, rd_al, rd_lf, rd_la, rd_leq, rd_lne, rd_fr, rd_ar, ne_eq, Nat.reduceEqDiff, not_false_eq_true]); simp only [List.length_cons]; push_cast; omega
    · exact stk_pu hl_ (cw_or hk_ ha_ hd_) x9_
