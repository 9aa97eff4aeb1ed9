/-! Layout.judge -/
def vw_79 : sx_Wl := ([(4, 3), (4, 8), (4, 9)], [50], [])
def vq_79 (ii_ : Nat) (S0_ : sm_S) (u_ : Option sm_V) (S1_ : sm_S) : Prop := u_ = none ∧ gi S1_ ∧ ai_fr (sx_W vw_79) S0_ S1_ ∧ (cdf ii_ S0_ S1_ ∧ (True))
set_option maxHeartbeats 400000 in
theorem vl_79 {sc_ : Nat × (Nat → Int)} (ii_ : Nat) (S0_ : sm_S)  : ∀ nn_ : Nat, (∀ (a_ : Int) (S_ : sm_S), gi S_ → ai_fr (sx_W vw_79) S0_ S_ → ((0 ≤ a_ ∧ a_ ≤ 2000 ∧ 0 ≤ S_.1 4 ii_ 8 ∧ S_.1 4 ii_ 8 ≤ a_ ∧ 0 ≤ S_.1 4 ii_ 3 ∧ S_.1 4 ii_ 3 ≤ 2000 * a_) ∧ (cdf ii_ S0_ S_) ∧ True) → ((10000 * (2010 - a_) + 9000).toNat) < nn_ → sm_T (mt_P sc_) 1 79 (25, [some (.inr (.inr (some (4, ii_)))), some (.inl a_), none], [], S_) (fun ro9_ => ∃ u_ S1_, ro9_ = (.inl u_, S1_, 0) ∧ vq_79 ii_ S0_ u_ S1_)) ∧ (∀ (a_ : Int) (b_ : Int) (S_ : sm_S), gi S_ → ai_fr (sx_W vw_79) S0_ S_ → ((0 ≤ a_ ∧ a_ < 2000 ∧ a_ < b_ ∧ b_ ≤ 2000 ∧ 0 ≤ S_.1 4 ii_ 8 ∧ S_.1 4 ii_ 8 ≤ a_ + 1 ∧ 0 ≤ S_.1 4 ii_ 3 ∧ S_.1 4 ii_ 3 ≤ 2000 * a_) ∧ (0 ≤ S_.2.2.1 50 (0 + ii_) a_.toNat ∧ S_.2.2.1 50 (0 + ii_) a_.toNat ≤ b_) ∧ (cdf ii_ S0_ S_) ∧ True) → ((10000 * (2010 - a_) + 8000 - b_).toNat) < nn_ → sm_T (mt_P sc_) 1 79 (66, [some (.inr (.inr (some (4, ii_)))), some (.inl a_), some (.inl b_)], [], S_) (fun ro9_ => ∃ u_ S1_, ro9_ = (.inl u_, S1_, 0) ∧ vq_79 ii_ S0_ u_ S1_)) := by
  intro nn_
  induction nn_ with
  | zero => exact ⟨fun _ _ _ _ _ h_ => absurd h_ (Nat.not_lt_zero _), fun _ _ _ _ _ _ h_ => absurd h_ (Nat.not_lt_zero _)⟩
  | succ nn_ ih_ =>
    refine ⟨?_, ?_⟩
    · rintro a_ S_ hI_ hF_ ⟨h0_, hC_, -⟩ hm_
      have cn_ : 0 ≤ S_.1 4 ii_ 1 ∧ S_.1 4 ii_ 1 ≤ 2000 := hI_.1 4 ii_ 1 rfl
      have bx1_ : 0 ≤ S_.1 4 ii_ 1 ∧ S_.1 4 ii_ 1 ≤ 2000 := hI_.1 4 ii_ 1 rfl
      refine sm_T_go 3 (c1 := (30, [some (.inr (.inr (some (4, ii_)))), some (.inl a_), none], [.inl (S_.1 4 ii_ 1), .inl a_], S_)) rfl ?_
      refine sm_T_br (a := 3) (z := 90) rfl (fun cx2_ => ?_) (fun cx2_ => ?_)
      · have cx2_ : (S_.1 4 ii_ 1) ≤ a_ := of_decide_eq_true cx2_
        have bx3_ : 0 ≤ S_.1 4 ii_ 3 ∧ S_.1 4 ii_ 3 ≤ 1073741823 := hI_.1 4 ii_ 3 rfl
        have bx4_ : 0 ≤ S_.1 4 ii_ 8 ∧ S_.1 4 ii_ 8 ≤ 2000 := hI_.1 4 ii_ 8 rfl
        refine sm_T_go 5 (c1 := (129, [some (.inr (.inr (some (4, ii_)))), some (.inl a_), none], [.inl (S_.1 4 ii_ 8), .inl (S_.1 4 ii_ 3), .inr (.inr (some (4, ii_)))], S_)) rfl ?_
        refine sm_T_bin (w := (S_.1 4 ii_ 3) + (S_.1 4 ii_ 8)) rfl (bi_add (by omega) (by omega) (by omega)) ?_ -- pc_ 129
        have hIx5_ : gi (sm_pI S_ 4 ii_ 3 ((S_.1 4 ii_ 3) + (S_.1 4 ii_ 8))) := gi_pI hI_ (show 0 ≤ (S_.1 4 ii_ 3) + (S_.1 4 ii_ 8) ∧ (S_.1 4 ii_ 3) + (S_.1 4 ii_ 8) ≤ 1073741823 from ⟨by omega, by omega⟩)
        have hFx6_ : ai_fr (sx_W vw_79) S0_ (sm_pI S_ 4 ii_ 3 ((S_.1 4 ii_ 3) + (S_.1 4 ii_ 8))) := ai_fr_tr hF_ (ai_fr_pI rfl)
        have hCx7_ : cdf ii_ S0_ (sm_pI S_ 4 ii_ 3 ((S_.1 4 ii_ 3) + (S_.1 4 ii_ 8))) := cdf_pI hC_ (Or.inr (by rw [show cof 4 = 0 from rfl] <;> omega))
        refine sm_T_go 1 (c1 := (133, [some (.inr (.inr (some (4, ii_)))), some (.inl a_), none], [], sm_pI S_ 4 ii_ 3 ((S_.1 4 ii_ 3) + (S_.1 4 ii_ 8)))) rfl ?_
        refine sm_T_rv rfl ⟨_, _, rfl, rfl, hIx5_, hFx6_, ?_⟩
        refine ⟨hCx7_, ?_⟩
        trivial
      · have cx2_ : ¬ ((S_.1 4 ii_ 1) ≤ a_) := of_decide_eq_false cx2_
        have bx8_ : 0 ≤ S_.1 4 ii_ 8 ∧ S_.1 4 ii_ 8 ≤ 2000 := hI_.1 4 ii_ 8 rfl
        refine sm_T_go 5 (c1 := (40, [some (.inr (.inr (some (4, ii_)))), some (.inl a_), none], [.inl a_, .inr (.inr (some (4, ii_))), .inl (S_.1 4 ii_ 8), .inr (.inr (some (4, ii_)))], S_)) rfl ?_
        refine sm_T_cal (d1 := 0) (Q1 := vq_76 a_ ii_ S_) rfl rfl (by decide) (vc_76 a_ ii_ S_ hI_ (by omega)) (fun u_ Sx9_ px12_ => ?_)
        obtain ⟨rfl, vx14_, rfl, px12_⟩ := px12_
        have t1_ := px12_
        refine sm_T_b0 (a := 0) (z := 7) rfl (fun cx15_ => ?_) (fun cx15_ => ?_)
        · have cx15_ : vx14_ = 0 := of_decide_eq_true cx15_
          refine sm_T_go 1 (c1 := (51, [some (.inr (.inr (some (4, ii_)))), some (.inl a_), none], [.inl 0, .inl (S_.1 4 ii_ 8), .inr (.inr (some (4, ii_)))], S_)) rfl ?_
          refine sm_T_bin (w := (S_.1 4 ii_ 8)) rfl (bi_add (by omega) (by omega) (by omega)) ?_ -- pc_ 51
          have hIx16_ : gi (sm_pI S_ 4 ii_ 8 (S_.1 4 ii_ 8)) := gi_pI hI_ (show 0 ≤ (S_.1 4 ii_ 8) ∧ (S_.1 4 ii_ 8) ≤ 2000 from ⟨by omega, by omega⟩)
          have hFx17_ : ai_fr (sx_W vw_79) S0_ (sm_pI S_ 4 ii_ 8 (S_.1 4 ii_ 8)) := ai_fr_tr hF_ (ai_fr_pI rfl)
          have hCx18_ : cdf ii_ S0_ (sm_pI S_ 4 ii_ 8 (S_.1 4 ii_ 8)) := cdf_pI hC_ (Or.inr (by rw [show cof 4 = 0 from rfl] <;> omega))
          refine sm_T_go 5 (c1 := (61, [some (.inr (.inr (some (4, ii_)))), some (.inl a_), none], [.inl 0, .inl a_, .inr (.inr (some (50, (0 + ii_))))], sm_pI S_ 4 ii_ 8 (S_.1 4 ii_ 8))) rfl ?_
          refine sm_T_iast (n := 2000) rfl rfl (by omega) (by omega) ?_
          have hIx19_ : gi (sm_aI (sm_pI S_ 4 ii_ 8 (S_.1 4 ii_ 8)) 50 (0 + ii_) a_.toNat 0) := gi_aI hIx16_ (show (-2147483648) ≤ 0 ∧ 0 ≤ 2147483647 from ⟨by omega, by omega⟩)
          have hFx20_ : ai_fr (sx_W vw_79) S0_ (sm_aI (sm_pI S_ 4 ii_ 8 (S_.1 4 ii_ 8)) 50 (0 + ii_) a_.toNat 0) := ai_fr_tr hFx17_ (ai_fr_aI rfl)
          have hCx21_ : cdf ii_ S0_ (sm_aI (sm_pI S_ 4 ii_ 8 (S_.1 4 ii_ 8)) 50 (0 + ii_) a_.toNat 0) := cdf_aI hCx18_ (Or.inr (by rw [show cof 50 = 0 from rfl] <;> omega))
          refine sm_T_go 2 (c1 := (64, [some (.inr (.inr (some (4, ii_)))), some (.inl a_), none], [.inl 1, .inl a_], sm_aI (sm_pI S_ 4 ii_ 8 (S_.1 4 ii_ 8)) 50 (0 + ii_) a_.toNat 0)) rfl ?_
          refine sm_T_bin (w := a_ + 1) rfl (bi_add (by omega) (by omega) (by omega)) ?_ -- pc_ 64
          refine sm_T_go 1 (c1 := (66, [some (.inr (.inr (some (4, ii_)))), some (.inl a_), some (.inl (a_ + 1))], [], sm_aI (sm_pI S_ 4 ii_ 8 (S_.1 4 ii_ 8)) 50 (0 + ii_) a_.toNat 0)) rfl ?_
          refine ih_.2 a_ (a_ + 1) (sm_aI (sm_pI S_ 4 ii_ 8 (S_.1 4 ii_ 8)) 50 (0 + ii_) a_.toNat 0) hIx19_ hFx20_ ⟨?_, ?_, ?_, trivial⟩ ?_
          · ((try simp only [rd_lf, rd_fl, rf_eq, rf_nk, rf_nt, rd_fa, rd_af, ne_eq, Nat.reduceEqDiff, not_false_eq_true]); omega)
          · (rw [rd_eq, if_pos rfl]; omega)
          · exact hCx21_
          · omega
        · have cx15_ : ¬ (vx14_ = 0) := of_decide_eq_false cx15_
          refine sm_T_go 2 (c1 := (51, [some (.inr (.inr (some (4, ii_)))), some (.inl a_), none], [.inl 1, .inl (S_.1 4 ii_ 8), .inr (.inr (some (4, ii_)))], S_)) rfl ?_
          refine sm_T_bin (w := (S_.1 4 ii_ 8) + 1) rfl (bi_add (by omega) (by omega) (by omega)) ?_ -- pc_ 51
          have hIx22_ : gi (sm_pI S_ 4 ii_ 8 ((S_.1 4 ii_ 8) + 1)) := gi_pI hI_ (show 0 ≤ (S_.1 4 ii_ 8) + 1 ∧ (S_.1 4 ii_ 8) + 1 ≤ 2000 from ⟨by omega, by omega⟩)
          have hFx23_ : ai_fr (sx_W vw_79) S0_ (sm_pI S_ 4 ii_ 8 ((S_.1 4 ii_ 8) + 1)) := ai_fr_tr hF_ (ai_fr_pI rfl)
          have hCx24_ : cdf ii_ S0_ (sm_pI S_ 4 ii_ 8 ((S_.1 4 ii_ 8) + 1)) := cdf_pI hC_ (Or.inr (by rw [show cof 4 = 0 from rfl] <;> omega))
          refine sm_T_go 5 (c1 := (61, [some (.inr (.inr (some (4, ii_)))), some (.inl a_), none], [.inl 0, .inl a_, .inr (.inr (some (50, (0 + ii_))))], sm_pI S_ 4 ii_ 8 ((S_.1 4 ii_ 8) + 1))) rfl ?_
          refine sm_T_iast (n := 2000) rfl rfl (by omega) (by omega) ?_
          have hIx25_ : gi (sm_aI (sm_pI S_ 4 ii_ 8 ((S_.1 4 ii_ 8) + 1)) 50 (0 + ii_) a_.toNat 0) := gi_aI hIx22_ (show (-2147483648) ≤ 0 ∧ 0 ≤ 2147483647 from ⟨by omega, by omega⟩)
          have hFx26_ : ai_fr (sx_W vw_79) S0_ (sm_aI (sm_pI S_ 4 ii_ 8 ((S_.1 4 ii_ 8) + 1)) 50 (0 + ii_) a_.toNat 0) := ai_fr_tr hFx23_ (ai_fr_aI rfl)
          have hCx27_ : cdf ii_ S0_ (sm_aI (sm_pI S_ 4 ii_ 8 ((S_.1 4 ii_ 8) + 1)) 50 (0 + ii_) a_.toNat 0) := cdf_aI hCx24_ (Or.inr (by rw [show cof 50 = 0 from rfl] <;> omega))
          refine sm_T_go 2 (c1 := (64, [some (.inr (.inr (some (4, ii_)))), some (.inl a_), none], [.inl 1, .inl a_], sm_aI (sm_pI S_ 4 ii_ 8 ((S_.1 4 ii_ 8) + 1)) 50 (0 + ii_) a_.toNat 0)) rfl ?_
          refine sm_T_bin (w := a_ + 1) rfl (bi_add (by omega) (by omega) (by omega)) ?_ -- pc_ 64
          refine sm_T_go 1 (c1 := (66, [some (.inr (.inr (some (4, ii_)))), some (.inl a_), some (.inl (a_ + 1))], [], sm_aI (sm_pI S_ 4 ii_ 8 ((S_.1 4 ii_ 8) + 1)) 50 (0 + ii_) a_.toNat 0)) rfl ?_
          refine ih_.2 a_ (a_ + 1) (sm_aI (sm_pI S_ 4 ii_ 8 ((S_.1 4 ii_ 8) + 1)) 50 (0 + ii_) a_.toNat 0) hIx25_ hFx26_ ⟨?_, ?_, ?_, trivial⟩ ?_
          · ((try simp only [rd_lf, rd_fl, rf_eq, rf_nk, rf_nt, rd_fa, rd_af, ne_eq, Nat.reduceEqDiff, not_false_eq_true]); omega)
          · (rw [rd_eq, if_pos rfl]; omega)
          · exact hCx27_
          · omega
    · rintro a_ b_ S_ hI_ hF_ ⟨h0_, hn_, hC_, -⟩ hm_
      have cn_ : 0 ≤ S_.1 4 ii_ 1 ∧ S_.1 4 ii_ 1 ≤ 2000 := hI_.1 4 ii_ 1 rfl
      have bx1_ : 0 ≤ S_.1 4 ii_ 1 ∧ S_.1 4 ii_ 1 ≤ 2000 := hI_.1 4 ii_ 1 rfl
      refine sm_T_go 3 (c1 := (71, [some (.inr (.inr (some (4, ii_)))), some (.inl a_), some (.inl b_)], [.inl (S_.1 4 ii_ 1), .inl b_], S_)) rfl ?_
      refine sm_T_br (a := 3) (z := 28) rfl (fun cx2_ => ?_) (fun cx2_ => ?_)
      · have cx2_ : (S_.1 4 ii_ 1) ≤ b_ := of_decide_eq_true cx2_
        have bx3_ : 0 ≤ S_.1 4 ii_ 3 ∧ S_.1 4 ii_ 3 ≤ 1073741823 := hI_.1 4 ii_ 3 rfl
        refine sm_T_go 6 (c1 := (109, [some (.inr (.inr (some (4, ii_)))), some (.inl a_), some (.inl b_)], [.inl a_, .inr (.inr (some (50, (0 + ii_)))), .inl (S_.1 4 ii_ 3), .inr (.inr (some (4, ii_)))], S_)) rfl ?_
        refine sm_T_iald (n := 2000) rfl rfl (by omega) (by omega) ?_
        have bx4_ : (-2147483648) ≤ S_.2.2.1 50 (0 + ii_) a_.toNat ∧ S_.2.2.1 50 (0 + ii_) a_.toNat ≤ 2147483647 := hI_.2 50 (0 + ii_) _
        refine sm_T_bin (w := (S_.1 4 ii_ 3) + (S_.2.2.1 50 (0 + ii_) a_.toNat)) rfl (bi_add (by omega) (by omega) (by omega)) ?_ -- pc_ 110
        have hIx5_ : gi (sm_pI S_ 4 ii_ 3 ((S_.1 4 ii_ 3) + (S_.2.2.1 50 (0 + ii_) a_.toNat))) := gi_pI hI_ (show 0 ≤ (S_.1 4 ii_ 3) + (S_.2.2.1 50 (0 + ii_) a_.toNat) ∧ (S_.1 4 ii_ 3) + (S_.2.2.1 50 (0 + ii_) a_.toNat) ≤ 1073741823 from ⟨by omega, by omega⟩)
        have hFx6_ : ai_fr (sx_W vw_79) S0_ (sm_pI S_ 4 ii_ 3 ((S_.1 4 ii_ 3) + (S_.2.2.1 50 (0 + ii_) a_.toNat))) := ai_fr_tr hF_ (ai_fr_pI rfl)
        have hCx7_ : cdf ii_ S0_ (sm_pI S_ 4 ii_ 3 ((S_.1 4 ii_ 3) + (S_.2.2.1 50 (0 + ii_) a_.toNat))) := cdf_pI hC_ (Or.inr (by rw [show cof 4 = 0 from rfl] <;> omega))
        refine sm_T_go 1 (c1 := (114, [some (.inr (.inr (some (4, ii_)))), some (.inl a_), some (.inl b_)], [], sm_pI S_ 4 ii_ 3 ((S_.1 4 ii_ 3) + (S_.2.2.1 50 (0 + ii_) a_.toNat)))) rfl ?_
        refine sm_T_inc (a := 1) (z := 1) (v := a_) (w := a_ + 1) rfl rfl (by omega) (by omega) (by omega) ?_ -- pc_ 114
        refine sm_T_go 1 (c1 := (25, [some (.inr (.inr (some (4, ii_)))), some (.inl (a_ + 1)), some (.inl b_)], [], sm_pI S_ 4 ii_ 3 ((S_.1 4 ii_ 3) + (S_.2.2.1 50 (0 + ii_) a_.toNat)))) rfl ?_
        refine sm_T_wk [some (.inr (.inr (some (4, ii_)))), some (.inl (a_ + 1)), none] (by exact ⟨rfl, rfl, trivial⟩) ?_
        refine ih_.1 (a_ + 1) (sm_pI S_ 4 ii_ 3 ((S_.1 4 ii_ 3) + (S_.2.2.1 50 (0 + ii_) a_.toNat))) hIx5_ hFx6_ ⟨?_, ?_, trivial⟩ ?_
        · ((try simp only [rd_lf, rd_fl, rf_eq, rf_nk, rf_nt, rd_fa, rd_af, ne_eq, Nat.reduceEqDiff, not_false_eq_true]); omega)
        · exact hCx7_
        · omega
      · have cx2_ : ¬ ((S_.1 4 ii_ 1) ≤ b_) := of_decide_eq_false cx2_
        refine sm_T_go 3 (c1 := (77, [some (.inr (.inr (some (4, ii_)))), some (.inl a_), some (.inl b_)], [.inl b_, .inl a_, .inr (.inr (some (4, ii_)))], S_)) rfl ?_
        refine sm_T_cal (d1 := 0) (Q1 := vq_77 a_ b_ ii_ S_) rfl rfl (by decide) (vc_77 a_ b_ ii_ S_ hI_ (by omega) (by omega)) (fun u_ Sx8_ px11_ => ?_)
        obtain ⟨rfl, vx13_, rfl, px11_⟩ := px11_
        have t2_ := px11_
        refine sm_T_b0 (a := 0) (z := 13) rfl (fun cx14_ => ?_) (fun cx14_ => ?_)
        · have cx14_ : vx13_ = 0 := of_decide_eq_true cx14_
          refine sm_T_inc (a := 2) (z := 1) (v := b_) (w := b_ + 1) rfl rfl (by omega) (by omega) (by omega) ?_ -- pc_ 93
          refine sm_T_go 1 (c1 := (66, [some (.inr (.inr (some (4, ii_)))), some (.inl a_), some (.inl (b_ + 1))], [], S_)) rfl ?_
          refine ih_.2 a_ (b_ + 1) S_ hI_ hF_ ⟨?_, ?_, ?_, trivial⟩ ?_
          · ((try simp only [rd_lf, rd_fl, rf_eq, rf_nk, rf_nt, rd_fa, rd_af, ne_eq, Nat.reduceEqDiff, not_false_eq_true]); omega)
          · omega
          · exact hC_
          · omega
        · have cx14_ : ¬ (vx13_ = 0) := of_decide_eq_false cx14_
          refine sm_T_go 4 (c1 := (89, [some (.inr (.inr (some (4, ii_)))), some (.inl a_), some (.inl b_)], [.inl a_, .inr (.inr (some (50, (0 + ii_)))), .inl a_, .inr (.inr (some (50, (0 + ii_))))], S_)) rfl ?_
          refine sm_T_iald (n := 2000) rfl rfl (by omega) (by omega) ?_
          have bx15_ : (-2147483648) ≤ S_.2.2.1 50 (0 + ii_) a_.toNat ∧ S_.2.2.1 50 (0 + ii_) a_.toNat ≤ 2147483647 := hI_.2 50 (0 + ii_) _
          refine sm_T_go 1 (c1 := (91, [some (.inr (.inr (some (4, ii_)))), some (.inl a_), some (.inl b_)], [.inl 1, .inl (S_.2.2.1 50 (0 + ii_) a_.toNat), .inl a_, .inr (.inr (some (50, (0 + ii_))))], S_)) rfl ?_
          refine sm_T_bin (w := (S_.2.2.1 50 (0 + ii_) a_.toNat) + 1) rfl (bi_add (by omega) (by omega) (by omega)) ?_ -- pc_ 91
          refine sm_T_iast (n := 2000) rfl rfl (by omega) (by omega) ?_
          have hIx16_ : gi (sm_aI S_ 50 (0 + ii_) a_.toNat ((S_.2.2.1 50 (0 + ii_) a_.toNat) + 1)) := gi_aI hI_ (show (-2147483648) ≤ (S_.2.2.1 50 (0 + ii_) a_.toNat) + 1 ∧ (S_.2.2.1 50 (0 + ii_) a_.toNat) + 1 ≤ 2147483647 from ⟨by omega, by omega⟩)
          have hFx17_ : ai_fr (sx_W vw_79) S0_ (sm_aI S_ 50 (0 + ii_) a_.toNat ((S_.2.2.1 50 (0 + ii_) a_.toNat) + 1)) := ai_fr_tr hF_ (ai_fr_aI rfl)
          have hCx18_ : cdf ii_ S0_ (sm_aI S_ 50 (0 + ii_) a_.toNat ((S_.2.2.1 50 (0 + ii_) a_.toNat) + 1)) := cdf_aI hC_ (Or.inr (by rw [show cof 50 = 0 from rfl] <;> omega))
          refine sm_T_inc (a := 2) (z := 1) (v := b_) (w := b_ + 1) rfl rfl (by omega) (by omega) (by omega) ?_ -- pc_ 93
          refine sm_T_go 1 (c1 := (66, [some (.inr (.inr (some (4, ii_)))), some (.inl a_), some (.inl (b_ + 1))], [], sm_aI S_ 50 (0 + ii_) a_.toNat ((S_.2.2.1 50 (0 + ii_) a_.toNat) + 1))) rfl ?_
          refine ih_.2 a_ (b_ + 1) (sm_aI S_ 50 (0 + ii_) a_.toNat ((S_.2.2.1 50 (0 + ii_) a_.toNat) + 1)) hIx16_ hFx17_ ⟨?_, ?_, ?_, trivial⟩ ?_
          · ((try simp only [rd_lf, rd_fl, rf_eq, rf_nk, rf_nt, rd_fa, rd_af, ne_eq, Nat.reduceEqDiff, not_false_eq_true]); omega)
          · (rw [rd_eq, if_pos rfl]; omega)
          · exact hCx18_
          · omega
set_option maxHeartbeats 400000 in
theorem vc_79 {sc_ : Nat × (Nat → Int)} (ii_ : Nat) (S0_ : sm_S) (hI_ : gi S0_)  : sm_T (mt_P sc_) 1 79 (0, [some (.inr (.inr (some (4, ii_)))), none, none], [], S0_) (fun ro9_ => ∃ u_ S1_, ro9_ = (.inl u_, S1_, 0) ∧ vq_79 ii_ S0_ u_ S1_) := by
  have hF_ : ai_fr (sx_W vw_79) S0_ S0_ := ai_fr_rf
  have hC_ : cdf ii_ S0_ S0_ := cdf_rf
  have bx1_ : 0 ≤ S0_.1 4 ii_ 9 ∧ S0_.1 4 ii_ 9 ≤ 1 := hI_.1 4 ii_ 9 rfl
  refine sm_T_go 2 (c1 := (4, [some (.inr (.inr (some (4, ii_)))), none, none], [.inl (S0_.1 4 ii_ 9)], S0_)) rfl ?_
  refine sm_T_b0 (a := 0) (z := 4) rfl (fun cx2_ => ?_) (fun cx2_ => ?_)
  · have cx2_ : (S0_.1 4 ii_ 9) = 0 := of_decide_eq_true cx2_
    have hIx3_ : gi (sm_pI S0_ 4 ii_ 9 1) := gi_pI hI_ (show 0 ≤ 1 ∧ 1 ≤ 1 from ⟨by omega, by omega⟩)
    have hFx4_ : ai_fr (sx_W vw_79) S0_ (sm_pI S0_ 4 ii_ 9 1) := ai_fr_tr hF_ (ai_fr_pI rfl)
    have hCx5_ : cdf ii_ S0_ (sm_pI S0_ 4 ii_ 9 1) := cdf_pI hC_ (Or.inr (by rw [show cof 4 = 0 from rfl] <;> omega))
    have hIx6_ : gi (sm_pI (sm_pI S0_ 4 ii_ 9 1) 4 ii_ 8 0) := gi_pI hIx3_ (show 0 ≤ 0 ∧ 0 ≤ 2000 from ⟨by omega, by omega⟩)
    have hFx7_ : ai_fr (sx_W vw_79) S0_ (sm_pI (sm_pI S0_ 4 ii_ 9 1) 4 ii_ 8 0) := ai_fr_tr hFx4_ (ai_fr_pI rfl)
    have hCx8_ : cdf ii_ S0_ (sm_pI (sm_pI S0_ 4 ii_ 9 1) 4 ii_ 8 0) := cdf_pI hCx5_ (Or.inr (by rw [show cof 4 = 0 from rfl] <;> omega))
    have hIx9_ : gi (sm_pI (sm_pI (sm_pI S0_ 4 ii_ 9 1) 4 ii_ 8 0) 4 ii_ 3 0) := gi_pI hIx6_ (show 0 ≤ 0 ∧ 0 ≤ 1073741823 from ⟨by omega, by omega⟩)
    have hFx10_ : ai_fr (sx_W vw_79) S0_ (sm_pI (sm_pI (sm_pI S0_ 4 ii_ 9 1) 4 ii_ 8 0) 4 ii_ 3 0) := ai_fr_tr hFx7_ (ai_fr_pI rfl)
    have hCx11_ : cdf ii_ S0_ (sm_pI (sm_pI (sm_pI S0_ 4 ii_ 9 1) 4 ii_ 8 0) 4 ii_ 3 0) := cdf_pI hCx8_ (Or.inr (by rw [show cof 4 = 0 from rfl] <;> omega))
    refine sm_T_go 11 (c1 := (25, [some (.inr (.inr (some (4, ii_)))), some (.inl 0), none], [], sm_pI (sm_pI (sm_pI S0_ 4 ii_ 9 1) 4 ii_ 8 0) 4 ii_ 3 0)) rfl ?_
    refine (vl_79 ii_ S0_ _).1 0 (sm_pI (sm_pI (sm_pI S0_ 4 ii_ 9 1) 4 ii_ 8 0) 4 ii_ 3 0) hIx9_ hFx10_ ⟨?_, ?_, trivial⟩ (Nat.lt_succ_self _)
    · ((try simp only [rd_lf, rd_fl, rf_eq, rf_nk, rf_nt, rd_fa, rd_af, ne_eq, Nat.reduceEqDiff, not_false_eq_true]); omega)
    · exact hCx11_
  · have cx2_ : ¬ ((S0_.1 4 ii_ 9) = 0) := of_decide_eq_false cx2_
    refine sm_T_rv rfl ⟨_, _, rfl, rfl, hI_, hF_, ?_⟩
    refine ⟨hC_, ?_⟩
    trivial
