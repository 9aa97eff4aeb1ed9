/-! Layout.findAgain -/
def vw_82 : sx_Wl := ([(4, 4), (4, 5), (4, 6), (4, 7), (4, 10)], [51, 52, 53, 54], [])
def vq_82 (a2_ : Int) (ii_ : Nat) (bb_ : Nat) (S0_ : sm_S) (u_ : Option sm_V) (S1_ : sm_S) : Prop := u_ = none ∧ gi S1_ ∧ ai_fr (sx_W vw_82) S0_ S1_ ∧ (cdf ii_ S0_ S1_ ∧ (True))
set_option maxHeartbeats 400000 in
theorem vl_82 {sc_ : Nat × (Nat → Int)} (a2_ : Int) (ii_ : Nat) (bb_ : Nat) (S0_ : sm_S) (hb_ : bpn bb_ S0_) (h2_ : 0 ≤ a2_ ∧ a2_ ≤ 6) : ∀ nn_ : Nat, (∀ (k_ : Int) (S_ : sm_S), gi S_ → ai_fr (sx_W vw_82) S0_ S_ → ((0 ≤ k_ ∧ k_ ≤ 2000) ∧ (cdf ii_ S0_ S_) ∧ True) → ((90000 - k_).toNat) < nn_ → sm_T (mt_P sc_) 3 82 (19, [some (.inr (.inr (some (4, ii_)))), some (.inr (.inr (some (0, bb_)))), some (.inl a2_), some (.inl k_)], [], S_) (fun ro9_ => ∃ u_ S1_, ro9_ = (.inl u_, S1_, 0) ∧ vq_82 a2_ ii_ bb_ S0_ u_ S1_)) ∧ (∀ (k_ : Int) (S_ : sm_S), gi S_ → ai_fr (sx_W vw_82) S0_ S_ → ((0 ≤ k_ ∧ k_ ≤ 652 ∧ 0 ≤ S_.1 4 ii_ 6 ∧ S_.1 4 ii_ 6 ≤ k_) ∧ (cdf ii_ S0_ S_) ∧ True) → ((60000 - k_).toNat) < nn_ → sm_T (mt_P sc_) 3 82 (47, [some (.inr (.inr (some (4, ii_)))), some (.inr (.inr (some (0, bb_)))), some (.inl a2_), some (.inl k_)], [], S_) (fun ro9_ => ∃ u_ S1_, ro9_ = (.inl u_, S1_, 0) ∧ vq_82 a2_ ii_ bb_ S0_ u_ S1_)) ∧ (∀ (k_ : Int) (S_ : sm_S), gi S_ → ai_fr (sx_W vw_82) S0_ S_ → ((0 ≤ k_ ∧ k_ ≤ 2000 ∧ 0 ≤ S_.1 4 ii_ 6 ∧ S_.1 4 ii_ 6 ≤ 652 + k_ ∧ 0 ≤ S_.1 4 ii_ 7 ∧ S_.1 4 ii_ 7 ≤ k_) ∧ (cdf ii_ S0_ S_) ∧ True) → ((30000 - k_).toNat) < nn_ → sm_T (mt_P sc_) 3 82 (74, [some (.inr (.inr (some (4, ii_)))), some (.inr (.inr (some (0, bb_)))), some (.inl a2_), some (.inl k_)], [], S_) (fun ro9_ => ∃ u_ S1_, ro9_ = (.inl u_, S1_, 0) ∧ vq_82 a2_ ii_ bb_ S0_ u_ S1_)) := by
  intro nn_
  induction nn_ with
  | zero => exact ⟨fun _ _ _ _ _ h_ => absurd h_ (Nat.not_lt_zero _), fun _ _ _ _ _ h_ => absurd h_ (Nat.not_lt_zero _), fun _ _ _ _ _ h_ => absurd h_ (Nat.not_lt_zero _)⟩
  | succ nn_ ih_ =>
    refine ⟨?_, ?_, ?_⟩
    · rintro k_ S_ hI_ hF_ ⟨h0_, hC_, -⟩ hm_
      have cn_ : 0 ≤ S_.1 4 ii_ 1 ∧ S_.1 4 ii_ 1 ≤ 2000 := hI_.1 4 ii_ 1 rfl
      have bx1_ : 0 ≤ S_.1 4 ii_ 1 ∧ S_.1 4 ii_ 1 ≤ 2000 := hI_.1 4 ii_ 1 rfl
      refine sm_T_go 3 (c1 := (24, [some (.inr (.inr (some (4, ii_)))), some (.inr (.inr (some (0, bb_)))), some (.inl a2_), some (.inl k_)], [.inl (S_.1 4 ii_ 1), .inl k_], S_)) rfl ?_
      refine sm_T_br (a := 3) (z := 16) rfl (fun cx2_ => ?_) (fun cx2_ => ?_)
      · have cx2_ : (S_.1 4 ii_ 1) ≤ k_ := of_decide_eq_true cx2_
        have hIx3_ : gi (sm_pI S_ 4 ii_ 6 0) := gi_pI hI_ (show 0 ≤ 0 ∧ 0 ≤ 2652 from ⟨by omega, by omega⟩)
        have hFx4_ : ai_fr (sx_W vw_82) S0_ (sm_pI S_ 4 ii_ 6 0) := ai_fr_tr hF_ (ai_fr_pI rfl)
        have hCx5_ : cdf ii_ S0_ (sm_pI S_ 4 ii_ 6 0) := cdf_pI hC_ (Or.inr (by rw [show cof 4 = 0 from rfl] <;> omega))
        refine sm_T_go 5 (c1 := (47, [some (.inr (.inr (some (4, ii_)))), some (.inr (.inr (some (0, bb_)))), some (.inl a2_), some (.inl 0)], [], sm_pI S_ 4 ii_ 6 0)) rfl ?_
        refine ih_.2.1 0 (sm_pI S_ 4 ii_ 6 0) hIx3_ hFx4_ ⟨?_, ?_, trivial⟩ ?_
        · ((try simp only [rd_lf, rd_fl, rf_eq, rf_nk, rf_nt, rd_fa, rd_af, ne_eq, Nat.reduceEqDiff, not_false_eq_true]); omega)
        · exact hCx5_
        · omega
      · have cx2_ : ¬ ((S_.1 4 ii_ 1) ≤ k_) := of_decide_eq_false cx2_
        refine sm_T_go 4 (c1 := (33, [some (.inr (.inr (some (4, ii_)))), some (.inr (.inr (some (0, bb_)))), some (.inl a2_), some (.inl k_)], [.inl 0, .inl k_, .inr (.inr (some (53, (0 + ii_))))], S_)) rfl ?_
        refine sm_T_iast (n := 2000) rfl rfl (by omega) (by omega) ?_
        have hIx6_ : gi (sm_aI S_ 53 (0 + ii_) k_.toNat 0) := gi_aI hI_ (show 0 ≤ 0 ∧ 0 ≤ 1 from ⟨by omega, by omega⟩)
        have hFx7_ : ai_fr (sx_W vw_82) S0_ (sm_aI S_ 53 (0 + ii_) k_.toNat 0) := ai_fr_tr hF_ (ai_fr_aI rfl)
        have hCx8_ : cdf ii_ S0_ (sm_aI S_ 53 (0 + ii_) k_.toNat 0) := cdf_aI hC_ (Or.inr (by rw [show cof 53 = 0 from rfl] <;> omega))
        refine sm_T_inc (a := 3) (z := 1) (v := k_) (w := k_ + 1) rfl rfl (by omega) (by omega) (by omega) ?_ -- pc_ 34
        refine sm_T_go 1 (c1 := (19, [some (.inr (.inr (some (4, ii_)))), some (.inr (.inr (some (0, bb_)))), some (.inl a2_), some (.inl (k_ + 1))], [], sm_aI S_ 53 (0 + ii_) k_.toNat 0)) rfl ?_
        refine ih_.1 (k_ + 1) (sm_aI S_ 53 (0 + ii_) k_.toNat 0) hIx6_ hFx7_ ⟨?_, ?_, trivial⟩ ?_
        · omega
        · exact hCx8_
        · omega
    · rintro k_ S_ hI_ hF_ ⟨h0_, hC_, -⟩ hm_
      have cn_ : 0 ≤ S_.1 4 ii_ 1 ∧ S_.1 4 ii_ 1 ≤ 2000 := hI_.1 4 ii_ 1 rfl
      refine sm_T_go 2 (c1 := (51, [some (.inr (.inr (some (4, ii_)))), some (.inr (.inr (some (0, bb_)))), some (.inl a2_), some (.inl k_)], [.inl 652, .inl k_], S_)) rfl ?_
      refine sm_T_br (a := 3) (z := 16) rfl (fun cx1_ => ?_) (fun cx1_ => ?_)
      · have cx1_ : 652 ≤ k_ := of_decide_eq_true cx1_
        have hIx2_ : gi (sm_pI S_ 4 ii_ 7 0) := gi_pI hI_ (show (-700) ≤ 0 ∧ 0 ≤ 2000 from ⟨by omega, by omega⟩)
        have hFx3_ : ai_fr (sx_W vw_82) S0_ (sm_pI S_ 4 ii_ 7 0) := ai_fr_tr hF_ (ai_fr_pI rfl)
        have hCx4_ : cdf ii_ S0_ (sm_pI S_ 4 ii_ 7 0) := cdf_pI hC_ (Or.inr (by rw [show cof 4 = 0 from rfl] <;> omega))
        refine sm_T_go 5 (c1 := (74, [some (.inr (.inr (some (4, ii_)))), some (.inr (.inr (some (0, bb_)))), some (.inl a2_), some (.inl 0)], [], sm_pI S_ 4 ii_ 7 0)) rfl ?_
        refine ih_.2.2 0 (sm_pI S_ 4 ii_ 7 0) hIx2_ hFx3_ ⟨?_, ?_, trivial⟩ ?_
        · ((try simp only [rd_lf, rd_fl, rf_eq, rf_nk, rf_nt, rd_fa, rd_af, ne_eq, Nat.reduceEqDiff, not_false_eq_true]); omega)
        · exact hCx4_
        · omega
      · have cx1_ : ¬ (652 ≤ k_) := of_decide_eq_false cx1_
        refine sm_T_go 4 (c1 := (58, [some (.inr (.inr (some (4, ii_)))), some (.inr (.inr (some (0, bb_)))), some (.inl a2_), some (.inl k_)], [.inl a2_, .inl k_, .inr (.inr (some (0, bb_))), .inr (.inr (some (4, ii_)))], S_)) rfl ?_
        refine sm_T_cal (d1 := 1) (Q1 := vq_85 k_ a2_ ii_ bb_ S_) rfl rfl (by decide) (vc_85 k_ a2_ ii_ bb_ S_ hI_ (by omega) (by omega) (by omega)) (fun u_ Sx5_ px8_ => ?_)
        obtain ⟨rfl, hIx6_, hFx7_, px8_⟩ := px8_
        have hFx9_ : ai_fr (sx_W vw_82) S0_ Sx5_ := ai_fr_tr hF_ (fr_le hFx7_ rfl)
        obtain ⟨dx11_, px8_⟩ := px8_
        have hCx10_ : cdf ii_ S0_ Sx5_ := cdf_tr hC_ (cdf_cg (by omega) dx11_)
        have f58_ := px8_
        have c58_ : 0 ≤ Sx5_.1 4 ii_ 6 ∧ Sx5_.1 4 ii_ 6 ≤ 2652 := hIx6_.1 4 ii_ 6 rfl
        refine sm_T_inc (a := 3) (z := 1) (v := k_) (w := k_ + 1) rfl rfl (by omega) (by omega) (by omega) ?_ -- pc_ 61
        refine sm_T_go 1 (c1 := (47, [some (.inr (.inr (some (4, ii_)))), some (.inr (.inr (some (0, bb_)))), some (.inl a2_), some (.inl (k_ + 1))], [], Sx5_)) rfl ?_
        refine ih_.2.1 (k_ + 1) Sx5_ hIx6_ hFx9_ ⟨?_, ?_, trivial⟩ ?_
        · omega
        · exact hCx10_
        · omega
    · rintro k_ S_ hI_ hF_ ⟨h0_, hC_, -⟩ hm_
      have cn_ : 0 ≤ S_.1 4 ii_ 1 ∧ S_.1 4 ii_ 1 ≤ 2000 := hI_.1 4 ii_ 1 rfl
      have bx1_ : 0 ≤ S_.1 4 ii_ 1 ∧ S_.1 4 ii_ 1 ≤ 2000 := hI_.1 4 ii_ 1 rfl
      refine sm_T_go 3 (c1 := (79, [some (.inr (.inr (some (4, ii_)))), some (.inr (.inr (some (0, bb_)))), some (.inl a2_), some (.inl k_)], [.inl (S_.1 4 ii_ 1), .inl k_], S_)) rfl ?_
      refine sm_T_br (a := 3) (z := 51) rfl (fun cx2_ => ?_) (fun cx2_ => ?_)
      · have cx2_ : (S_.1 4 ii_ 1) ≤ k_ := of_decide_eq_true cx2_
        refine sm_T_go 2 (c1 := (132, [some (.inr (.inr (some (4, ii_)))), some (.inr (.inr (some (0, bb_)))), some (.inl a2_), some (.inl k_)], [.inr (.inr (some (0, bb_))), .inr (.inr (some (4, ii_)))], S_)) rfl ?_
        refine sm_T_cal (d1 := 1) (Q1 := vq_86 ii_ bb_ S_) rfl rfl (by decide) (vc_86 ii_ bb_ S_ hI_ ) (fun u_ Sx3_ px6_ => ?_)
        obtain ⟨rfl, hIx4_, hFx5_, px6_⟩ := px6_
        have hFx7_ : ai_fr (sx_W vw_82) S0_ Sx3_ := ai_fr_tr hF_ (fr_le hFx5_ rfl)
        obtain ⟨dx9_, px6_⟩ := px6_
        have hCx8_ : cdf ii_ S0_ Sx3_ := cdf_tr hC_ (cdf_cg (by omega) dx9_)
        have ex10_ : Sx3_.1 4 ii_ 1 = S_.1 4 ii_ 1 := hFx5_.1 4 ii_ 1 rfl
        refine sm_T_go 2 (c1 := (137, [some (.inr (.inr (some (4, ii_)))), some (.inr (.inr (some (0, bb_)))), some (.inl a2_), some (.inl k_)], [.inr (.inr (some (0, bb_))), .inr (.inr (some (4, ii_)))], Sx3_)) rfl ?_
        refine sm_T_cal (d1 := 1) (Q1 := vq_87 ii_ bb_ Sx3_) rfl rfl (by decide) (vc_87 ii_ bb_ Sx3_ hIx4_ (by exact bpn_fr hb_ hFx7_ rfl rfl rfl rfl)) (fun u_ Sx11_ px14_ => ?_)
        obtain ⟨rfl, hIx12_, hFx13_, px14_⟩ := px14_
        have hFx15_ : ai_fr (sx_W vw_82) S0_ Sx11_ := ai_fr_tr hFx7_ (fr_le hFx13_ rfl)
        obtain ⟨dx17_, px14_⟩ := px14_
        have hCx16_ : cdf ii_ S0_ Sx11_ := cdf_tr hCx8_ (cdf_cg (by omega) dx17_)
        refine sm_T_rv rfl ⟨_, _, rfl, rfl, hIx12_, hFx15_, ?_⟩
        refine ⟨hCx16_, ?_⟩
        trivial
      · have cx2_ : ¬ ((S_.1 4 ii_ 1) ≤ k_) := of_decide_eq_false cx2_
        refine sm_T_go 3 (c1 := (87, [some (.inr (.inr (some (4, ii_)))), some (.inr (.inr (some (0, bb_)))), some (.inl a2_), some (.inl k_)], [.inl k_, .inr (.inr (some (51, (0 + ii_))))], S_)) rfl ?_
        refine sm_T_iald (n := 2000) rfl rfl (by omega) (by omega) ?_
        have bx18_ : 0 ≤ S_.2.2.1 51 (0 + ii_) k_.toNat ∧ S_.2.2.1 51 (0 + ii_) k_.toNat ≤ 1999 := hI_.2 51 (0 + ii_) _
        refine sm_T_go 1 (c1 := (89, [some (.inr (.inr (some (4, ii_)))), some (.inr (.inr (some (0, bb_)))), some (.inl a2_), some (.inl k_)], [.inl k_, .inl (S_.2.2.1 51 (0 + ii_) k_.toNat)], S_)) rfl ?_
        refine sm_T_br (a := 1) (z := 35) rfl (fun cx19_ => ?_) (fun cx19_ => ?_)
        · have cx19_ : (S_.2.2.1 51 (0 + ii_) k_.toNat) ≠ k_ := of_decide_eq_true cx19_
          refine sm_T_inc (a := 3) (z := 1) (v := k_) (w := k_ + 1) rfl rfl (by omega) (by omega) (by omega) ?_ -- pc_ 124
          refine sm_T_go 1 (c1 := (74, [some (.inr (.inr (some (4, ii_)))), some (.inr (.inr (some (0, bb_)))), some (.inl a2_), some (.inl (k_ + 1))], [], S_)) rfl ?_
          refine ih_.2.2 (k_ + 1) S_ hI_ hF_ ⟨?_, ?_, trivial⟩ ?_
          · ((try simp only [rd_lf, rd_fl, rf_eq, rf_nk, rf_nt, rd_fa, rd_af, ne_eq, Nat.reduceEqDiff, not_false_eq_true]); omega)
          · exact hC_
          · omega
        · have cx19_ : ¬ ((S_.2.2.1 51 (0 + ii_) k_.toNat) ≠ k_) := of_decide_eq_false cx19_
          have bx20_ : 0 ≤ S_.1 4 ii_ 6 ∧ S_.1 4 ii_ 6 ≤ 2652 := hI_.1 4 ii_ 6 rfl
          refine sm_T_go 6 (c1 := (102, [some (.inr (.inr (some (4, ii_)))), some (.inr (.inr (some (0, bb_)))), some (.inl a2_), some (.inl k_)], [.inl k_, .inr (.inr (some (53, (0 + ii_)))), .inl (S_.1 4 ii_ 6), .inr (.inr (some (4, ii_)))], S_)) rfl ?_
          refine sm_T_iald (n := 2000) rfl rfl (by omega) (by omega) ?_
          have bx21_ : 0 ≤ S_.2.2.1 53 (0 + ii_) k_.toNat ∧ S_.2.2.1 53 (0 + ii_) k_.toNat ≤ 1 := hI_.2 53 (0 + ii_) _
          refine sm_T_bin (w := (S_.1 4 ii_ 6) + (S_.2.2.1 53 (0 + ii_) k_.toNat)) rfl (bi_add (by omega) (by omega) (by omega)) ?_ -- pc_ 103
          have hIx22_ : gi (sm_pI S_ 4 ii_ 6 ((S_.1 4 ii_ 6) + (S_.2.2.1 53 (0 + ii_) k_.toNat))) := gi_pI hI_ (show 0 ≤ (S_.1 4 ii_ 6) + (S_.2.2.1 53 (0 + ii_) k_.toNat) ∧ (S_.1 4 ii_ 6) + (S_.2.2.1 53 (0 + ii_) k_.toNat) ≤ 2652 from ⟨by omega, by omega⟩)
          have hFx23_ : ai_fr (sx_W vw_82) S0_ (sm_pI S_ 4 ii_ 6 ((S_.1 4 ii_ 6) + (S_.2.2.1 53 (0 + ii_) k_.toNat))) := ai_fr_tr hF_ (ai_fr_pI rfl)
          have hCx24_ : cdf ii_ S0_ (sm_pI S_ 4 ii_ 6 ((S_.1 4 ii_ 6) + (S_.2.2.1 53 (0 + ii_) k_.toNat))) := cdf_pI hC_ (Or.inr (by rw [show cof 4 = 0 from rfl] <;> omega))
          have bx25_ : (-700) ≤ S_.1 4 ii_ 7 ∧ S_.1 4 ii_ 7 ≤ 2000 := hI_.1 4 ii_ 7 rfl
          have ex26_ : (sm_pI S_ 4 ii_ 6 ((S_.1 4 ii_ 6) + (S_.2.2.1 53 (0 + ii_) k_.toNat))).1 4 ii_ 7 = (S_.1 4 ii_ 7) := by (try simp only [rf_eq, rf_nk, rf_nt, rd_fa, rd_af, ne_eq, Nat.reduceEqDiff, not_false_eq_true])
          refine sm_T_go 8 (c1 := (118, [some (.inr (.inr (some (4, ii_)))), some (.inr (.inr (some (0, bb_)))), some (.inl a2_), some (.inl k_)], [.inl k_, .inr (.inr (some (53, (0 + ii_)))), .inl 1, .inl ((sm_pI S_ 4 ii_ 6 ((S_.1 4 ii_ 6) + (S_.2.2.1 53 (0 + ii_) k_.toNat))).1 4 ii_ 7), .inr (.inr (some (4, ii_)))], sm_pI S_ 4 ii_ 6 ((S_.1 4 ii_ 6) + (S_.2.2.1 53 (0 + ii_) k_.toNat)))) rfl ?_
          refine sm_T_iald (n := 2000) rfl rfl (by omega) (by omega) ?_
          refine sm_T_go 0 (c1 := (119, [some (.inr (.inr (some (4, ii_)))), some (.inr (.inr (some (0, bb_)))), some (.inl a2_), some (.inl k_)], [.inl (S_.2.2.1 53 (0 + ii_) k_.toNat), .inl 1, .inl ((sm_pI S_ 4 ii_ 6 ((S_.1 4 ii_ 6) + (S_.2.2.1 53 (0 + ii_) k_.toNat))).1 4 ii_ 7), .inr (.inr (some (4, ii_)))], sm_pI S_ 4 ii_ 6 ((S_.1 4 ii_ 6) + (S_.2.2.1 53 (0 + ii_) k_.toNat)))) rfl ?_
          refine sm_T_bin (w := -(S_.2.2.1 53 (0 + ii_) k_.toNat) + 1) rfl (bi_sub (by omega) (by omega) (by omega)) ?_ -- pc_ 119
          refine sm_T_bin (w := ((sm_pI S_ 4 ii_ 6 ((S_.1 4 ii_ 6) + (S_.2.2.1 53 (0 + ii_) k_.toNat))).1 4 ii_ 7) - (S_.2.2.1 53 (0 + ii_) k_.toNat) + 1) rfl (bi_add (by omega) (by omega) (by omega)) ?_ -- pc_ 120
          have hIx27_ : gi (sm_pI (sm_pI S_ 4 ii_ 6 ((S_.1 4 ii_ 6) + (S_.2.2.1 53 (0 + ii_) k_.toNat))) 4 ii_ 7 (((sm_pI S_ 4 ii_ 6 ((S_.1 4 ii_ 6) + (S_.2.2.1 53 (0 + ii_) k_.toNat))).1 4 ii_ 7) - (S_.2.2.1 53 (0 + ii_) k_.toNat) + 1)) := gi_pI hIx22_ (show (-700) ≤ ((sm_pI S_ 4 ii_ 6 ((S_.1 4 ii_ 6) + (S_.2.2.1 53 (0 + ii_) k_.toNat))).1 4 ii_ 7) - (S_.2.2.1 53 (0 + ii_) k_.toNat) + 1 ∧ ((sm_pI S_ 4 ii_ 6 ((S_.1 4 ii_ 6) + (S_.2.2.1 53 (0 + ii_) k_.toNat))).1 4 ii_ 7) - (S_.2.2.1 53 (0 + ii_) k_.toNat) + 1 ≤ 2000 from ⟨by omega, by omega⟩)
          have hFx28_ : ai_fr (sx_W vw_82) S0_ (sm_pI (sm_pI S_ 4 ii_ 6 ((S_.1 4 ii_ 6) + (S_.2.2.1 53 (0 + ii_) k_.toNat))) 4 ii_ 7 (((sm_pI S_ 4 ii_ 6 ((S_.1 4 ii_ 6) + (S_.2.2.1 53 (0 + ii_) k_.toNat))).1 4 ii_ 7) - (S_.2.2.1 53 (0 + ii_) k_.toNat) + 1)) := ai_fr_tr hFx23_ (ai_fr_pI rfl)
          have hCx29_ : cdf ii_ S0_ (sm_pI (sm_pI S_ 4 ii_ 6 ((S_.1 4 ii_ 6) + (S_.2.2.1 53 (0 + ii_) k_.toNat))) 4 ii_ 7 (((sm_pI S_ 4 ii_ 6 ((S_.1 4 ii_ 6) + (S_.2.2.1 53 (0 + ii_) k_.toNat))).1 4 ii_ 7) - (S_.2.2.1 53 (0 + ii_) k_.toNat) + 1)) := cdf_pI hCx24_ (Or.inr (by rw [show cof 4 = 0 from rfl] <;> omega))
          refine sm_T_go 1 (c1 := (124, [some (.inr (.inr (some (4, ii_)))), some (.inr (.inr (some (0, bb_)))), some (.inl a2_), some (.inl k_)], [], sm_pI (sm_pI S_ 4 ii_ 6 ((S_.1 4 ii_ 6) + (S_.2.2.1 53 (0 + ii_) k_.toNat))) 4 ii_ 7 (((sm_pI S_ 4 ii_ 6 ((S_.1 4 ii_ 6) + (S_.2.2.1 53 (0 + ii_) k_.toNat))).1 4 ii_ 7) - (S_.2.2.1 53 (0 + ii_) k_.toNat) + 1))) rfl ?_
          refine sm_T_inc (a := 3) (z := 1) (v := k_) (w := k_ + 1) rfl rfl (by omega) (by omega) (by omega) ?_ -- pc_ 124
          refine sm_T_go 1 (c1 := (74, [some (.inr (.inr (some (4, ii_)))), some (.inr (.inr (some (0, bb_)))), some (.inl a2_), some (.inl (k_ + 1))], [], sm_pI (sm_pI S_ 4 ii_ 6 ((S_.1 4 ii_ 6) + (S_.2.2.1 53 (0 + ii_) k_.toNat))) 4 ii_ 7 (((sm_pI S_ 4 ii_ 6 ((S_.1 4 ii_ 6) + (S_.2.2.1 53 (0 + ii_) k_.toNat))).1 4 ii_ 7) - (S_.2.2.1 53 (0 + ii_) k_.toNat) + 1))) rfl ?_
          refine ih_.2.2 (k_ + 1) (sm_pI (sm_pI S_ 4 ii_ 6 ((S_.1 4 ii_ 6) + (S_.2.2.1 53 (0 + ii_) k_.toNat))) 4 ii_ 7 (((sm_pI S_ 4 ii_ 6 ((S_.1 4 ii_ 6) + (S_.2.2.1 53 (0 + ii_) k_.toNat))).1 4 ii_ 7) - (S_.2.2.1 53 (0 + ii_) k_.toNat) + 1)) hIx27_ hFx28_ ⟨?_, ?_, trivial⟩ ?_
          · ((try simp only [rd_lf, rd_fl, rf_eq, rf_nk, rf_nt, rd_fa, rd_af, ne_eq, Nat.reduceEqDiff, not_false_eq_true]); omega)
          · exact hCx29_
          · omega
set_option maxHeartbeats 400000 in
theorem vc_82 {sc_ : Nat × (Nat → Int)} (a2_ : Int) (ii_ : Nat) (bb_ : Nat) (S0_ : sm_S) (hI_ : gi S0_) (hb_ : bpn bb_ S0_) (h2_ : 0 ≤ a2_ ∧ a2_ ≤ 6) : sm_T (mt_P sc_) 3 82 (0, [some (.inr (.inr (some (4, ii_)))), some (.inr (.inr (some (0, bb_)))), some (.inl a2_), none], [], S0_) (fun ro9_ => ∃ u_ S1_, ro9_ = (.inl u_, S1_, 0) ∧ vq_82 a2_ ii_ bb_ S0_ u_ S1_) := by
  have hF_ : ai_fr (sx_W vw_82) S0_ S0_ := ai_fr_rf
  have hC_ : cdf ii_ S0_ S0_ := cdf_rf
  have bx1_ : 0 ≤ S0_.1 4 ii_ 10 ∧ S0_.1 4 ii_ 10 ≤ 1 := hI_.1 4 ii_ 10 rfl
  refine sm_T_go 2 (c1 := (4, [some (.inr (.inr (some (4, ii_)))), some (.inr (.inr (some (0, bb_)))), some (.inl a2_), none], [.inl (S0_.1 4 ii_ 10)], S0_)) rfl ?_
  refine sm_T_b0 (a := 0) (z := 4) rfl (fun cx2_ => ?_) (fun cx2_ => ?_)
  · have cx2_ : (S0_.1 4 ii_ 10) = 0 := of_decide_eq_true cx2_
    have hIx3_ : gi (sm_pI S0_ 4 ii_ 10 1) := gi_pI hI_ (show 0 ≤ 1 ∧ 1 ≤ 1 from ⟨by omega, by omega⟩)
    have hFx4_ : ai_fr (sx_W vw_82) S0_ (sm_pI S0_ 4 ii_ 10 1) := ai_fr_tr hF_ (ai_fr_pI rfl)
    have hCx5_ : cdf ii_ S0_ (sm_pI S0_ 4 ii_ 10 1) := cdf_pI hC_ (Or.inr (by rw [show cof 4 = 0 from rfl] <;> omega))
    refine sm_T_go 4 (c1 := (14, [some (.inr (.inr (some (4, ii_)))), some (.inr (.inr (some (0, bb_)))), some (.inl a2_), none], [.inr (.inr (some (4, ii_)))], sm_pI S0_ 4 ii_ 10 1)) rfl ?_
    refine sm_T_cal (d1 := 1) (Q1 := vq_83 ii_ (sm_pI S0_ 4 ii_ 10 1)) rfl rfl (by decide) (vc_83 ii_ (sm_pI S0_ 4 ii_ 10 1) hIx3_ ) (fun u_ Sx6_ px9_ => ?_)
    obtain ⟨rfl, hIx7_, hFx8_, px9_⟩ := px9_
    have hFx10_ : ai_fr (sx_W vw_82) S0_ Sx6_ := ai_fr_tr hFx4_ (fr_le hFx8_ rfl)
    obtain ⟨dx12_, px9_⟩ := px9_
    have hCx11_ : cdf ii_ S0_ Sx6_ := cdf_tr hCx5_ (cdf_cg (by omega) dx12_)
    refine sm_T_go 2 (c1 := (19, [some (.inr (.inr (some (4, ii_)))), some (.inr (.inr (some (0, bb_)))), some (.inl a2_), some (.inl 0)], [], Sx6_)) rfl ?_
    refine (vl_82 a2_ ii_ bb_ S0_ hb_ h2_ _).1 0 Sx6_ hIx7_ hFx10_ ⟨?_, ?_, trivial⟩ (Nat.lt_succ_self _)
    · omega
    · exact hCx11_
  · have cx2_ : ¬ ((S0_.1 4 ii_ 10) = 0) := of_decide_eq_false cx2_
    refine sm_T_rv rfl ⟨_, _, rfl, rfl, hI_, hF_, ?_⟩
    refine ⟨hC_, ?_⟩
    trivial
