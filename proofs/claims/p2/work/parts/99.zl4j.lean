/-! Layout.findPin -/
def vw_85 : sx_Wl := ([(4, 6)], [51, 52, 53], [])
def vq_85 (a2_ : Int) (a3_ : Int) (ii_ : Nat) (bb_ : Nat) (S0_ : sm_S) (u_ : Option sm_V) (S1_ : sm_S) : Prop := u_ = none ∧ gi S1_ ∧ ai_fr (sx_W vw_85) S0_ S1_ ∧ (cdf ii_ S0_ S1_ ∧ (S1_.1 4 ii_ 6 ≤ S0_.1 4 ii_ 6 + 1))
set_option maxHeartbeats 400000 in
set_option maxRecDepth 20000 in
theorem vl_85 {sc_ : Nat × (Nat → Int)} (a2_ : Int) (a3_ : Int) (ii_ : Nat) (bb_ : Nat) (S0_ : sm_S) (h2_ : 0 ≤ a2_ ∧ a2_ ≤ 651) (h3_ : 0 ≤ a3_ ∧ a3_ ≤ 6) (hp_ : S0_.1 4 ii_ 6 ≤ 2651) : ∀ nn_ : Nat, (∀ (td_ : Int) (x_ : Int) (y_ : Int) (k_ : Int) (S_ : sm_S), gi S_ → ai_fr (sx_W vw_85) S0_ S_ → ((0 ≤ td_ ∧ td_ ≤ 1 ∧ 0 ≤ k_ ∧ k_ ≤ 2000 ∧ 0 ≤ x_ ∧ x_ ≤ 300 ∧ 0 ≤ y_ ∧ y_ ≤ 300) ∧ (S_.1 4 ii_ 6 = S0_.1 4 ii_ 6) ∧ (cdf ii_ S0_ S_) ∧ True) → ((3000 - k_).toNat) < nn_ → sm_T (mt_P sc_) 1 85 (76, [some (.inr (.inr (some (4, ii_)))), some (.inr (.inr (some (0, bb_)))), some (.inl a2_), some (.inl a3_), some (.inl td_), some (.inl x_), some (.inl y_), some (.inl k_), none, none], [], S_) (fun ro9_ => ∃ u_ S1_, ro9_ = (.inl u_, S1_, 0) ∧ vq_85 a2_ a3_ ii_ bb_ S0_ u_ S1_)) := by
  intro nn_
  induction nn_ with
  | zero => exact fun _ _ _ _ _ _ _ _ h_ => absurd h_ (Nat.not_lt_zero _)
  | succ nn_ ih_ =>
    rintro td_ x_ y_ k_ S_ hI_ hF_ ⟨h0_, h6_, hC_, -⟩ hm_
    have cn_ : 0 ≤ S_.1 4 ii_ 1 ∧ S_.1 4 ii_ 1 ≤ 2000 := hI_.1 4 ii_ 1 rfl
    have bx1_ : 0 ≤ S_.1 4 ii_ 1 ∧ S_.1 4 ii_ 1 ≤ 2000 := hI_.1 4 ii_ 1 rfl
    refine sm_T_go 3 (c1 := (82, [some (.inr (.inr (some (4, ii_)))), some (.inr (.inr (some (0, bb_)))), some (.inl a2_), some (.inl a3_), some (.inl td_), some (.inl x_), some (.inl y_), some (.inl k_), none, none], [.inl (S_.1 4 ii_ 1), .inl k_], S_)) rfl ?_
    refine sm_T_br (a := 3) (z := 118) rfl (fun cx2_ => ?_) (fun cx2_ => ?_)
    · have cx2_ : (S_.1 4 ii_ 1) ≤ k_ := of_decide_eq_true cx2_
      have bx3_ : 0 ≤ S_.1 4 ii_ 6 ∧ S_.1 4 ii_ 6 ≤ 2652 := hI_.1 4 ii_ 6 rfl
      refine sm_T_go 4 (c1 := (207, [some (.inr (.inr (some (4, ii_)))), some (.inr (.inr (some (0, bb_)))), some (.inl a2_), some (.inl a3_), some (.inl td_), some (.inl x_), some (.inl y_), some (.inl k_), none, none], [.inl td_, .inl (S_.1 4 ii_ 6), .inr (.inr (some (4, ii_)))], S_)) rfl ?_
      refine sm_T_b0 (a := 0) (z := 7) rfl (fun cx4_ => ?_) (fun cx4_ => ?_)
      · have cx4_ : td_ = 0 := of_decide_eq_true cx4_
        refine sm_T_go 1 (c1 := (215, [some (.inr (.inr (some (4, ii_)))), some (.inr (.inr (some (0, bb_)))), some (.inl a2_), some (.inl a3_), some (.inl td_), some (.inl x_), some (.inl y_), some (.inl k_), none, none], [.inl 1, .inl (S_.1 4 ii_ 6), .inr (.inr (some (4, ii_)))], S_)) rfl ?_
        refine sm_T_bin (w := (S_.1 4 ii_ 6) + 1) rfl (bi_add (by omega) (by omega) (by omega)) ?_ -- pc_ 215
        have hIx5_ : gi (sm_pI S_ 4 ii_ 6 ((S_.1 4 ii_ 6) + 1)) := gi_pI hI_ (show 0 ≤ (S_.1 4 ii_ 6) + 1 ∧ (S_.1 4 ii_ 6) + 1 ≤ 2652 from ⟨by omega, by omega⟩)
        have hFx6_ : ai_fr (sx_W vw_85) S0_ (sm_pI S_ 4 ii_ 6 ((S_.1 4 ii_ 6) + 1)) := ai_fr_tr hF_ (ai_fr_pI rfl)
        have hCx7_ : cdf ii_ S0_ (sm_pI S_ 4 ii_ 6 ((S_.1 4 ii_ 6) + 1)) := cdf_pI hC_ (Or.inr (by rw [show cof 4 = 0 from rfl] <;> omega))
        refine sm_T_go 1 (c1 := (219, [some (.inr (.inr (some (4, ii_)))), some (.inr (.inr (some (0, bb_)))), some (.inl a2_), some (.inl a3_), some (.inl td_), some (.inl x_), some (.inl y_), some (.inl k_), none, none], [], sm_pI S_ 4 ii_ 6 ((S_.1 4 ii_ 6) + 1))) rfl ?_
        refine sm_T_rv rfl ⟨_, _, rfl, rfl, hIx5_, hFx6_, ?_⟩
        refine ⟨hCx7_, ?_⟩
        ((try simp only [rd_lf, rd_fl, rf_eq, rf_nk, rf_nt, rd_fa, rd_af, ne_eq, Nat.reduceEqDiff, not_false_eq_true]); omega)
      · have cx4_ : ¬ (td_ = 0) := of_decide_eq_false cx4_
        refine sm_T_go 2 (c1 := (215, [some (.inr (.inr (some (4, ii_)))), some (.inr (.inr (some (0, bb_)))), some (.inl a2_), some (.inl a3_), some (.inl td_), some (.inl x_), some (.inl y_), some (.inl k_), none, none], [.inl 0, .inl (S_.1 4 ii_ 6), .inr (.inr (some (4, ii_)))], S_)) rfl ?_
        refine sm_T_bin (w := (S_.1 4 ii_ 6)) rfl (bi_add (by omega) (by omega) (by omega)) ?_ -- pc_ 215
        have hIx8_ : gi (sm_pI S_ 4 ii_ 6 (S_.1 4 ii_ 6)) := gi_pI hI_ (show 0 ≤ (S_.1 4 ii_ 6) ∧ (S_.1 4 ii_ 6) ≤ 2652 from ⟨by omega, by omega⟩)
        have hFx9_ : ai_fr (sx_W vw_85) S0_ (sm_pI S_ 4 ii_ 6 (S_.1 4 ii_ 6)) := ai_fr_tr hF_ (ai_fr_pI rfl)
        have hCx10_ : cdf ii_ S0_ (sm_pI S_ 4 ii_ 6 (S_.1 4 ii_ 6)) := cdf_pI hC_ (Or.inr (by rw [show cof 4 = 0 from rfl] <;> omega))
        refine sm_T_go 1 (c1 := (219, [some (.inr (.inr (some (4, ii_)))), some (.inr (.inr (some (0, bb_)))), some (.inl a2_), some (.inl a3_), some (.inl td_), some (.inl x_), some (.inl y_), some (.inl k_), none, none], [], sm_pI S_ 4 ii_ 6 (S_.1 4 ii_ 6))) rfl ?_
        refine sm_T_rv rfl ⟨_, _, rfl, rfl, hIx8_, hFx9_, ?_⟩
        refine ⟨hCx10_, ?_⟩
        ((try simp only [rd_lf, rd_fl, rf_eq, rf_nk, rf_nt, rd_fa, rd_af, ne_eq, Nat.reduceEqDiff, not_false_eq_true]); omega)
    · have cx2_ : ¬ ((S_.1 4 ii_ 1) ≤ k_) := of_decide_eq_false cx2_
      refine sm_T_go 2 (c1 := (88, [some (.inr (.inr (some (4, ii_)))), some (.inr (.inr (some (0, bb_)))), some (.inl a2_), some (.inl a3_), some (.inl td_), some (.inl x_), some (.inl y_), some (.inl k_), none, none], [.inl k_, .inl 5], S_)) rfl ?_
      refine sm_T_bin (w := 5 * k_) rfl (bi_mul (by omega) (by omega) (by omega)) ?_ -- pc_ 88
      refine sm_T_go 4 (c1 := (97, [some (.inr (.inr (some (4, ii_)))), some (.inr (.inr (some (0, bb_)))), some (.inl a2_), some (.inl a3_), some (.inl td_), some (.inl x_), some (.inl y_), some (.inl k_), some (.inl (5 * k_)), none], [.inl (5 * k_), .inr (.inr (some (48, (0 + ii_))))], S_)) rfl ?_
      refine sm_T_iald (n := 10000) rfl rfl (by omega) (by omega) ?_
      have bx11_ : (-1000) ≤ S_.2.2.1 48 (0 + ii_) (5 * k_).toNat ∧ S_.2.2.1 48 (0 + ii_) (5 * k_).toNat ≤ 1000 := hI_.2 48 (0 + ii_) _
      refine sm_T_b0 (a := 1) (z := 63) rfl (fun cx12_ => ?_) (fun cx12_ => ?_)
      · have cx12_ : (S_.2.2.1 48 (0 + ii_) (5 * k_).toNat) ≠ 0 := of_decide_eq_true cx12_
        refine sm_T_go 4 (c1 := (194, [some (.inr (.inr (some (4, ii_)))), some (.inr (.inr (some (0, bb_)))), some (.inl a2_), some (.inl a3_), some (.inl td_), some (.inl x_), some (.inl y_), some (.inl k_), some (.inl (5 * k_)), some (.inl 0)], [], S_)) rfl ?_
        refine sm_T_inc (a := 7) (z := 1) (v := k_) (w := k_ + 1) rfl rfl (by omega) (by omega) (by omega) ?_ -- pc_ 194
        refine sm_T_go 1 (c1 := (76, [some (.inr (.inr (some (4, ii_)))), some (.inr (.inr (some (0, bb_)))), some (.inl a2_), some (.inl a3_), some (.inl td_), some (.inl x_), some (.inl y_), some (.inl (k_ + 1)), some (.inl (5 * k_)), some (.inl 0)], [], S_)) rfl ?_
        refine sm_T_wk [some (.inr (.inr (some (4, ii_)))), some (.inr (.inr (some (0, bb_)))), some (.inl a2_), some (.inl a3_), some (.inl td_), some (.inl x_), some (.inl y_), some (.inl (k_ + 1)), none, none] (by exact ⟨rfl, rfl, rfl, rfl, rfl, rfl, rfl, rfl, trivial⟩) ?_
        refine ih_ td_ x_ y_ (k_ + 1) S_ hI_ hF_ ⟨?_, ?_, ?_, trivial⟩ ?_
        · omega
        · exact h6_
        · exact hC_
        · omega
      · have cx12_ : ¬ ((S_.2.2.1 48 (0 + ii_) (5 * k_).toNat) ≠ 0) := of_decide_eq_false cx12_
        refine sm_T_go 4 (c1 := (108, [some (.inr (.inr (some (4, ii_)))), some (.inr (.inr (some (0, bb_)))), some (.inl a2_), some (.inl a3_), some (.inl td_), some (.inl x_), some (.inl y_), some (.inl k_), some (.inl (5 * k_)), none], [.inl 1, .inl (5 * k_), .inr (.inr (some (48, (0 + ii_))))], S_)) rfl ?_
        refine sm_T_bin (w := 5 * k_ + 1) rfl (bi_add (by omega) (by omega) (by omega)) ?_ -- pc_ 108
        refine sm_T_iald (n := 10000) rfl rfl (by omega) (by omega) ?_
        have bx13_ : (-1000) ≤ S_.2.2.1 48 (0 + ii_) (5 * k_ + 1).toNat ∧ S_.2.2.1 48 (0 + ii_) (5 * k_ + 1).toNat ≤ 1000 := hI_.2 48 (0 + ii_) _
        refine sm_T_go 1 (c1 := (112, [some (.inr (.inr (some (4, ii_)))), some (.inr (.inr (some (0, bb_)))), some (.inl a2_), some (.inl a3_), some (.inl td_), some (.inl x_), some (.inl y_), some (.inl k_), some (.inl (5 * k_)), none], [.inl x_, .inl (S_.2.2.1 48 (0 + ii_) (5 * k_ + 1).toNat)], S_)) rfl ?_
        refine sm_T_br (a := 4) (z := 49) rfl (fun cx14_ => ?_) (fun cx14_ => ?_)
        · have cx14_ : x_ < (S_.2.2.1 48 (0 + ii_) (5 * k_ + 1).toNat) := of_decide_eq_true cx14_
          refine sm_T_go 4 (c1 := (194, [some (.inr (.inr (some (4, ii_)))), some (.inr (.inr (some (0, bb_)))), some (.inl a2_), some (.inl a3_), some (.inl td_), some (.inl x_), some (.inl y_), some (.inl k_), some (.inl (5 * k_)), some (.inl 0)], [], S_)) rfl ?_
          refine sm_T_inc (a := 7) (z := 1) (v := k_) (w := k_ + 1) rfl rfl (by omega) (by omega) (by omega) ?_ -- pc_ 194
          refine sm_T_go 1 (c1 := (76, [some (.inr (.inr (some (4, ii_)))), some (.inr (.inr (some (0, bb_)))), some (.inl a2_), some (.inl a3_), some (.inl td_), some (.inl x_), some (.inl y_), some (.inl (k_ + 1)), some (.inl (5 * k_)), some (.inl 0)], [], S_)) rfl ?_
          refine sm_T_wk [some (.inr (.inr (some (4, ii_)))), some (.inr (.inr (some (0, bb_)))), some (.inl a2_), some (.inl a3_), some (.inl td_), some (.inl x_), some (.inl y_), some (.inl (k_ + 1)), none, none] (by exact ⟨rfl, rfl, rfl, rfl, rfl, rfl, rfl, rfl, trivial⟩) ?_
          refine ih_ td_ x_ y_ (k_ + 1) S_ hI_ hF_ ⟨?_, ?_, ?_, trivial⟩ ?_
          · omega
          · exact h6_
          · exact hC_
          · omega
        · have cx14_ : ¬ (x_ < (S_.2.2.1 48 (0 + ii_) (5 * k_ + 1).toNat)) := of_decide_eq_false cx14_
          refine sm_T_go 5 (c1 := (124, [some (.inr (.inr (some (4, ii_)))), some (.inr (.inr (some (0, bb_)))), some (.inl a2_), some (.inl a3_), some (.inl td_), some (.inl x_), some (.inl y_), some (.inl k_), some (.inl (5 * k_)), none], [.inl 3, .inl (5 * k_), .inr (.inr (some (48, (0 + ii_)))), .inl x_], S_)) rfl ?_
          refine sm_T_bin (w := 5 * k_ + 3) rfl (bi_add (by omega) (by omega) (by omega)) ?_ -- pc_ 124
          refine sm_T_iald (n := 10000) rfl rfl (by omega) (by omega) ?_
          have bx15_ : (-1000) ≤ S_.2.2.1 48 (0 + ii_) (5 * k_ + 3).toNat ∧ S_.2.2.1 48 (0 + ii_) (5 * k_ + 3).toNat ≤ 1000 := hI_.2 48 (0 + ii_) _
          refine sm_T_br (a := 4) (z := 35) rfl (fun cx16_ => ?_) (fun cx16_ => ?_)
          · have cx16_ : (S_.2.2.1 48 (0 + ii_) (5 * k_ + 3).toNat) < x_ := of_decide_eq_true cx16_
            refine sm_T_go 4 (c1 := (194, [some (.inr (.inr (some (4, ii_)))), some (.inr (.inr (some (0, bb_)))), some (.inl a2_), some (.inl a3_), some (.inl td_), some (.inl x_), some (.inl y_), some (.inl k_), some (.inl (5 * k_)), some (.inl 0)], [], S_)) rfl ?_
            refine sm_T_inc (a := 7) (z := 1) (v := k_) (w := k_ + 1) rfl rfl (by omega) (by omega) (by omega) ?_ -- pc_ 194
            refine sm_T_go 1 (c1 := (76, [some (.inr (.inr (some (4, ii_)))), some (.inr (.inr (some (0, bb_)))), some (.inl a2_), some (.inl a3_), some (.inl td_), some (.inl x_), some (.inl y_), some (.inl (k_ + 1)), some (.inl (5 * k_)), some (.inl 0)], [], S_)) rfl ?_
            refine sm_T_wk [some (.inr (.inr (some (4, ii_)))), some (.inr (.inr (some (0, bb_)))), some (.inl a2_), some (.inl a3_), some (.inl td_), some (.inl x_), some (.inl y_), some (.inl (k_ + 1)), none, none] (by exact ⟨rfl, rfl, rfl, rfl, rfl, rfl, rfl, rfl, trivial⟩) ?_
            refine ih_ td_ x_ y_ (k_ + 1) S_ hI_ hF_ ⟨?_, ?_, ?_, trivial⟩ ?_
            · omega
            · exact h6_
            · exact hC_
            · omega
          · have cx16_ : ¬ ((S_.2.2.1 48 (0 + ii_) (5 * k_ + 3).toNat) < x_) := of_decide_eq_false cx16_
            refine sm_T_go 4 (c1 := (136, [some (.inr (.inr (some (4, ii_)))), some (.inr (.inr (some (0, bb_)))), some (.inl a2_), some (.inl a3_), some (.inl td_), some (.inl x_), some (.inl y_), some (.inl k_), some (.inl (5 * k_)), none], [.inl 2, .inl (5 * k_), .inr (.inr (some (48, (0 + ii_))))], S_)) rfl ?_
            refine sm_T_bin (w := 5 * k_ + 2) rfl (bi_add (by omega) (by omega) (by omega)) ?_ -- pc_ 136
            refine sm_T_iald (n := 10000) rfl rfl (by omega) (by omega) ?_
            have bx17_ : (-1000) ≤ S_.2.2.1 48 (0 + ii_) (5 * k_ + 2).toNat ∧ S_.2.2.1 48 (0 + ii_) (5 * k_ + 2).toNat ≤ 1000 := hI_.2 48 (0 + ii_) _
            refine sm_T_go 1 (c1 := (140, [some (.inr (.inr (some (4, ii_)))), some (.inr (.inr (some (0, bb_)))), some (.inl a2_), some (.inl a3_), some (.inl td_), some (.inl x_), some (.inl y_), some (.inl k_), some (.inl (5 * k_)), none], [.inl y_, .inl (S_.2.2.1 48 (0 + ii_) (5 * k_ + 2).toNat)], S_)) rfl ?_
            refine sm_T_br (a := 4) (z := 21) rfl (fun cx18_ => ?_) (fun cx18_ => ?_)
            · have cx18_ : y_ < (S_.2.2.1 48 (0 + ii_) (5 * k_ + 2).toNat) := of_decide_eq_true cx18_
              refine sm_T_go 4 (c1 := (194, [some (.inr (.inr (some (4, ii_)))), some (.inr (.inr (some (0, bb_)))), some (.inl a2_), some (.inl a3_), some (.inl td_), some (.inl x_), some (.inl y_), some (.inl k_), some (.inl (5 * k_)), some (.inl 0)], [], S_)) rfl ?_
              refine sm_T_inc (a := 7) (z := 1) (v := k_) (w := k_ + 1) rfl rfl (by omega) (by omega) (by omega) ?_ -- pc_ 194
              refine sm_T_go 1 (c1 := (76, [some (.inr (.inr (some (4, ii_)))), some (.inr (.inr (some (0, bb_)))), some (.inl a2_), some (.inl a3_), some (.inl td_), some (.inl x_), some (.inl y_), some (.inl (k_ + 1)), some (.inl (5 * k_)), some (.inl 0)], [], S_)) rfl ?_
              refine sm_T_wk [some (.inr (.inr (some (4, ii_)))), some (.inr (.inr (some (0, bb_)))), some (.inl a2_), some (.inl a3_), some (.inl td_), some (.inl x_), some (.inl y_), some (.inl (k_ + 1)), none, none] (by exact ⟨rfl, rfl, rfl, rfl, rfl, rfl, rfl, rfl, trivial⟩) ?_
              refine ih_ td_ x_ y_ (k_ + 1) S_ hI_ hF_ ⟨?_, ?_, ?_, trivial⟩ ?_
              · omega
              · exact h6_
              · exact hC_
              · omega
            · have cx18_ : ¬ (y_ < (S_.2.2.1 48 (0 + ii_) (5 * k_ + 2).toNat)) := of_decide_eq_false cx18_
              refine sm_T_go 5 (c1 := (152, [some (.inr (.inr (some (4, ii_)))), some (.inr (.inr (some (0, bb_)))), some (.inl a2_), some (.inl a3_), some (.inl td_), some (.inl x_), some (.inl y_), some (.inl k_), some (.inl (5 * k_)), none], [.inl 4, .inl (5 * k_), .inr (.inr (some (48, (0 + ii_)))), .inl y_], S_)) rfl ?_
              refine sm_T_bin (w := 5 * k_ + 4) rfl (bi_add (by omega) (by omega) (by omega)) ?_ -- pc_ 152
              refine sm_T_iald (n := 10000) rfl rfl (by omega) (by omega) ?_
              have bx19_ : (-1000) ≤ S_.2.2.1 48 (0 + ii_) (5 * k_ + 4).toNat ∧ S_.2.2.1 48 (0 + ii_) (5 * k_ + 4).toNat ≤ 1000 := hI_.2 48 (0 + ii_) _
              refine sm_T_br (a := 4) (z := 7) rfl (fun cx20_ => ?_) (fun cx20_ => ?_)
              · have cx20_ : (S_.2.2.1 48 (0 + ii_) (5 * k_ + 4).toNat) < y_ := of_decide_eq_true cx20_
                refine sm_T_go 4 (c1 := (194, [some (.inr (.inr (some (4, ii_)))), some (.inr (.inr (some (0, bb_)))), some (.inl a2_), some (.inl a3_), some (.inl td_), some (.inl x_), some (.inl y_), some (.inl k_), some (.inl (5 * k_)), some (.inl 0)], [], S_)) rfl ?_
                refine sm_T_inc (a := 7) (z := 1) (v := k_) (w := k_ + 1) rfl rfl (by omega) (by omega) (by omega) ?_ -- pc_ 194
                refine sm_T_go 1 (c1 := (76, [some (.inr (.inr (some (4, ii_)))), some (.inr (.inr (some (0, bb_)))), some (.inl a2_), some (.inl a3_), some (.inl td_), some (.inl x_), some (.inl y_), some (.inl (k_ + 1)), some (.inl (5 * k_)), some (.inl 0)], [], S_)) rfl ?_
                refine sm_T_wk [some (.inr (.inr (some (4, ii_)))), some (.inr (.inr (some (0, bb_)))), some (.inl a2_), some (.inl a3_), some (.inl td_), some (.inl x_), some (.inl y_), some (.inl (k_ + 1)), none, none] (by exact ⟨rfl, rfl, rfl, rfl, rfl, rfl, rfl, rfl, trivial⟩) ?_
                refine ih_ td_ x_ y_ (k_ + 1) S_ hI_ hF_ ⟨?_, ?_, ?_, trivial⟩ ?_
                · omega
                · exact h6_
                · exact hC_
                · omega
              · have cx20_ : ¬ ((S_.2.2.1 48 (0 + ii_) (5 * k_ + 4).toNat) < y_) := of_decide_eq_false cx20_
                refine sm_T_go 10 (c1 := (177, [some (.inr (.inr (some (4, ii_)))), some (.inr (.inr (some (0, bb_)))), some (.inl a2_), some (.inl a3_), some (.inl td_), some (.inl x_), some (.inl y_), some (.inl k_), some (.inl (5 * k_)), some (.inl 1)], [.inl k_, .inr (.inr (some (4, ii_))), .inl a2_, .inr (.inr (some (52, (0 + ii_))))], S_)) rfl ?_
                refine sm_T_cal (d1 := 0) (Q1 := vq_84 k_ ii_ S_) rfl rfl (by decide) (vc_84 k_ ii_ S_ hI_ (by omega)) (fun u_ Sx21_ px24_ => ?_)
                obtain ⟨vx26_, rfl, hIx22_, hFx23_, px24_⟩ := px24_
                have hFx25_ : ai_fr (sx_W vw_85) S0_ Sx21_ := ai_fr_tr hF_ (fr_le hFx23_ rfl)
                obtain ⟨dx28_, px24_⟩ := px24_
                have hCx27_ : cdf ii_ S0_ Sx21_ := cdf_tr hC_ (cdf_cg (by omega) dx28_)
                have ex29_ : Sx21_.1 4 ii_ 1 = S_.1 4 ii_ 1 := hFx23_.1 4 ii_ 1 rfl
                have t1_ := px24_
                have f6_ := hFx23_.1 4 ii_ 6 rfl
                refine sm_T_iast (n := 652) rfl rfl (by omega) (by omega) ?_
                have hIx30_ : gi (sm_aI Sx21_ 52 (0 + ii_) a2_.toNat vx26_) := gi_aI hIx22_ (show (-652) ≤ vx26_ ∧ vx26_ ≤ 1999 from ⟨by omega, by omega⟩)
                have hFx31_ : ai_fr (sx_W vw_85) S0_ (sm_aI Sx21_ 52 (0 + ii_) a2_.toNat vx26_) := ai_fr_tr hFx25_ (ai_fr_aI rfl)
                have hCx32_ : cdf ii_ S0_ (sm_aI Sx21_ 52 (0 + ii_) a2_.toNat vx26_) := cdf_aI hCx27_ (Or.inr (by rw [show cof 52 = 0 from rfl] <;> omega))
                refine sm_T_go 5 (c1 := (190, [some (.inr (.inr (some (4, ii_)))), some (.inr (.inr (some (0, bb_)))), some (.inl a2_), some (.inl a3_), some (.inl td_), some (.inl x_), some (.inl y_), some (.inl k_), some (.inl (5 * k_)), some (.inl 1)], [.inl a2_, .inr (.inr (some (52, (0 + ii_)))), .inr (.inr (some (53, (0 + ii_))))], sm_aI Sx21_ 52 (0 + ii_) a2_.toNat vx26_)) rfl ?_
                refine sm_T_iald (n := 652) rfl rfl (by omega) (by omega) ?_
                have bx33_ : (-652) ≤ (sm_aI Sx21_ 52 (0 + ii_) a2_.toNat vx26_).2.2.1 52 (0 + ii_) a2_.toNat ∧ (sm_aI Sx21_ 52 (0 + ii_) a2_.toNat vx26_).2.2.1 52 (0 + ii_) a2_.toNat ≤ 1999 := hIx30_.2 52 (0 + ii_) _
                refine sm_T_go 1 (c1 := (192, [some (.inr (.inr (some (4, ii_)))), some (.inr (.inr (some (0, bb_)))), some (.inl a2_), some (.inl a3_), some (.inl td_), some (.inl x_), some (.inl y_), some (.inl k_), some (.inl (5 * k_)), some (.inl 1)], [.inl 1, .inl ((sm_aI Sx21_ 52 (0 + ii_) a2_.toNat vx26_).2.2.1 52 (0 + ii_) a2_.toNat), .inr (.inr (some (53, (0 + ii_))))], sm_aI Sx21_ 52 (0 + ii_) a2_.toNat vx26_)) rfl ?_
                refine sm_T_iast (n := 2000) rfl rfl (by (first | omega | (rw [rd_eq, if_pos rfl]; omega))) (by (first | omega | (rw [rd_eq, if_pos rfl]; omega))) ?_
                have hIx34_ : gi (sm_aI (sm_aI Sx21_ 52 (0 + ii_) a2_.toNat vx26_) 53 (0 + ii_) ((sm_aI Sx21_ 52 (0 + ii_) a2_.toNat vx26_).2.2.1 52 (0 + ii_) a2_.toNat).toNat 1) := gi_aI hIx30_ (show 0 ≤ 1 ∧ 1 ≤ 1 from ⟨by omega, by omega⟩)
                have hFx35_ : ai_fr (sx_W vw_85) S0_ (sm_aI (sm_aI Sx21_ 52 (0 + ii_) a2_.toNat vx26_) 53 (0 + ii_) ((sm_aI Sx21_ 52 (0 + ii_) a2_.toNat vx26_).2.2.1 52 (0 + ii_) a2_.toNat).toNat 1) := ai_fr_tr hFx31_ (ai_fr_aI rfl)
                have hCx36_ : cdf ii_ S0_ (sm_aI (sm_aI Sx21_ 52 (0 + ii_) a2_.toNat vx26_) 53 (0 + ii_) ((sm_aI Sx21_ 52 (0 + ii_) a2_.toNat vx26_).2.2.1 52 (0 + ii_) a2_.toNat).toNat 1) := cdf_aI hCx32_ (Or.inr (by rw [show cof 53 = 0 from rfl] <;> omega))
                refine sm_T_rv rfl ⟨_, _, rfl, rfl, hIx34_, hFx35_, ?_⟩
                refine ⟨hCx36_, ?_⟩
                ((try simp only [rd_lf, rd_fl, rf_eq, rf_nk, rf_nt, rd_fa, rd_af, ne_eq, Nat.reduceEqDiff, not_false_eq_true]); omega)
set_option maxHeartbeats 400000 in
set_option maxRecDepth 20000 in
theorem vc_85 {sc_ : Nat × (Nat → Int)} (a2_ : Int) (a3_ : Int) (ii_ : Nat) (bb_ : Nat) (S0_ : sm_S) (hI_ : gi S0_) (h2_ : 0 ≤ a2_ ∧ a2_ ≤ 651) (h3_ : 0 ≤ a3_ ∧ a3_ ≤ 6) (hp_ : S0_.1 4 ii_ 6 ≤ 2651) : sm_T (mt_P sc_) 1 85 (0, [some (.inr (.inr (some (4, ii_)))), some (.inr (.inr (some (0, bb_)))), some (.inl a2_), some (.inl a3_), none, none, none, none, none, none], [], S0_) (fun ro9_ => ∃ u_ S1_, ro9_ = (.inl u_, S1_, 0) ∧ vq_85 a2_ a3_ ii_ bb_ S0_ u_ S1_) := by
  have hF_ : ai_fr (sx_W vw_85) S0_ S0_ := ai_fr_rf
  have hC_ : cdf ii_ S0_ S0_ := cdf_rf
  have c6_ : 0 ≤ S0_.1 4 ii_ 6 ∧ S0_.1 4 ii_ 6 ≤ 2652 := hI_.1 4 ii_ 6 rfl
  refine sm_T_go 3 (c1 := (3, [some (.inr (.inr (some (4, ii_)))), some (.inr (.inr (some (0, bb_)))), some (.inl a2_), some (.inl a3_), none, none, none, none, none, none], [.inl a3_, .inl 4, .inl a2_], S0_)) rfl ?_
  refine sm_T_bin (w := 4 * a3_) rfl (bi_mul (by omega) (by omega) (by omega)) ?_ -- pc_ 3
  refine sm_T_br (a := 3) (z := 23) rfl (fun cx1_ => ?_) (fun cx1_ => ?_)
  · have cx1_ : 4 * a3_ ≤ a2_ := of_decide_eq_true cx1_
    refine sm_T_go 5 (c1 := (35, [some (.inr (.inr (some (4, ii_)))), some (.inr (.inr (some (0, bb_)))), some (.inl a2_), some (.inl a3_), some (.inl 0), none, none, none, none, none], [.inl a2_, .inr (.inr (some (17, (0 + bb_))))], S0_)) rfl ?_
    refine sm_T_iald (n := 652) rfl rfl (by omega) (by omega) ?_
    have bx2_ : (-1) ≤ S0_.2.2.1 17 (0 + bb_) a2_.toNat ∧ S0_.2.2.1 17 (0 + bb_) a2_.toNat ≤ 161 := hI_.2 17 (0 + bb_) _
    refine sm_T_go 1 (c1 := (37, [some (.inr (.inr (some (4, ii_)))), some (.inr (.inr (some (0, bb_)))), some (.inl a2_), some (.inl a3_), some (.inl 0), none, none, none, none, none], [.inl (-1), .inl (S0_.2.2.1 17 (0 + bb_) a2_.toNat)], S0_)) rfl ?_
    refine sm_T_br (a := 1) (z := 9) rfl (fun cx3_ => ?_) (fun cx3_ => ?_)
    · have cx3_ : (S0_.2.2.1 17 (0 + bb_) a2_.toNat) ≠ (-1) := of_decide_eq_true cx3_
      refine sm_T_go 3 (c1 := (49, [some (.inr (.inr (some (4, ii_)))), some (.inr (.inr (some (0, bb_)))), some (.inl a2_), some (.inl a3_), some (.inl 0), none, none, none, none, none], [.inl a2_, .inr (.inr (some (0, bb_))), .inl 4], S0_)) rfl ?_
      refine sm_T_cal (d1 := 0) (Q1 := vq_17 a2_ bb_ S0_) rfl rfl (by decide) (vc_17 a2_ bb_ S0_ hI_ (by omega)) (fun u_ Sx4_ px7_ => ?_)
      obtain ⟨rfl, vx9_, rfl, px7_⟩ := px7_
      have p1_ := px7_.1
      refine sm_T_bin (w := 4 * vx9_) rfl (bi_mul (by omega) (by omega) (by omega)) ?_ -- pc_ 52
      refine sm_T_go 4 (c1 := (58, [some (.inr (.inr (some (4, ii_)))), some (.inr (.inr (some (0, bb_)))), some (.inl a2_), some (.inl a3_), some (.inl 0), some (.inl (4 * vx9_)), none, none, none, none], [.inl a2_, .inr (.inr (some (0, bb_))), .inl 4], S0_)) rfl ?_
      refine sm_T_cal (d1 := 0) (Q1 := vq_18 a2_ bb_ S0_) rfl rfl (by decide) (vc_18 a2_ bb_ S0_ hI_ (by omega)) (fun u_ Sx10_ px13_ => ?_)
      obtain ⟨rfl, vx15_, rfl, px13_⟩ := px13_
      have p2_ := px13_.1
      refine sm_T_bin (w := 4 * vx15_) rfl (bi_mul (by omega) (by omega) (by omega)) ?_ -- pc_ 61
      refine sm_T_go 6 (c1 := (71, [some (.inr (.inr (some (4, ii_)))), some (.inr (.inr (some (0, bb_)))), some (.inl a2_), some (.inl a3_), some (.inl 0), some (.inl (4 * vx9_)), some (.inl (4 * vx15_)), none, none, none], [.inl a2_, .inl (-1), .inl a2_, .inr (.inr (some (52, (0 + ii_))))], S0_)) rfl ?_
      refine sm_T_bin (w := -a2_ - 1) rfl (bi_sub (by omega) (by omega) (by omega)) ?_ -- pc_ 71
      refine sm_T_iast (n := 652) rfl rfl (by omega) (by omega) ?_
      have hIx16_ : gi (sm_aI S0_ 52 (0 + ii_) a2_.toNat (-a2_ - 1)) := gi_aI hI_ (show (-652) ≤ -a2_ - 1 ∧ -a2_ - 1 ≤ 1999 from ⟨by omega, by omega⟩)
      have hFx17_ : ai_fr (sx_W vw_85) S0_ (sm_aI S0_ 52 (0 + ii_) a2_.toNat (-a2_ - 1)) := ai_fr_tr hF_ (ai_fr_aI rfl)
      have hCx18_ : cdf ii_ S0_ (sm_aI S0_ 52 (0 + ii_) a2_.toNat (-a2_ - 1)) := cdf_aI hC_ (Or.inr (by rw [show cof 52 = 0 from rfl] <;> omega))
      refine sm_T_go 2 (c1 := (76, [some (.inr (.inr (some (4, ii_)))), some (.inr (.inr (some (0, bb_)))), some (.inl a2_), some (.inl a3_), some (.inl 0), some (.inl (4 * vx9_)), some (.inl (4 * vx15_)), some (.inl 0), none, none], [], sm_aI S0_ 52 (0 + ii_) a2_.toNat (-a2_ - 1))) rfl ?_
      refine (vl_85 a2_ a3_ ii_ bb_ S0_ h2_ h3_ hp_ _) 0 (4 * vx9_) (4 * vx15_) 0 (sm_aI S0_ 52 (0 + ii_) a2_.toNat (-a2_ - 1)) hIx16_ hFx17_ ⟨?_, ?_, ?_, trivial⟩ (Nat.lt_succ_self _)
      · omega
      · rfl
      · exact hCx18_
    · have cx3_ : ¬ ((S0_.2.2.1 17 (0 + bb_) a2_.toNat) ≠ (-1)) := of_decide_eq_false cx3_
      refine sm_T_go 2 (c1 := (45, [some (.inr (.inr (some (4, ii_)))), some (.inr (.inr (some (0, bb_)))), some (.inl a2_), some (.inl a3_), some (.inl 0), none, none, none, none, none], [], S0_)) rfl ?_
      refine sm_T_rv rfl ⟨_, _, rfl, rfl, hI_, hF_, ?_⟩
      refine ⟨hC_, ?_⟩
      omega
  · have cx1_ : ¬ (4 * a3_ ≤ a2_) := of_decide_eq_false cx1_
    refine sm_T_go 2 (c1 := (9, [some (.inr (.inr (some (4, ii_)))), some (.inr (.inr (some (0, bb_)))), some (.inl a2_), some (.inl a3_), none, none, none, none, none, none], [.inl 4, .inl a2_], S0_)) rfl ?_
    refine sm_T_bin (w := (a2_ % 4)) rfl (bi_rem (by omega) (by omega) (by omega) (by omega)) ?_ -- pc_ 9
    refine sm_T_b0 (a := 1) (z := 17) rfl (fun cx19_ => ?_) (fun cx19_ => ?_)
    · have cx19_ : (a2_ % 4) ≠ 0 := of_decide_eq_true cx19_
      refine sm_T_go 5 (c1 := (35, [some (.inr (.inr (some (4, ii_)))), some (.inr (.inr (some (0, bb_)))), some (.inl a2_), some (.inl a3_), some (.inl 0), none, none, none, none, none], [.inl a2_, .inr (.inr (some (17, (0 + bb_))))], S0_)) rfl ?_
      refine sm_T_iald (n := 652) rfl rfl (by omega) (by omega) ?_
      have bx20_ : (-1) ≤ S0_.2.2.1 17 (0 + bb_) a2_.toNat ∧ S0_.2.2.1 17 (0 + bb_) a2_.toNat ≤ 161 := hI_.2 17 (0 + bb_) _
      refine sm_T_go 1 (c1 := (37, [some (.inr (.inr (some (4, ii_)))), some (.inr (.inr (some (0, bb_)))), some (.inl a2_), some (.inl a3_), some (.inl 0), none, none, none, none, none], [.inl (-1), .inl (S0_.2.2.1 17 (0 + bb_) a2_.toNat)], S0_)) rfl ?_
      refine sm_T_br (a := 1) (z := 9) rfl (fun cx21_ => ?_) (fun cx21_ => ?_)
      · have cx21_ : (S0_.2.2.1 17 (0 + bb_) a2_.toNat) ≠ (-1) := of_decide_eq_true cx21_
        refine sm_T_go 3 (c1 := (49, [some (.inr (.inr (some (4, ii_)))), some (.inr (.inr (some (0, bb_)))), some (.inl a2_), some (.inl a3_), some (.inl 0), none, none, none, none, none], [.inl a2_, .inr (.inr (some (0, bb_))), .inl 4], S0_)) rfl ?_
        refine sm_T_cal (d1 := 0) (Q1 := vq_17 a2_ bb_ S0_) rfl rfl (by decide) (vc_17 a2_ bb_ S0_ hI_ (by omega)) (fun u_ Sx22_ px25_ => ?_)
        obtain ⟨rfl, vx27_, rfl, px25_⟩ := px25_
        have p1_ := px25_.1
        refine sm_T_bin (w := 4 * vx27_) rfl (bi_mul (by omega) (by omega) (by omega)) ?_ -- pc_ 52
        refine sm_T_go 4 (c1 := (58, [some (.inr (.inr (some (4, ii_)))), some (.inr (.inr (some (0, bb_)))), some (.inl a2_), some (.inl a3_), some (.inl 0), some (.inl (4 * vx27_)), none, none, none, none], [.inl a2_, .inr (.inr (some (0, bb_))), .inl 4], S0_)) rfl ?_
        refine sm_T_cal (d1 := 0) (Q1 := vq_18 a2_ bb_ S0_) rfl rfl (by decide) (vc_18 a2_ bb_ S0_ hI_ (by omega)) (fun u_ Sx28_ px31_ => ?_)
        obtain ⟨rfl, vx33_, rfl, px31_⟩ := px31_
        have p2_ := px31_.1
        refine sm_T_bin (w := 4 * vx33_) rfl (bi_mul (by omega) (by omega) (by omega)) ?_ -- pc_ 61
        refine sm_T_go 6 (c1 := (71, [some (.inr (.inr (some (4, ii_)))), some (.inr (.inr (some (0, bb_)))), some (.inl a2_), some (.inl a3_), some (.inl 0), some (.inl (4 * vx27_)), some (.inl (4 * vx33_)), none, none, none], [.inl a2_, .inl (-1), .inl a2_, .inr (.inr (some (52, (0 + ii_))))], S0_)) rfl ?_
        refine sm_T_bin (w := -a2_ - 1) rfl (bi_sub (by omega) (by omega) (by omega)) ?_ -- pc_ 71
        refine sm_T_iast (n := 652) rfl rfl (by omega) (by omega) ?_
        have hIx34_ : gi (sm_aI S0_ 52 (0 + ii_) a2_.toNat (-a2_ - 1)) := gi_aI hI_ (show (-652) ≤ -a2_ - 1 ∧ -a2_ - 1 ≤ 1999 from ⟨by omega, by omega⟩)
        have hFx35_ : ai_fr (sx_W vw_85) S0_ (sm_aI S0_ 52 (0 + ii_) a2_.toNat (-a2_ - 1)) := ai_fr_tr hF_ (ai_fr_aI rfl)
        have hCx36_ : cdf ii_ S0_ (sm_aI S0_ 52 (0 + ii_) a2_.toNat (-a2_ - 1)) := cdf_aI hC_ (Or.inr (by rw [show cof 52 = 0 from rfl] <;> omega))
        refine sm_T_go 2 (c1 := (76, [some (.inr (.inr (some (4, ii_)))), some (.inr (.inr (some (0, bb_)))), some (.inl a2_), some (.inl a3_), some (.inl 0), some (.inl (4 * vx27_)), some (.inl (4 * vx33_)), some (.inl 0), none, none], [], sm_aI S0_ 52 (0 + ii_) a2_.toNat (-a2_ - 1))) rfl ?_
        refine (vl_85 a2_ a3_ ii_ bb_ S0_ h2_ h3_ hp_ _) 0 (4 * vx27_) (4 * vx33_) 0 (sm_aI S0_ 52 (0 + ii_) a2_.toNat (-a2_ - 1)) hIx34_ hFx35_ ⟨?_, ?_, ?_, trivial⟩ (Nat.lt_succ_self _)
        · omega
        · rfl
        · exact hCx36_
      · have cx21_ : ¬ ((S0_.2.2.1 17 (0 + bb_) a2_.toNat) ≠ (-1)) := of_decide_eq_false cx21_
        refine sm_T_go 2 (c1 := (45, [some (.inr (.inr (some (4, ii_)))), some (.inr (.inr (some (0, bb_)))), some (.inl a2_), some (.inl a3_), some (.inl 0), none, none, none, none, none], [], S0_)) rfl ?_
        refine sm_T_rv rfl ⟨_, _, rfl, rfl, hI_, hF_, ?_⟩
        refine ⟨hC_, ?_⟩
        omega
    · have cx19_ : ¬ ((a2_ % 4) ≠ 0) := of_decide_eq_false cx19_
      refine sm_T_go 3 (c1 := (18, [some (.inr (.inr (some (4, ii_)))), some (.inr (.inr (some (0, bb_)))), some (.inl a2_), some (.inl a3_), none, none, none, none, none, none], [.inl a2_, .inr (.inr (some (17, (0 + bb_))))], S0_)) rfl ?_
      refine sm_T_iald (n := 652) rfl rfl (by omega) (by omega) ?_
      have bx37_ : (-1) ≤ S0_.2.2.1 17 (0 + bb_) a2_.toNat ∧ S0_.2.2.1 17 (0 + bb_) a2_.toNat ≤ 161 := hI_.2 17 (0 + bb_) _
      refine sm_T_go 1 (c1 := (20, [some (.inr (.inr (some (4, ii_)))), some (.inr (.inr (some (0, bb_)))), some (.inl a2_), some (.inl a3_), none, none, none, none, none, none], [.inl (-1), .inl (S0_.2.2.1 17 (0 + bb_) a2_.toNat)], S0_)) rfl ?_
      refine sm_T_br (a := 1) (z := 7) rfl (fun cx38_ => ?_) (fun cx38_ => ?_)
      · have cx38_ : (S0_.2.2.1 17 (0 + bb_) a2_.toNat) ≠ (-1) := of_decide_eq_true cx38_
        refine sm_T_go 5 (c1 := (35, [some (.inr (.inr (some (4, ii_)))), some (.inr (.inr (some (0, bb_)))), some (.inl a2_), some (.inl a3_), some (.inl 0), none, none, none, none, none], [.inl a2_, .inr (.inr (some (17, (0 + bb_))))], S0_)) rfl ?_
        refine sm_T_iald (n := 652) rfl rfl (by omega) (by omega) ?_
        refine sm_T_go 1 (c1 := (37, [some (.inr (.inr (some (4, ii_)))), some (.inr (.inr (some (0, bb_)))), some (.inl a2_), some (.inl a3_), some (.inl 0), none, none, none, none, none], [.inl (-1), .inl (S0_.2.2.1 17 (0 + bb_) a2_.toNat)], S0_)) rfl ?_
        refine sm_T_br (a := 1) (z := 9) rfl (fun cx39_ => ?_) (fun cx39_ => ?_)
        · have cx39_ : (S0_.2.2.1 17 (0 + bb_) a2_.toNat) ≠ (-1) := of_decide_eq_true cx39_
          refine sm_T_go 3 (c1 := (49, [some (.inr (.inr (some (4, ii_)))), some (.inr (.inr (some (0, bb_)))), some (.inl a2_), some (.inl a3_), some (.inl 0), none, none, none, none, none], [.inl a2_, .inr (.inr (some (0, bb_))), .inl 4], S0_)) rfl ?_
          refine sm_T_cal (d1 := 0) (Q1 := vq_17 a2_ bb_ S0_) rfl rfl (by decide) (vc_17 a2_ bb_ S0_ hI_ (by omega)) (fun u_ Sx40_ px43_ => ?_)
          obtain ⟨rfl, vx45_, rfl, px43_⟩ := px43_
          have p1_ := px43_.1
          refine sm_T_bin (w := 4 * vx45_) rfl (bi_mul (by omega) (by omega) (by omega)) ?_ -- pc_ 52
          refine sm_T_go 4 (c1 := (58, [some (.inr (.inr (some (4, ii_)))), some (.inr (.inr (some (0, bb_)))), some (.inl a2_), some (.inl a3_), some (.inl 0), some (.inl (4 * vx45_)), none, none, none, none], [.inl a2_, .inr (.inr (some (0, bb_))), .inl 4], S0_)) rfl ?_
          refine sm_T_cal (d1 := 0) (Q1 := vq_18 a2_ bb_ S0_) rfl rfl (by decide) (vc_18 a2_ bb_ S0_ hI_ (by omega)) (fun u_ Sx46_ px49_ => ?_)
          obtain ⟨rfl, vx51_, rfl, px49_⟩ := px49_
          have p2_ := px49_.1
          refine sm_T_bin (w := 4 * vx51_) rfl (bi_mul (by omega) (by omega) (by omega)) ?_ -- pc_ 61
          refine sm_T_go 6 (c1 := (71, [some (.inr (.inr (some (4, ii_)))), some (.inr (.inr (some (0, bb_)))), some (.inl a2_), some (.inl a3_), some (.inl 0), some (.inl (4 * vx45_)), some (.inl (4 * vx51_)), none, none, none], [.inl a2_, .inl (-1), .inl a2_, .inr (.inr (some (52, (0 + ii_))))], S0_)) rfl ?_
          refine sm_T_bin (w := -a2_ - 1) rfl (bi_sub (by omega) (by omega) (by omega)) ?_ -- pc_ 71
          refine sm_T_iast (n := 652) rfl rfl (by omega) (by omega) ?_
          have hIx52_ : gi (sm_aI S0_ 52 (0 + ii_) a2_.toNat (-a2_ - 1)) := gi_aI hI_ (show (-652) ≤ -a2_ - 1 ∧ -a2_ - 1 ≤ 1999 from ⟨by omega, by omega⟩)
          have hFx53_ : ai_fr (sx_W vw_85) S0_ (sm_aI S0_ 52 (0 + ii_) a2_.toNat (-a2_ - 1)) := ai_fr_tr hF_ (ai_fr_aI rfl)
          have hCx54_ : cdf ii_ S0_ (sm_aI S0_ 52 (0 + ii_) a2_.toNat (-a2_ - 1)) := cdf_aI hC_ (Or.inr (by rw [show cof 52 = 0 from rfl] <;> omega))
          refine sm_T_go 2 (c1 := (76, [some (.inr (.inr (some (4, ii_)))), some (.inr (.inr (some (0, bb_)))), some (.inl a2_), some (.inl a3_), some (.inl 0), some (.inl (4 * vx45_)), some (.inl (4 * vx51_)), some (.inl 0), none, none], [], sm_aI S0_ 52 (0 + ii_) a2_.toNat (-a2_ - 1))) rfl ?_
          refine (vl_85 a2_ a3_ ii_ bb_ S0_ h2_ h3_ hp_ _) 0 (4 * vx45_) (4 * vx51_) 0 (sm_aI S0_ 52 (0 + ii_) a2_.toNat (-a2_ - 1)) hIx52_ hFx53_ ⟨?_, ?_, ?_, trivial⟩ (Nat.lt_succ_self _)
          · omega
          · rfl
          · exact hCx54_
        · have cx39_ : ¬ ((S0_.2.2.1 17 (0 + bb_) a2_.toNat) ≠ (-1)) := of_decide_eq_false cx39_
          refine sm_T_go 2 (c1 := (45, [some (.inr (.inr (some (4, ii_)))), some (.inr (.inr (some (0, bb_)))), some (.inl a2_), some (.inl a3_), some (.inl 0), none, none, none, none, none], [], S0_)) rfl ?_
          refine sm_T_rv rfl ⟨_, _, rfl, rfl, hI_, hF_, ?_⟩
          refine ⟨hC_, ?_⟩
          omega
      · have cx38_ : ¬ ((S0_.2.2.1 17 (0 + bb_) a2_.toNat) ≠ (-1)) := of_decide_eq_false cx38_
        refine sm_T_go 6 (c1 := (35, [some (.inr (.inr (some (4, ii_)))), some (.inr (.inr (some (0, bb_)))), some (.inl a2_), some (.inl a3_), some (.inl 1), none, none, none, none, none], [.inl a2_, .inr (.inr (some (17, (0 + bb_))))], S0_)) rfl ?_
        refine sm_T_iald (n := 652) rfl rfl (by omega) (by omega) ?_
        refine sm_T_go 1 (c1 := (37, [some (.inr (.inr (some (4, ii_)))), some (.inr (.inr (some (0, bb_)))), some (.inl a2_), some (.inl a3_), some (.inl 1), none, none, none, none, none], [.inl (-1), .inl (S0_.2.2.1 17 (0 + bb_) a2_.toNat)], S0_)) rfl ?_
        refine sm_T_br (a := 1) (z := 9) rfl (fun cx55_ => ?_) (fun cx55_ => ?_)
        · have cx55_ : (S0_.2.2.1 17 (0 + bb_) a2_.toNat) ≠ (-1) := of_decide_eq_true cx55_
          exfalso; omega
        · have cx55_ : ¬ ((S0_.2.2.1 17 (0 + bb_) a2_.toNat) ≠ (-1)) := of_decide_eq_false cx55_
          refine sm_T_go 5 (c1 := (49, [some (.inr (.inr (some (4, ii_)))), some (.inr (.inr (some (0, bb_)))), some (.inl a2_), some (.inl a3_), some (.inl 1), none, none, none, none, none], [.inl a2_, .inr (.inr (some (0, bb_))), .inl 4], S0_)) rfl ?_
          refine sm_T_cal (d1 := 0) (Q1 := vq_17 a2_ bb_ S0_) rfl rfl (by decide) (vc_17 a2_ bb_ S0_ hI_ (by omega)) (fun u_ Sx56_ px59_ => ?_)
          obtain ⟨rfl, vx61_, rfl, px59_⟩ := px59_
          have p1_ := px59_.1
          refine sm_T_bin (w := 4 * vx61_) rfl (bi_mul (by omega) (by omega) (by omega)) ?_ -- pc_ 52
          refine sm_T_go 4 (c1 := (58, [some (.inr (.inr (some (4, ii_)))), some (.inr (.inr (some (0, bb_)))), some (.inl a2_), some (.inl a3_), some (.inl 1), some (.inl (4 * vx61_)), none, none, none, none], [.inl a2_, .inr (.inr (some (0, bb_))), .inl 4], S0_)) rfl ?_
          refine sm_T_cal (d1 := 0) (Q1 := vq_18 a2_ bb_ S0_) rfl rfl (by decide) (vc_18 a2_ bb_ S0_ hI_ (by omega)) (fun u_ Sx62_ px65_ => ?_)
          obtain ⟨rfl, vx67_, rfl, px65_⟩ := px65_
          have p2_ := px65_.1
          refine sm_T_bin (w := 4 * vx67_) rfl (bi_mul (by omega) (by omega) (by omega)) ?_ -- pc_ 61
          refine sm_T_go 6 (c1 := (71, [some (.inr (.inr (some (4, ii_)))), some (.inr (.inr (some (0, bb_)))), some (.inl a2_), some (.inl a3_), some (.inl 1), some (.inl (4 * vx61_)), some (.inl (4 * vx67_)), none, none, none], [.inl a2_, .inl (-1), .inl a2_, .inr (.inr (some (52, (0 + ii_))))], S0_)) rfl ?_
          refine sm_T_bin (w := -a2_ - 1) rfl (bi_sub (by omega) (by omega) (by omega)) ?_ -- pc_ 71
          refine sm_T_iast (n := 652) rfl rfl (by omega) (by omega) ?_
          have hIx68_ : gi (sm_aI S0_ 52 (0 + ii_) a2_.toNat (-a2_ - 1)) := gi_aI hI_ (show (-652) ≤ -a2_ - 1 ∧ -a2_ - 1 ≤ 1999 from ⟨by omega, by omega⟩)
          have hFx69_ : ai_fr (sx_W vw_85) S0_ (sm_aI S0_ 52 (0 + ii_) a2_.toNat (-a2_ - 1)) := ai_fr_tr hF_ (ai_fr_aI rfl)
          have hCx70_ : cdf ii_ S0_ (sm_aI S0_ 52 (0 + ii_) a2_.toNat (-a2_ - 1)) := cdf_aI hC_ (Or.inr (by rw [show cof 52 = 0 from rfl] <;> omega))
          refine sm_T_go 2 (c1 := (76, [some (.inr (.inr (some (4, ii_)))), some (.inr (.inr (some (0, bb_)))), some (.inl a2_), some (.inl a3_), some (.inl 1), some (.inl (4 * vx61_)), some (.inl (4 * vx67_)), some (.inl 0), none, none], [], sm_aI S0_ 52 (0 + ii_) a2_.toNat (-a2_ - 1))) rfl ?_
          refine (vl_85 a2_ a3_ ii_ bb_ S0_ h2_ h3_ hp_ _) 1 (4 * vx61_) (4 * vx67_) 0 (sm_aI S0_ 52 (0 + ii_) a2_.toNat (-a2_ - 1)) hIx68_ hFx69_ ⟨?_, ?_, ?_, trivial⟩ (Nat.lt_succ_self _)
          · omega
          · rfl
          · exact hCx70_
