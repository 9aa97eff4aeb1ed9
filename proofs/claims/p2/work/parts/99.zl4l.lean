/-! Layout.countShorts -/
def vw_86 : sx_Wl := ([(4, 4)], [54], [])
def vq_86 (ii_ : Nat) (bb_ : Nat) (S0_ : sm_S) (u_ : Option sm_V) (S1_ : sm_S) : Prop := u_ = none ∧ gi S1_ ∧ ai_fr (sx_W vw_86) S0_ S1_ ∧ (cdf ii_ S0_ S1_ ∧ (True))
set_option maxHeartbeats 400000 in
theorem vl_86 {sc_ : Nat × (Nat → Int)} (ii_ : Nat) (bb_ : Nat) (S0_ : sm_S)  : ∀ nn_ : Nat, (∀ (p_ : Int) (S_ : sm_S), gi S_ → ai_fr (sx_W vw_86) S0_ S_ → ((0 ≤ p_ ∧ p_ ≤ 652 ∧ S_.1 4 ii_ 4 = 0) ∧ (cdf ii_ S0_ S_) ∧ True) → ((10000 * (700 - p_) + 109000).toNat) < nn_ → sm_T (mt_P sc_) 1 86 (15, [some (.inr (.inr (some (4, ii_)))), some (.inr (.inr (some (0, bb_)))), some (.inl p_), none, none, none, none, none], [], S_) (fun ro9_ => ∃ u_ S1_, ro9_ = (.inl u_, S1_, 0) ∧ vq_86 ii_ bb_ S0_ u_ S1_)) ∧ (∀ (p_ : Int) (on_ : Int) (q_ : Int) (S_ : sm_S), gi S_ → ai_fr (sx_W vw_86) S0_ S_ → ((0 ≤ p_ ∧ p_ < 652 ∧ p_ < q_ ∧ q_ ≤ 652 ∧ -1 ≤ on_ ∧ on_ ≤ 161 ∧ S_.1 4 ii_ 4 = 0) ∧ (cdf ii_ S0_ S_) ∧ True) → ((10000 * (700 - p_) + 108000 - q_).toNat) < nn_ → sm_T (mt_P sc_) 1 86 (34, [some (.inr (.inr (some (4, ii_)))), some (.inr (.inr (some (0, bb_)))), some (.inl p_), some (.inl on_), some (.inl q_), none, none, none], [], S_) (fun ro9_ => ∃ u_ S1_, ro9_ = (.inl u_, S1_, 0) ∧ vq_86 ii_ bb_ S0_ u_ S1_)) ∧ (∀ (k_ : Int) (S_ : sm_S), gi S_ → ai_fr (sx_W vw_86) S0_ S_ → ((0 ≤ k_ ∧ k_ ≤ 486 ∧ 0 ≤ S_.1 4 ii_ 4 ∧ S_.1 4 ii_ 4 ≤ 127 * k_) ∧ (cdf ii_ S0_ S_) ∧ True) → ((1000 - k_).toNat) < nn_ → sm_T (mt_P sc_) 1 86 (139, [some (.inr (.inr (some (4, ii_)))), some (.inr (.inr (some (0, bb_)))), some (.inl k_), none, none, none, none, none], [], S_) (fun ro9_ => ∃ u_ S1_, ro9_ = (.inl u_, S1_, 0) ∧ vq_86 ii_ bb_ S0_ u_ S1_)) := by
  intro nn_
  induction nn_ with
  | zero => exact ⟨fun _ _ _ _ _ h_ => absurd h_ (Nat.not_lt_zero _), fun _ _ _ _ _ _ _ h_ => absurd h_ (Nat.not_lt_zero _), fun _ _ _ _ _ h_ => absurd h_ (Nat.not_lt_zero _)⟩
  | succ nn_ ih_ =>
    refine ⟨?_, ?_, ?_⟩
    · rintro p_ S_ hI_ hF_ ⟨h0_, hC_, -⟩ hm_
      refine sm_T_go 2 (c1 := (19, [some (.inr (.inr (some (4, ii_)))), some (.inr (.inr (some (0, bb_)))), some (.inl p_), none, none, none, none, none], [.inl 652, .inl p_], S_)) rfl ?_
      refine sm_T_br (a := 3) (z := 118) rfl (fun cx1_ => ?_) (fun cx1_ => ?_)
      · have cx1_ : 652 ≤ p_ := of_decide_eq_true cx1_
        refine sm_T_go 2 (c1 := (139, [some (.inr (.inr (some (4, ii_)))), some (.inr (.inr (some (0, bb_)))), some (.inl 0), none, none, none, none, none], [], S_)) rfl ?_
        refine ih_.2.2 0 S_ hI_ hF_ ⟨?_, ?_, trivial⟩ ?_
        · omega
        · exact hC_
        · omega
      · have cx1_ : ¬ (652 ≤ p_) := of_decide_eq_false cx1_
        refine sm_T_go 3 (c1 := (27, [some (.inr (.inr (some (4, ii_)))), some (.inr (.inr (some (0, bb_)))), some (.inl p_), none, none, none, none, none], [.inl p_, .inr (.inr (some (17, (0 + bb_))))], S_)) rfl ?_
        refine sm_T_iald (n := 652) rfl rfl (by omega) (by omega) ?_
        have bx2_ : (-1) ≤ S_.2.2.1 17 (0 + bb_) p_.toNat ∧ S_.2.2.1 17 (0 + bb_) p_.toNat ≤ 161 := hI_.2 17 (0 + bb_) _
        refine sm_T_go 3 (c1 := (31, [some (.inr (.inr (some (4, ii_)))), some (.inr (.inr (some (0, bb_)))), some (.inl p_), some (.inl (S_.2.2.1 17 (0 + bb_) p_.toNat)), none, none, none, none], [.inl 1, .inl p_], S_)) rfl ?_
        refine sm_T_bin (w := p_ + 1) rfl (bi_add (by omega) (by omega) (by omega)) ?_ -- pc_ 31
        refine sm_T_go 1 (c1 := (34, [some (.inr (.inr (some (4, ii_)))), some (.inr (.inr (some (0, bb_)))), some (.inl p_), some (.inl (S_.2.2.1 17 (0 + bb_) p_.toNat)), some (.inl (p_ + 1)), none, none, none], [], S_)) rfl ?_
        refine ih_.2.1 p_ (S_.2.2.1 17 (0 + bb_) p_.toNat) (p_ + 1) S_ hI_ hF_ ⟨?_, ?_, trivial⟩ ?_
        · omega
        · exact hC_
        · omega
    · rintro p_ on_ q_ S_ hI_ hF_ ⟨h0_, hC_, -⟩ hm_
      refine sm_T_go 2 (c1 := (36, [some (.inr (.inr (some (4, ii_)))), some (.inr (.inr (some (0, bb_)))), some (.inl p_), some (.inl on_), some (.inl q_), none, none, none], [.inl (-1), .inl on_], S_)) rfl ?_
      refine sm_T_br (a := 0) (z := 95) rfl (fun cx1_ => ?_) (fun cx1_ => ?_)
      · have cx1_ : on_ = (-1) := of_decide_eq_true cx1_
        refine sm_T_inc (a := 2) (z := 1) (v := p_) (w := p_ + 1) rfl rfl (by omega) (by omega) (by omega) ?_ -- pc_ 131
        refine sm_T_go 1 (c1 := (15, [some (.inr (.inr (some (4, ii_)))), some (.inr (.inr (some (0, bb_)))), some (.inl (p_ + 1)), some (.inl on_), some (.inl q_), none, none, none], [], S_)) rfl ?_
        refine sm_T_wk [some (.inr (.inr (some (4, ii_)))), some (.inr (.inr (some (0, bb_)))), some (.inl (p_ + 1)), none, none, none, none, none] (by exact ⟨rfl, rfl, rfl, trivial⟩) ?_
        refine ih_.1 (p_ + 1) S_ hI_ hF_ ⟨?_, ?_, trivial⟩ ?_
        · omega
        · exact hC_
        · omega
      · have cx1_ : ¬ (on_ = (-1)) := of_decide_eq_false cx1_
        refine sm_T_go 2 (c1 := (44, [some (.inr (.inr (some (4, ii_)))), some (.inr (.inr (some (0, bb_)))), some (.inl p_), some (.inl on_), some (.inl q_), none, none, none], [.inl 652, .inl q_], S_)) rfl ?_
        refine sm_T_br (a := 3) (z := 87) rfl (fun cx2_ => ?_) (fun cx2_ => ?_)
        · have cx2_ : 652 ≤ q_ := of_decide_eq_true cx2_
          refine sm_T_inc (a := 2) (z := 1) (v := p_) (w := p_ + 1) rfl rfl (by omega) (by omega) (by omega) ?_ -- pc_ 131
          refine sm_T_go 1 (c1 := (15, [some (.inr (.inr (some (4, ii_)))), some (.inr (.inr (some (0, bb_)))), some (.inl (p_ + 1)), some (.inl on_), some (.inl q_), none, none, none], [], S_)) rfl ?_
          refine sm_T_wk [some (.inr (.inr (some (4, ii_)))), some (.inr (.inr (some (0, bb_)))), some (.inl (p_ + 1)), none, none, none, none, none] (by exact ⟨rfl, rfl, rfl, trivial⟩) ?_
          refine ih_.1 (p_ + 1) S_ hI_ hF_ ⟨?_, ?_, trivial⟩ ?_
          · omega
          · exact hC_
          · omega
        · have cx2_ : ¬ (652 ≤ q_) := of_decide_eq_false cx2_
          refine sm_T_go 3 (c1 := (53, [some (.inr (.inr (some (4, ii_)))), some (.inr (.inr (some (0, bb_)))), some (.inl p_), some (.inl on_), some (.inl q_), none, none, none], [.inl q_, .inr (.inr (some (17, (0 + bb_))))], S_)) rfl ?_
          refine sm_T_iald (n := 652) rfl rfl (by omega) (by omega) ?_
          have bx3_ : (-1) ≤ S_.2.2.1 17 (0 + bb_) q_.toNat ∧ S_.2.2.1 17 (0 + bb_) q_.toNat ≤ 161 := hI_.2 17 (0 + bb_) _
          refine sm_T_go 3 (c1 := (59, [some (.inr (.inr (some (4, ii_)))), some (.inr (.inr (some (0, bb_)))), some (.inl p_), some (.inl on_), some (.inl q_), some (.inl (S_.2.2.1 17 (0 + bb_) q_.toNat)), none, none], [.inl (-1), .inl (S_.2.2.1 17 (0 + bb_) q_.toNat)], S_)) rfl ?_
          refine sm_T_br (a := 0) (z := 66) rfl (fun cx4_ => ?_) (fun cx4_ => ?_)
          · have cx4_ : (S_.2.2.1 17 (0 + bb_) q_.toNat) = (-1) := of_decide_eq_true cx4_
            refine sm_T_inc (a := 4) (z := 1) (v := q_) (w := q_ + 1) rfl rfl (by omega) (by omega) (by omega) ?_ -- pc_ 125
            refine sm_T_go 1 (c1 := (34, [some (.inr (.inr (some (4, ii_)))), some (.inr (.inr (some (0, bb_)))), some (.inl p_), some (.inl on_), some (.inl (q_ + 1)), some (.inl (S_.2.2.1 17 (0 + bb_) q_.toNat)), none, none], [], S_)) rfl ?_
            refine sm_T_wk [some (.inr (.inr (some (4, ii_)))), some (.inr (.inr (some (0, bb_)))), some (.inl p_), some (.inl on_), some (.inl (q_ + 1)), none, none, none] (by exact ⟨rfl, rfl, rfl, rfl, rfl, trivial⟩) ?_
            refine ih_.2.1 p_ on_ (q_ + 1) S_ hI_ hF_ ⟨?_, ?_, trivial⟩ ?_
            · ((try simp only [rd_lf, rd_fl, rf_eq, rf_nk, rf_nt, rd_fa, rd_af, ne_eq, Nat.reduceEqDiff, not_false_eq_true]); omega)
            · exact hC_
            · omega
          · have cx4_ : ¬ ((S_.2.2.1 17 (0 + bb_) q_.toNat) = (-1)) := of_decide_eq_false cx4_
            refine sm_T_go 2 (c1 := (65, [some (.inr (.inr (some (4, ii_)))), some (.inr (.inr (some (0, bb_)))), some (.inl p_), some (.inl on_), some (.inl q_), some (.inl (S_.2.2.1 17 (0 + bb_) q_.toNat)), none, none], [.inl (S_.2.2.1 17 (0 + bb_) q_.toNat), .inl on_], S_)) rfl ?_
            refine sm_T_br (a := 0) (z := 60) rfl (fun cx5_ => ?_) (fun cx5_ => ?_)
            · have cx5_ : on_ = (S_.2.2.1 17 (0 + bb_) q_.toNat) := of_decide_eq_true cx5_
              refine sm_T_inc (a := 4) (z := 1) (v := q_) (w := q_ + 1) rfl rfl (by omega) (by omega) (by omega) ?_ -- pc_ 125
              refine sm_T_go 1 (c1 := (34, [some (.inr (.inr (some (4, ii_)))), some (.inr (.inr (some (0, bb_)))), some (.inl p_), some (.inl on_), some (.inl (q_ + 1)), some (.inl (S_.2.2.1 17 (0 + bb_) q_.toNat)), none, none], [], S_)) rfl ?_
              refine sm_T_wk [some (.inr (.inr (some (4, ii_)))), some (.inr (.inr (some (0, bb_)))), some (.inl p_), some (.inl on_), some (.inl (q_ + 1)), none, none, none] (by exact ⟨rfl, rfl, rfl, rfl, rfl, trivial⟩) ?_
              refine ih_.2.1 p_ on_ (q_ + 1) S_ hI_ hF_ ⟨?_, ?_, trivial⟩ ?_
              · ((try simp only [rd_lf, rd_fl, rf_eq, rf_nk, rf_nt, rd_fa, rd_af, ne_eq, Nat.reduceEqDiff, not_false_eq_true]); omega)
              · exact hC_
              · omega
            · have cx5_ : ¬ (on_ = (S_.2.2.1 17 (0 + bb_) q_.toNat)) := of_decide_eq_false cx5_
              refine sm_T_go 3 (c1 := (73, [some (.inr (.inr (some (4, ii_)))), some (.inr (.inr (some (0, bb_)))), some (.inl p_), some (.inl on_), some (.inl q_), some (.inl (S_.2.2.1 17 (0 + bb_) q_.toNat)), none, none], [.inl p_, .inr (.inr (some (52, (0 + ii_))))], S_)) rfl ?_
              refine sm_T_iald (n := 652) rfl rfl (by omega) (by omega) ?_
              have bx6_ : (-652) ≤ S_.2.2.1 52 (0 + ii_) p_.toNat ∧ S_.2.2.1 52 (0 + ii_) p_.toNat ≤ 1999 := hI_.2 52 (0 + ii_) _
              refine sm_T_go 3 (c1 := (80, [some (.inr (.inr (some (4, ii_)))), some (.inr (.inr (some (0, bb_)))), some (.inl p_), some (.inl on_), some (.inl q_), some (.inl (S_.2.2.1 17 (0 + bb_) q_.toNat)), none, none], [.inl q_, .inr (.inr (some (52, (0 + ii_)))), .inl (S_.2.2.1 52 (0 + ii_) p_.toNat)], S_)) rfl ?_
              refine sm_T_iald (n := 652) rfl rfl (by omega) (by omega) ?_
              have bx7_ : (-652) ≤ S_.2.2.1 52 (0 + ii_) q_.toNat ∧ S_.2.2.1 52 (0 + ii_) q_.toNat ≤ 1999 := hI_.2 52 (0 + ii_) _
              refine sm_T_br (a := 1) (z := 44) rfl (fun cx8_ => ?_) (fun cx8_ => ?_)
              · have cx8_ : (S_.2.2.1 52 (0 + ii_) p_.toNat) ≠ (S_.2.2.1 52 (0 + ii_) q_.toNat) := of_decide_eq_true cx8_
                refine sm_T_inc (a := 4) (z := 1) (v := q_) (w := q_ + 1) rfl rfl (by omega) (by omega) (by omega) ?_ -- pc_ 125
                refine sm_T_go 1 (c1 := (34, [some (.inr (.inr (some (4, ii_)))), some (.inr (.inr (some (0, bb_)))), some (.inl p_), some (.inl on_), some (.inl (q_ + 1)), some (.inl (S_.2.2.1 17 (0 + bb_) q_.toNat)), none, none], [], S_)) rfl ?_
                refine sm_T_wk [some (.inr (.inr (some (4, ii_)))), some (.inr (.inr (some (0, bb_)))), some (.inl p_), some (.inl on_), some (.inl (q_ + 1)), none, none, none] (by exact ⟨rfl, rfl, rfl, rfl, rfl, trivial⟩) ?_
                refine ih_.2.1 p_ on_ (q_ + 1) S_ hI_ hF_ ⟨?_, ?_, trivial⟩ ?_
                · ((try simp only [rd_lf, rd_fl, rf_eq, rf_nk, rf_nt, rd_fa, rd_af, ne_eq, Nat.reduceEqDiff, not_false_eq_true]); omega)
                · exact hC_
                · omega
              · have cx8_ : ¬ ((S_.2.2.1 52 (0 + ii_) p_.toNat) ≠ (S_.2.2.1 52 (0 + ii_) q_.toNat)) := of_decide_eq_false cx8_
                refine sm_T_go 2 (c1 := (87, [some (.inr (.inr (some (4, ii_)))), some (.inr (.inr (some (0, bb_)))), some (.inl p_), some (.inl on_), some (.inl q_), some (.inl (S_.2.2.1 17 (0 + bb_) q_.toNat)), none, none], [.inl (S_.2.2.1 17 (0 + bb_) q_.toNat), .inl on_], S_)) rfl ?_
                refine sm_T_nt (u := some (.inl (sm_mn on_ (S_.2.2.1 17 (0 + bb_) q_.toNat)))) (S1 := S_) rfl rfl rfl ?_
                have bx9_ := sm_mn_d on_ (S_.2.2.1 17 (0 + bb_) q_.toNat)
                refine sm_T_go 3 (c1 := (95, [some (.inr (.inr (some (4, ii_)))), some (.inr (.inr (some (0, bb_)))), some (.inl p_), some (.inl on_), some (.inl q_), some (.inl (S_.2.2.1 17 (0 + bb_) q_.toNat)), some (.inl (sm_mn on_ (S_.2.2.1 17 (0 + bb_) q_.toNat))), none], [.inl (S_.2.2.1 17 (0 + bb_) q_.toNat), .inl on_], S_)) rfl ?_
                refine sm_T_nt (u := some (.inl (sm_mx on_ (S_.2.2.1 17 (0 + bb_) q_.toNat)))) (S1 := S_) rfl rfl rfl ?_
                have bx10_ := sm_mx_d on_ (S_.2.2.1 17 (0 + bb_) q_.toNat)
                refine sm_T_go 5 (c1 := (107, [some (.inr (.inr (some (4, ii_)))), some (.inr (.inr (some (0, bb_)))), some (.inl p_), some (.inl on_), some (.inl q_), some (.inl (S_.2.2.1 17 (0 + bb_) q_.toNat)), some (.inl (sm_mn on_ (S_.2.2.1 17 (0 + bb_) q_.toNat))), some (.inl (sm_mx on_ (S_.2.2.1 17 (0 + bb_) q_.toNat)))], [.inl 3, .inl (sm_mn on_ (S_.2.2.1 17 (0 + bb_) q_.toNat)), .inr (.inr (some (54, (0 + ii_))))], S_)) rfl ?_
                refine sm_T_bin (w := 3 * (sm_mn on_ (S_.2.2.1 17 (0 + bb_) q_.toNat))) rfl (bi_mul (by omega) (by omega) (by omega)) ?_ -- pc_ 107
                refine sm_T_go 2 (c1 := (112, [some (.inr (.inr (some (4, ii_)))), some (.inr (.inr (some (0, bb_)))), some (.inl p_), some (.inl on_), some (.inl q_), some (.inl (S_.2.2.1 17 (0 + bb_) q_.toNat)), some (.inl (sm_mn on_ (S_.2.2.1 17 (0 + bb_) q_.toNat))), some (.inl (sm_mx on_ (S_.2.2.1 17 (0 + bb_) q_.toNat)))], [.inl 6, .inl (sm_mx on_ (S_.2.2.1 17 (0 + bb_) q_.toNat)), .inl (3 * (sm_mn on_ (S_.2.2.1 17 (0 + bb_) q_.toNat))), .inr (.inr (some (54, (0 + ii_))))], S_)) rfl ?_
                refine sm_T_bin (w := ((sm_mx on_ (S_.2.2.1 17 (0 + bb_) q_.toNat)) / 64)) rfl (bi_shr (k := 6) (by decide) (by omega) (by omega)) ?_ -- pc_ 112
                refine sm_T_bin (w := 3 * (sm_mn on_ (S_.2.2.1 17 (0 + bb_) q_.toNat)) + ((sm_mx on_ (S_.2.2.1 17 (0 + bb_) q_.toNat)) / 64)) rfl (bi_add (by omega) (by omega) (by omega)) ?_ -- pc_ 113
                refine sm_T_go 1 (c1 := (115, [some (.inr (.inr (some (4, ii_)))), some (.inr (.inr (some (0, bb_)))), some (.inl p_), some (.inl on_), some (.inl q_), some (.inl (S_.2.2.1 17 (0 + bb_) q_.toNat)), some (.inl (sm_mn on_ (S_.2.2.1 17 (0 + bb_) q_.toNat))), some (.inl (sm_mx on_ (S_.2.2.1 17 (0 + bb_) q_.toNat)))], [.inl (3 * (sm_mn on_ (S_.2.2.1 17 (0 + bb_) q_.toNat)) + ((sm_mx on_ (S_.2.2.1 17 (0 + bb_) q_.toNat)) / 64)), .inr (.inr (some (54, (0 + ii_)))), .inl (3 * (sm_mn on_ (S_.2.2.1 17 (0 + bb_) q_.toNat)) + ((sm_mx on_ (S_.2.2.1 17 (0 + bb_) q_.toNat)) / 64)), .inr (.inr (some (54, (0 + ii_))))], S_)) rfl ?_
                refine sm_T_lald (n := 486) rfl rfl (by omega) (by omega) ?_
                refine sm_T_go 3 (c1 := (121, [some (.inr (.inr (some (4, ii_)))), some (.inr (.inr (some (0, bb_)))), some (.inl p_), some (.inl on_), some (.inl q_), some (.inl (S_.2.2.1 17 (0 + bb_) q_.toNat)), some (.inl (sm_mn on_ (S_.2.2.1 17 (0 + bb_) q_.toNat))), some (.inl (sm_mx on_ (S_.2.2.1 17 (0 + bb_) q_.toNat)))], [.inl 63, .inl (sm_mx on_ (S_.2.2.1 17 (0 + bb_) q_.toNat)), .inr (.inl 1), .inr (.inl (S_.2.2.2 54 (0 + ii_) (3 * (sm_mn on_ (S_.2.2.1 17 (0 + bb_) q_.toNat)) + ((sm_mx on_ (S_.2.2.1 17 (0 + bb_) q_.toNat)) / 64)).toNat)), .inl (3 * (sm_mn on_ (S_.2.2.1 17 (0 + bb_) q_.toNat)) + ((sm_mx on_ (S_.2.2.1 17 (0 + bb_) q_.toNat)) / 64)), .inr (.inr (some (54, (0 + ii_))))], S_)) rfl ?_
                refine sm_T_bin (w := ((sm_mx on_ (S_.2.2.1 17 (0 + bb_) q_.toNat)) % 64)) rfl (bi_msk (k := 6) (by decide)) ?_ -- pc_ 121
                refine sm_T_go 2 (c1 := (124, [some (.inr (.inr (some (4, ii_)))), some (.inr (.inr (some (0, bb_)))), some (.inl p_), some (.inl on_), some (.inl q_), some (.inl (S_.2.2.1 17 (0 + bb_) q_.toNat)), some (.inl (sm_mn on_ (S_.2.2.1 17 (0 + bb_) q_.toNat))), some (.inl (sm_mx on_ (S_.2.2.1 17 (0 + bb_) q_.toNat)))], [.inr (.inl (l_4 ((S_.2.2.2 54 (0 + ii_) (3 * (sm_mn on_ (S_.2.2.1 17 (0 + bb_) q_.toNat)) + ((sm_mx on_ (S_.2.2.1 17 (0 + bb_) q_.toNat)) / 64)).toNat)) ((l_s0 1 ((sm_mx on_ (S_.2.2.1 17 (0 + bb_) q_.toNat)) % 64))))), .inl (3 * (sm_mn on_ (S_.2.2.1 17 (0 + bb_) q_.toNat)) + ((sm_mx on_ (S_.2.2.1 17 (0 + bb_) q_.toNat)) / 64)), .inr (.inr (some (54, (0 + ii_))))], S_)) rfl ?_
                refine sm_T_last (n := 486) rfl rfl (by omega) (by omega) ?_
                have hIx11_ : gi (sm_aL S_ 54 (0 + ii_) (3 * (sm_mn on_ (S_.2.2.1 17 (0 + bb_) q_.toNat)) + ((sm_mx on_ (S_.2.2.1 17 (0 + bb_) q_.toNat)) / 64)).toNat ((l_4 ((S_.2.2.2 54 (0 + ii_) (3 * (sm_mn on_ (S_.2.2.1 17 (0 + bb_) q_.toNat)) + ((sm_mx on_ (S_.2.2.1 17 (0 + bb_) q_.toNat)) / 64)).toNat)) ((l_s0 1 ((sm_mx on_ (S_.2.2.1 17 (0 + bb_) q_.toNat)) % 64)))))) := gi_aL hI_
                have hFx12_ : ai_fr (sx_W vw_86) S0_ (sm_aL S_ 54 (0 + ii_) (3 * (sm_mn on_ (S_.2.2.1 17 (0 + bb_) q_.toNat)) + ((sm_mx on_ (S_.2.2.1 17 (0 + bb_) q_.toNat)) / 64)).toNat ((l_4 ((S_.2.2.2 54 (0 + ii_) (3 * (sm_mn on_ (S_.2.2.1 17 (0 + bb_) q_.toNat)) + ((sm_mx on_ (S_.2.2.1 17 (0 + bb_) q_.toNat)) / 64)).toNat)) ((l_s0 1 ((sm_mx on_ (S_.2.2.1 17 (0 + bb_) q_.toNat)) % 64)))))) := ai_fr_tr hF_ (ai_fr_aL rfl)
                have hCx13_ : cdf ii_ S0_ (sm_aL S_ 54 (0 + ii_) (3 * (sm_mn on_ (S_.2.2.1 17 (0 + bb_) q_.toNat)) + ((sm_mx on_ (S_.2.2.1 17 (0 + bb_) q_.toNat)) / 64)).toNat ((l_4 ((S_.2.2.2 54 (0 + ii_) (3 * (sm_mn on_ (S_.2.2.1 17 (0 + bb_) q_.toNat)) + ((sm_mx on_ (S_.2.2.1 17 (0 + bb_) q_.toNat)) / 64)).toNat)) ((l_s0 1 ((sm_mx on_ (S_.2.2.1 17 (0 + bb_) q_.toNat)) % 64)))))) := cdf_aL hC_
                refine sm_T_inc (a := 4) (z := 1) (v := q_) (w := q_ + 1) rfl rfl (by omega) (by omega) (by omega) ?_ -- pc_ 125
                refine sm_T_go 1 (c1 := (34, [some (.inr (.inr (some (4, ii_)))), some (.inr (.inr (some (0, bb_)))), some (.inl p_), some (.inl on_), some (.inl (q_ + 1)), some (.inl (S_.2.2.1 17 (0 + bb_) q_.toNat)), some (.inl (sm_mn on_ (S_.2.2.1 17 (0 + bb_) q_.toNat))), some (.inl (sm_mx on_ (S_.2.2.1 17 (0 + bb_) q_.toNat)))], [], sm_aL S_ 54 (0 + ii_) (3 * (sm_mn on_ (S_.2.2.1 17 (0 + bb_) q_.toNat)) + ((sm_mx on_ (S_.2.2.1 17 (0 + bb_) q_.toNat)) / 64)).toNat ((l_4 ((S_.2.2.2 54 (0 + ii_) (3 * (sm_mn on_ (S_.2.2.1 17 (0 + bb_) q_.toNat)) + ((sm_mx on_ (S_.2.2.1 17 (0 + bb_) q_.toNat)) / 64)).toNat)) ((l_s0 1 ((sm_mx on_ (S_.2.2.1 17 (0 + bb_) q_.toNat)) % 64))))))) rfl ?_
                refine sm_T_wk [some (.inr (.inr (some (4, ii_)))), some (.inr (.inr (some (0, bb_)))), some (.inl p_), some (.inl on_), some (.inl (q_ + 1)), none, none, none] (by exact ⟨rfl, rfl, rfl, rfl, rfl, trivial⟩) ?_
                refine ih_.2.1 p_ on_ (q_ + 1) (sm_aL S_ 54 (0 + ii_) (3 * (sm_mn on_ (S_.2.2.1 17 (0 + bb_) q_.toNat)) + ((sm_mx on_ (S_.2.2.1 17 (0 + bb_) q_.toNat)) / 64)).toNat ((l_4 ((S_.2.2.2 54 (0 + ii_) (3 * (sm_mn on_ (S_.2.2.1 17 (0 + bb_) q_.toNat)) + ((sm_mx on_ (S_.2.2.1 17 (0 + bb_) q_.toNat)) / 64)).toNat)) ((l_s0 1 ((sm_mx on_ (S_.2.2.1 17 (0 + bb_) q_.toNat)) % 64)))))) hIx11_ hFx12_ ⟨?_, ?_, trivial⟩ ?_
                · ((try simp only [rd_lf, rd_fl, rf_eq, rf_nk, rf_nt, rd_fa, rd_af, ne_eq, Nat.reduceEqDiff, not_false_eq_true]); omega)
                · exact hCx13_
                · omega
    · rintro k_ S_ hI_ hF_ ⟨h0_, hC_, -⟩ hm_
      refine sm_T_go 4 (c1 := (145, [some (.inr (.inr (some (4, ii_)))), some (.inr (.inr (some (0, bb_)))), some (.inl k_), none, none, none, none, none], [.inl 486, .inl k_], S_)) rfl ?_
      refine sm_T_br (a := 3) (z := 27) rfl (fun cx1_ => ?_) (fun cx1_ => ?_)
      · have cx1_ : 486 ≤ k_ := of_decide_eq_true cx1_
        refine sm_T_rv rfl ⟨_, _, rfl, rfl, hI_, hF_, ?_⟩
        refine ⟨hC_, ?_⟩
        trivial
      · have cx1_ : ¬ (486 ≤ k_) := of_decide_eq_false cx1_
        have bx2_ : 0 ≤ S_.1 4 ii_ 4 ∧ S_.1 4 ii_ 4 ≤ 1073741823 := hI_.1 4 ii_ 4 rfl
        refine sm_T_go 6 (c1 := (158, [some (.inr (.inr (some (4, ii_)))), some (.inr (.inr (some (0, bb_)))), some (.inl k_), none, none, none, none, none], [.inl k_, .inr (.inr (some (54, (0 + ii_)))), .inl (S_.1 4 ii_ 4), .inr (.inr (some (4, ii_)))], S_)) rfl ?_
        refine sm_T_lald (n := 486) rfl rfl (by omega) (by omega) ?_
        refine sm_T_cal (d1 := 0) (Q1 := vq_8 ((S_.2.2.2 54 (0 + ii_) k_.toNat)) S_) rfl rfl (by decide) (vc_8 ((S_.2.2.2 54 (0 + ii_) k_.toNat)) S_ hI_ ) (fun u_ Sx3_ px6_ => ?_)
        obtain ⟨rfl, vx8_, rfl, px6_⟩ := px6_
        have b9_ := px6_
        refine sm_T_bin (w := (S_.1 4 ii_ 4) + vx8_) rfl (bi_add (by omega) (by omega) (by omega)) ?_ -- pc_ 162
        have hIx9_ : gi (sm_pI S_ 4 ii_ 4 ((S_.1 4 ii_ 4) + vx8_)) := gi_pI hI_ (show 0 ≤ (S_.1 4 ii_ 4) + vx8_ ∧ (S_.1 4 ii_ 4) + vx8_ ≤ 1073741823 from ⟨by omega, by omega⟩)
        have hFx10_ : ai_fr (sx_W vw_86) S0_ (sm_pI S_ 4 ii_ 4 ((S_.1 4 ii_ 4) + vx8_)) := ai_fr_tr hF_ (ai_fr_pI rfl)
        have hCx11_ : cdf ii_ S0_ (sm_pI S_ 4 ii_ 4 ((S_.1 4 ii_ 4) + vx8_)) := cdf_pI hC_ (Or.inr (by rw [show cof 4 = 0 from rfl] <;> omega))
        refine sm_T_go 1 (c1 := (166, [some (.inr (.inr (some (4, ii_)))), some (.inr (.inr (some (0, bb_)))), some (.inl k_), none, none, none, none, none], [], sm_pI S_ 4 ii_ 4 ((S_.1 4 ii_ 4) + vx8_))) rfl ?_
        refine sm_T_inc (a := 2) (z := 1) (v := k_) (w := k_ + 1) rfl rfl (by omega) (by omega) (by omega) ?_ -- pc_ 166
        refine sm_T_go 1 (c1 := (139, [some (.inr (.inr (some (4, ii_)))), some (.inr (.inr (some (0, bb_)))), some (.inl (k_ + 1)), none, none, none, none, none], [], sm_pI S_ 4 ii_ 4 ((S_.1 4 ii_ 4) + vx8_))) rfl ?_
        refine ih_.2.2 (k_ + 1) (sm_pI S_ 4 ii_ 4 ((S_.1 4 ii_ 4) + vx8_)) hIx9_ hFx10_ ⟨?_, ?_, trivial⟩ ?_
        · ((try simp only [rd_lf, rd_fl, rf_eq, rf_nk, rf_nt, rd_fa, rd_af, ne_eq, Nat.reduceEqDiff, not_false_eq_true]); omega)
        · exact hCx11_
        · omega
set_option maxHeartbeats 400000 in
theorem vc_86 {sc_ : Nat × (Nat → Int)} (ii_ : Nat) (bb_ : Nat) (S0_ : sm_S) (hI_ : gi S0_)  : sm_T (mt_P sc_) 1 86 (0, [some (.inr (.inr (some (4, ii_)))), some (.inr (.inr (some (0, bb_)))), none, none, none, none, none, none], [], S0_) (fun ro9_ => ∃ u_ S1_, ro9_ = (.inl u_, S1_, 0) ∧ vq_86 ii_ bb_ S0_ u_ S1_) := by
  have hF_ : ai_fr (sx_W vw_86) S0_ S0_ := ai_fr_rf
  have hC_ : cdf ii_ S0_ S0_ := cdf_rf
  have hIx1_ : gi (sm_pI S0_ 4 ii_ 4 0) := gi_pI hI_ (show 0 ≤ 0 ∧ 0 ≤ 1073741823 from ⟨by omega, by omega⟩)
  have hFx2_ : ai_fr (sx_W vw_86) S0_ (sm_pI S0_ 4 ii_ 4 0) := ai_fr_tr hF_ (ai_fr_pI rfl)
  have hCx3_ : cdf ii_ S0_ (sm_pI S0_ 4 ii_ 4 0) := cdf_pI hC_ (Or.inr (by rw [show cof 4 = 0 from rfl] <;> omega))
  refine sm_T_go 6 (c1 := (10, [some (.inr (.inr (some (4, ii_)))), some (.inr (.inr (some (0, bb_)))), none, none, none, none, none, none], [.inr (.inl 0), .inr (.inr (some (54, (0 + ii_))))], sm_pI S0_ 4 ii_ 4 0)) rfl ?_
  refine sm_T_cal (d1 := 0) (Q1 := vq_4s4 0 ii_ (sm_pI S0_ 4 ii_ 4 0)) rfl rfl (by decide) (vc_4s4 0 ii_ (sm_pI S0_ 4 ii_ 4 0) hIx1_ ) (fun u_ Sx4_ px7_ => ?_)
  obtain ⟨rfl, hIx5_, hFx6_, px7_⟩ := px7_
  have hFx8_ : ai_fr (sx_W vw_86) S0_ Sx4_ := ai_fr_tr hFx2_ (fr_le hFx6_ rfl)
  obtain ⟨dx10_, px7_⟩ := px7_
  have hCx9_ : cdf ii_ S0_ Sx4_ := cdf_tr hCx3_ (cdf_cg (by omega) dx10_)
  have f4_ := hFx6_.1 4 ii_ 4 rfl
  rw [rf_eq] at f4_
  refine sm_T_go 2 (c1 := (15, [some (.inr (.inr (some (4, ii_)))), some (.inr (.inr (some (0, bb_)))), some (.inl 0), none, none, none, none, none], [], Sx4_)) rfl ?_
  refine (vl_86 ii_ bb_ S0_ _).1 0 Sx4_ hIx5_ hFx8_ ⟨?_, ?_, trivial⟩ (Nat.lt_succ_self _)
  · omega
  · exact hCx9_
