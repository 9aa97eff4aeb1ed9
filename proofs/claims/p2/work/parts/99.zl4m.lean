/-! Layout.countOpens -/
def vw_87 : sx_Wl := ([(4, 5)], [], [])
def vq_87 (ii_ : Nat) (bb_ : Nat) (S0_ : sm_S) (u_ : Option sm_V) (S1_ : sm_S) : Prop := u_ = none ∧ gi S1_ ∧ ai_fr (sx_W vw_87) S0_ S1_ ∧ (cdf ii_ S0_ S1_ ∧ (True))
set_option maxHeartbeats 400000 in
theorem vl_87 {sc_ : Nat × (Nat → Int)} (ii_ : Nat) (bb_ : Nat) (S0_ : sm_S) (hb_ : bpn bb_ S0_) : ∀ nn_ : Nat, (∀ (n_ : Int) (S_ : sm_S), gi S_ → ai_fr (sx_W vw_87) S0_ S_ → ((0 ≤ n_ ∧ n_ ≤ 162 ∧ 0 ≤ S_.1 4 ii_ 5 ∧ S_.1 4 ii_ 5 ≤ n_) ∧ (cdf ii_ S0_ S_) ∧ True) → ((10000 * (700 - n_) + 9000).toNat) < nn_ → sm_T (mt_P sc_) 1 87 (7, [some (.inr (.inr (some (4, ii_)))), some (.inr (.inr (some (0, bb_)))), some (.inl n_), none, none], [], S_) (fun ro9_ => ∃ u_ S1_, ro9_ = (.inl u_, S1_, 0) ∧ vq_87 ii_ bb_ S0_ u_ S1_)) ∧ (∀ (n_ : Int) (ap_ : Int) (k_ : Int) (S_ : sm_S), gi S_ → ai_fr (sx_W vw_87) S0_ S_ → ((0 ≤ n_ ∧ n_ < 162 ∧ 0 ≤ ap_ ∧ ap_ ≤ 1 ∧ 1 ≤ k_ ∧ k_ ≤ 652 ∧ 0 ≤ S_.1 4 ii_ 5 ∧ S_.1 4 ii_ 5 ≤ n_) ∧ (cdf ii_ S0_ S_) ∧ True) → ((10000 * (700 - n_) + 8000 - k_).toNat) < nn_ → sm_T (mt_P sc_) 1 87 (19, [some (.inr (.inr (some (4, ii_)))), some (.inr (.inr (some (0, bb_)))), some (.inl n_), some (.inl ap_), some (.inl k_)], [], S_) (fun ro9_ => ∃ u_ S1_, ro9_ = (.inl u_, S1_, 0) ∧ vq_87 ii_ bb_ S0_ u_ S1_)) := by
  intro nn_
  induction nn_ with
  | zero => exact ⟨fun _ _ _ _ _ h_ => absurd h_ (Nat.not_lt_zero _), fun _ _ _ _ _ _ _ h_ => absurd h_ (Nat.not_lt_zero _)⟩
  | succ nn_ ih_ =>
    refine ⟨?_, ?_⟩
    · rintro n_ S_ hI_ hF_ ⟨h0_, hC_, -⟩ hm_
      refine sm_T_go 2 (c1 := (11, [some (.inr (.inr (some (4, ii_)))), some (.inr (.inr (some (0, bb_)))), some (.inl n_), none, none], [.inl 162, .inl n_], S_)) rfl ?_
      refine sm_T_br (a := 3) (z := 69) rfl (fun cx1_ => ?_) (fun cx1_ => ?_)
      · have cx1_ : 162 ≤ n_ := of_decide_eq_true cx1_
        refine sm_T_rv rfl ⟨_, _, rfl, rfl, hI_, hF_, ?_⟩
        refine ⟨hC_, ?_⟩
        trivial
      · have cx1_ : ¬ (162 ≤ n_) := of_decide_eq_false cx1_
        refine sm_T_go 4 (c1 := (19, [some (.inr (.inr (some (4, ii_)))), some (.inr (.inr (some (0, bb_)))), some (.inl n_), some (.inl 0), some (.inl 1)], [], S_)) rfl ?_
        refine ih_.2 n_ 0 1 S_ hI_ hF_ ⟨?_, ?_, trivial⟩ ?_
        · omega
        · exact hC_
        · omega
    · rintro n_ ap_ k_ S_ hI_ hF_ ⟨h0_, hC_, -⟩ hm_
      refine sm_T_go 4 (c1 := (26, [some (.inr (.inr (some (4, ii_)))), some (.inr (.inr (some (0, bb_)))), some (.inl n_), some (.inl ap_), some (.inl k_)], [.inl n_, .inr (.inr (some (20, (0 + bb_)))), .inl k_], S_)) rfl ?_
      refine sm_T_iald (n := 162) rfl rfl (by omega) (by omega) ?_
      have bx1_ : 0 ≤ S_.2.2.1 20 (0 + bb_) n_.toNat ∧ S_.2.2.1 20 (0 + bb_) n_.toNat ≤ 652 := hI_.2 20 (0 + bb_) _
      refine sm_T_br (a := 3) (z := 37) rfl (fun cx2_ => ?_) (fun cx2_ => ?_)
      · have cx2_ : (S_.2.2.1 20 (0 + bb_) n_.toNat) ≤ k_ := of_decide_eq_true cx2_
        have bx3_ : 0 ≤ S_.1 4 ii_ 5 ∧ S_.1 4 ii_ 5 ≤ 100000 := hI_.1 4 ii_ 5 rfl
        refine sm_T_go 4 (c1 := (70, [some (.inr (.inr (some (4, ii_)))), some (.inr (.inr (some (0, bb_)))), some (.inl n_), some (.inl ap_), some (.inl k_)], [.inl ap_, .inl (S_.1 4 ii_ 5), .inr (.inr (some (4, ii_)))], S_)) rfl ?_
        refine sm_T_bin (w := (S_.1 4 ii_ 5) + ap_) rfl (bi_add (by omega) (by omega) (by omega)) ?_ -- pc_ 70
        have hIx4_ : gi (sm_pI S_ 4 ii_ 5 ((S_.1 4 ii_ 5) + ap_)) := gi_pI hI_ (show 0 ≤ (S_.1 4 ii_ 5) + ap_ ∧ (S_.1 4 ii_ 5) + ap_ ≤ 100000 from ⟨by omega, by omega⟩)
        have hFx5_ : ai_fr (sx_W vw_87) S0_ (sm_pI S_ 4 ii_ 5 ((S_.1 4 ii_ 5) + ap_)) := ai_fr_tr hF_ (ai_fr_pI rfl)
        have hCx6_ : cdf ii_ S0_ (sm_pI S_ 4 ii_ 5 ((S_.1 4 ii_ 5) + ap_)) := cdf_pI hC_ (Or.inr (by rw [show cof 4 = 0 from rfl] <;> omega))
        refine sm_T_go 1 (c1 := (74, [some (.inr (.inr (some (4, ii_)))), some (.inr (.inr (some (0, bb_)))), some (.inl n_), some (.inl ap_), some (.inl k_)], [], sm_pI S_ 4 ii_ 5 ((S_.1 4 ii_ 5) + ap_))) rfl ?_
        refine sm_T_inc (a := 2) (z := 1) (v := n_) (w := n_ + 1) rfl rfl (by omega) (by omega) (by omega) ?_ -- pc_ 74
        refine sm_T_go 1 (c1 := (7, [some (.inr (.inr (some (4, ii_)))), some (.inr (.inr (some (0, bb_)))), some (.inl (n_ + 1)), some (.inl ap_), some (.inl k_)], [], sm_pI S_ 4 ii_ 5 ((S_.1 4 ii_ 5) + ap_))) rfl ?_
        refine sm_T_wk [some (.inr (.inr (some (4, ii_)))), some (.inr (.inr (some (0, bb_)))), some (.inl (n_ + 1)), none, none] (by exact ⟨rfl, rfl, rfl, trivial⟩) ?_
        refine ih_.1 (n_ + 1) (sm_pI S_ 4 ii_ 5 ((S_.1 4 ii_ 5) + ap_)) hIx4_ hFx5_ ⟨?_, ?_, trivial⟩ ?_
        · ((try simp only [rd_lf, rd_fl, rf_eq, rf_nk, rf_nt, rd_fa, rd_af, ne_eq, Nat.reduceEqDiff, not_false_eq_true]); omega)
        · exact hCx6_
        · omega
      · have cx2_ : ¬ ((S_.2.2.1 20 (0 + bb_) n_.toNat) ≤ k_) := of_decide_eq_false cx2_
        refine sm_T_go 5 (c1 := (38, [some (.inr (.inr (some (4, ii_)))), some (.inr (.inr (some (0, bb_)))), some (.inl n_), some (.inl ap_), some (.inl k_)], [.inl k_, .inl n_, .inr (.inr (some (0, bb_))), .inr (.inr (some (52, (0 + ii_))))], S_)) rfl ?_
        refine sm_T_cal (d1 := 0) (Q1 := vq_14 n_ k_ bb_ S_) rfl rfl (by decide) (vc_14 n_ k_ bb_ S_ hI_ (by omega) (by omega) (by exact bpn_fr hb_ hF_ rfl rfl rfl rfl)) (fun u_ Sx7_ px10_ => ?_)
        obtain ⟨rfl, vx12_, rfl, px10_⟩ := px10_
        have p1_ := px10_.1
        refine sm_T_iald (n := 652) rfl rfl (by omega) (by omega) ?_
        have bx13_ : (-652) ≤ S_.2.2.1 52 (0 + ii_) vx12_.toNat ∧ S_.2.2.1 52 (0 + ii_) vx12_.toNat ≤ 1999 := hI_.2 52 (0 + ii_) _
        refine sm_T_go 5 (c1 := (49, [some (.inr (.inr (some (4, ii_)))), some (.inr (.inr (some (0, bb_)))), some (.inl n_), some (.inl ap_), some (.inl k_)], [.inl 0, .inl n_, .inr (.inr (some (0, bb_))), .inr (.inr (some (52, (0 + ii_)))), .inl (S_.2.2.1 52 (0 + ii_) vx12_.toNat)], S_)) rfl ?_
        refine sm_T_cal (d1 := 0) (Q1 := vq_14 n_ 0 bb_ S_) rfl rfl (by decide) (vc_14 n_ 0 bb_ S_ hI_ (by omega) (by omega) (by exact bpn_fr hb_ hF_ rfl rfl rfl rfl)) (fun u_ Sx14_ px17_ => ?_)
        obtain ⟨rfl, vx19_, rfl, px17_⟩ := px17_
        have p2_ := px17_.1
        refine sm_T_iald (n := 652) rfl rfl (by omega) (by omega) ?_
        have bx20_ : (-652) ≤ S_.2.2.1 52 (0 + ii_) vx19_.toNat ∧ S_.2.2.1 52 (0 + ii_) vx19_.toNat ≤ 1999 := hI_.2 52 (0 + ii_) _
        refine sm_T_br (a := 0) (z := 5) rfl (fun cx21_ => ?_) (fun cx21_ => ?_)
        · have cx21_ : (S_.2.2.1 52 (0 + ii_) vx12_.toNat) = (S_.2.2.1 52 (0 + ii_) vx19_.toNat) := of_decide_eq_true cx21_
          refine sm_T_inc (a := 4) (z := 1) (v := k_) (w := k_ + 1) rfl rfl (by omega) (by omega) (by omega) ?_ -- pc_ 58
          refine sm_T_go 1 (c1 := (19, [some (.inr (.inr (some (4, ii_)))), some (.inr (.inr (some (0, bb_)))), some (.inl n_), some (.inl ap_), some (.inl (k_ + 1))], [], S_)) rfl ?_
          refine ih_.2 n_ ap_ (k_ + 1) S_ hI_ hF_ ⟨?_, ?_, trivial⟩ ?_
          · omega
          · exact hC_
          · omega
        · have cx21_ : ¬ ((S_.2.2.1 52 (0 + ii_) vx12_.toNat) = (S_.2.2.1 52 (0 + ii_) vx19_.toNat)) := of_decide_eq_false cx21_
          refine sm_T_go 2 (c1 := (58, [some (.inr (.inr (some (4, ii_)))), some (.inr (.inr (some (0, bb_)))), some (.inl n_), some (.inl 1), some (.inl k_)], [], S_)) rfl ?_
          refine sm_T_inc (a := 4) (z := 1) (v := k_) (w := k_ + 1) rfl rfl (by omega) (by omega) (by omega) ?_ -- pc_ 58
          refine sm_T_go 1 (c1 := (19, [some (.inr (.inr (some (4, ii_)))), some (.inr (.inr (some (0, bb_)))), some (.inl n_), some (.inl 1), some (.inl (k_ + 1))], [], S_)) rfl ?_
          refine ih_.2 n_ 1 (k_ + 1) S_ hI_ hF_ ⟨?_, ?_, trivial⟩ ?_
          · omega
          · exact hC_
          · omega
set_option maxHeartbeats 400000 in
theorem vc_87 {sc_ : Nat × (Nat → Int)} (ii_ : Nat) (bb_ : Nat) (S0_ : sm_S) (hI_ : gi S0_) (hb_ : bpn bb_ S0_) : sm_T (mt_P sc_) 1 87 (0, [some (.inr (.inr (some (4, ii_)))), some (.inr (.inr (some (0, bb_)))), none, none, none], [], S0_) (fun ro9_ => ∃ u_ S1_, ro9_ = (.inl u_, S1_, 0) ∧ vq_87 ii_ bb_ S0_ u_ S1_) := by
  have hF_ : ai_fr (sx_W vw_87) S0_ S0_ := ai_fr_rf
  have hC_ : cdf ii_ S0_ S0_ := cdf_rf
  have hIx1_ : gi (sm_pI S0_ 4 ii_ 5 0) := gi_pI hI_ (show 0 ≤ 0 ∧ 0 ≤ 100000 from ⟨by omega, by omega⟩)
  have hFx2_ : ai_fr (sx_W vw_87) S0_ (sm_pI S0_ 4 ii_ 5 0) := ai_fr_tr hF_ (ai_fr_pI rfl)
  have hCx3_ : cdf ii_ S0_ (sm_pI S0_ 4 ii_ 5 0) := cdf_pI hC_ (Or.inr (by rw [show cof 4 = 0 from rfl] <;> omega))
  refine sm_T_go 5 (c1 := (7, [some (.inr (.inr (some (4, ii_)))), some (.inr (.inr (some (0, bb_)))), some (.inl 0), none, none], [], sm_pI S0_ 4 ii_ 5 0)) rfl ?_
  refine (vl_87 ii_ bb_ S0_ hb_ _).1 0 (sm_pI S0_ 4 ii_ 5 0) hIx1_ hFx2_ ⟨?_, ?_, trivial⟩ (Nat.lt_succ_self _)
  · ((try simp only [rd_lf, rd_fl, rf_eq, rf_nk, rf_nt, rd_fa, rd_af, ne_eq, Nat.reduceEqDiff, not_false_eq_true]); omega)
  · exact hCx3_
