/-! 99.zj7b -/
section
/-! Board.listPins -/
def vw_13 : sx_Wl := ([], [18, 19, 20], [])
def vq_13 (ii_ : Nat) (S0_ : sm_S) (u_ : Option sm_V) (S1_ : sm_S) : Prop := u_ = none ∧ gi S1_ ∧ ai_fr (sx_W vw_13) S0_ S1_ ∧ (cdf ii_ S0_ S1_ ∧ (bpn ii_ S1_))
set_option maxHeartbeats 400000 in
theorem vl_13 {sc_ : Nat × (Nat → Int)} (ii_ : Nat) (S0_ : sm_S) (hcn_ : bcn ii_ S0_) : ∀ nn_ : Nat, (∀ (bh_ : Int) (nt_ : Int) (S_ : sm_S), gi S_ → ai_fr (sx_W vw_13) S0_ S_ → ((0 ≤ bh_ ∧ 0 ≤ nt_ ∧ nt_ ≤ 162) ∧ (bh_ = (scn (S0_.2.2.1 17 (0 + ii_)) 652 nt_.toNat : Int)) ∧ (∀ c_ : Nat, (c_ : Int) < nt_ → S_.2.2.1 19 (0 + ii_) c_ = (scn (S0_.2.2.1 17 (0 + ii_)) 652 c_ : Int) ∧ S_.2.2.1 20 (0 + ii_) c_ = 0) ∧ (∀ c_ : Nat, nt_ ≤ (c_ : Int) → c_ < 162 → S_.2.2.1 20 (0 + ii_) c_ = (cne (S0_.2.2.1 17 (0 + ii_)) (c_ : Int) 652 : Int)) ∧ (cdf ii_ S0_ S_) ∧ True) → ((2000 - nt_).toNat) < nn_ → sm_T (mt_P sc_) 0 13 (4, [some (.inr (.inr (some (0, ii_)))), some (.inl bh_), some (.inl nt_), none], [], S_) (fun ro9_ => ∃ u_ S1_, ro9_ = (.inl u_, S1_, 0) ∧ vq_13 ii_ S0_ u_ S1_)) ∧ (∀ (pn_ : Int) (S_ : sm_S), gi S_ → ai_fr (sx_W vw_13) S0_ S_ → ((0 ≤ pn_ ∧ pn_ ≤ 652) ∧ (∀ c_ : Nat, c_ < 162 → S_.2.2.1 19 (0 + ii_) c_ = (scn (S0_.2.2.1 17 (0 + ii_)) 652 c_ : Int) ∧ S_.2.2.1 20 (0 + ii_) c_ = (cne (S0_.2.2.1 17 (0 + ii_)) (c_ : Int) pn_.toNat : Int)) ∧ (∀ c_ : Nat, c_ < 162 → ∀ k_ : Nat, (k_ : Int) < S_.2.2.1 20 (0 + ii_) c_ → (S0_.2.2.1 17 (0 + ii_)) (S_.2.2.1 18 (0 + ii_) ((S_.2.2.1 19 (0 + ii_) c_).toNat + k_)).toNat = (c_ : Int)) ∧ (cdf ii_ S0_ S_) ∧ True) → ((1000 - pn_).toNat) < nn_ → sm_T (mt_P sc_) 0 13 (42, [some (.inr (.inr (some (0, ii_)))), none, some (.inl pn_), none], [], S_) (fun ro9_ => ∃ u_ S1_, ro9_ = (.inl u_, S1_, 0) ∧ vq_13 ii_ S0_ u_ S1_)) := by
  intro nn_
  induction nn_ with
  | zero => exact ⟨fun _ _ _ _ _ _ h_ => absurd h_ (Nat.not_lt_zero _), fun _ _ _ _ _ h_ => absurd h_ (Nat.not_lt_zero _)⟩
  | succ nn_ ih_ =>
    refine ⟨?_, ?_⟩
    · rintro bh_ nt_ S_ hI_ hF_ ⟨h0_, h1_, h2_, h3_, hC_, -⟩ hm_
      have sl9_ := scn_le (f := (S0_.2.2.1 17 (0 + ii_))) nt_.toNat 652
      refine sm_T_go 2 (c1 := (8, [some (.inr (.inr (some (0, ii_)))), some (.inl bh_), some (.inl nt_), none], [.inl 162, .inl nt_], S_)) rfl ?_
      refine sm_T_br (a := 3) (z := 32) rfl (fun cx1_ => ?_) (fun cx1_ => ?_)
      · have cx1_ : 162 ≤ nt_ := of_decide_eq_true cx1_
        refine sm_T_go 2 (c1 := (42, [some (.inr (.inr (some (0, ii_)))), some (.inl bh_), some (.inl 0), none], [], S_)) rfl ?_
        refine sm_T_wk [some (.inr (.inr (some (0, ii_)))), none, some (.inl 0), none] (by exact ⟨rfl, rfl, trivial⟩) ?_
        refine ih_.2 0 S_ hI_ hF_ ⟨?_, ?_, ?_, ?_, trivial⟩ ?_
        · omega
        · intro c_ hc_
          have z_ := h2_ c_ (by omega)
          exact ⟨z_.1, z_.2.trans rfl⟩
        · intro c_ hc_ k_ hk_
          have z_ := h2_ c_ (by omega)
          exfalso; omega
        · exact hC_
        · omega
      · have cx1_ : ¬ (162 ≤ nt_) := of_decide_eq_false cx1_
        have c9_ := h3_ nt_.toNat (by omega) (by omega)
        have m9_ := scn_mo (f := (S0_.2.2.1 17 (0 + ii_))) (n := 652) (a := nt_.toNat) (b := 162) (by omega)
        have q9_ := scn_le (f := (S0_.2.2.1 17 (0 + ii_))) 162 652
        refine sm_T_go 4 (c1 := (17, [some (.inr (.inr (some (0, ii_)))), some (.inl bh_), some (.inl nt_), none], [.inl bh_, .inl nt_, .inr (.inr (some (19, (0 + ii_))))], S_)) rfl ?_
        refine sm_T_iast (n := 162) rfl rfl (by omega) (by omega) ?_
        have hIx2_ : gi (sm_aI S_ 19 (0 + ii_) nt_.toNat bh_) := gi_aI hI_ (show 0 ≤ bh_ ∧ bh_ ≤ 652 from ⟨by omega, by omega⟩)
        have hFx3_ : ai_fr (sx_W vw_13) S0_ (sm_aI S_ 19 (0 + ii_) nt_.toNat bh_) := ai_fr_tr hF_ (ai_fr_aI rfl)
        have hCx4_ : cdf ii_ S0_ (sm_aI S_ 19 (0 + ii_) nt_.toNat bh_) := cdf_aI hC_ (Or.inr (by rw [show cof 19 = 0 from rfl] <;> omega))
        refine sm_T_go 4 (c1 := (24, [some (.inr (.inr (some (0, ii_)))), some (.inl bh_), some (.inl nt_), none], [.inl nt_, .inr (.inr (some (20, (0 + ii_)))), .inl bh_], sm_aI S_ 19 (0 + ii_) nt_.toNat bh_)) rfl ?_
        refine sm_T_iald (n := 162) rfl rfl (by omega) (by omega) ?_
        have bx5_ : 0 ≤ S_.2.2.1 20 (0 + ii_) nt_.toNat ∧ S_.2.2.1 20 (0 + ii_) nt_.toNat ≤ 652 := hI_.2 20 (0 + ii_) _
        refine sm_T_go 0 (c1 := (25, [some (.inr (.inr (some (0, ii_)))), some (.inl bh_), some (.inl nt_), none], [.inl (S_.2.2.1 20 (0 + ii_) nt_.toNat), .inl bh_], sm_aI S_ 19 (0 + ii_) nt_.toNat bh_)) rfl ?_
        refine sm_T_bin (w := bh_ + (S_.2.2.1 20 (0 + ii_) nt_.toNat)) rfl (bi_add (by omega) (by omega) (by omega)) ?_ -- pc_ 25
        refine sm_T_go 5 (c1 := (33, [some (.inr (.inr (some (0, ii_)))), some (.inl (bh_ + (S_.2.2.1 20 (0 + ii_) nt_.toNat))), some (.inl nt_), none], [.inl 0, .inl nt_, .inr (.inr (some (20, (0 + ii_))))], sm_aI S_ 19 (0 + ii_) nt_.toNat bh_)) rfl ?_
        refine sm_T_iast (n := 162) rfl rfl (by omega) (by omega) ?_
        have hIx6_ : gi (sm_aI (sm_aI S_ 19 (0 + ii_) nt_.toNat bh_) 20 (0 + ii_) nt_.toNat 0) := gi_aI hIx2_ (show 0 ≤ 0 ∧ 0 ≤ 652 from ⟨by omega, by omega⟩)
        have hFx7_ : ai_fr (sx_W vw_13) S0_ (sm_aI (sm_aI S_ 19 (0 + ii_) nt_.toNat bh_) 20 (0 + ii_) nt_.toNat 0) := ai_fr_tr hFx3_ (ai_fr_aI rfl)
        have hCx8_ : cdf ii_ S0_ (sm_aI (sm_aI S_ 19 (0 + ii_) nt_.toNat bh_) 20 (0 + ii_) nt_.toNat 0) := cdf_aI hCx4_ (Or.inr (by rw [show cof 20 = 0 from rfl] <;> omega))
        refine sm_T_inc (a := 2) (z := 1) (v := nt_) (w := nt_ + 1) rfl rfl (by omega) (by omega) (by omega) ?_ -- pc_ 34
        refine sm_T_go 1 (c1 := (4, [some (.inr (.inr (some (0, ii_)))), some (.inl (bh_ + (S_.2.2.1 20 (0 + ii_) nt_.toNat))), some (.inl (nt_ + 1)), none], [], sm_aI (sm_aI S_ 19 (0 + ii_) nt_.toNat bh_) 20 (0 + ii_) nt_.toNat 0)) rfl ?_
        refine ih_.1 (bh_ + (S_.2.2.1 20 (0 + ii_) nt_.toNat)) (nt_ + 1) (sm_aI (sm_aI S_ 19 (0 + ii_) nt_.toNat bh_) 20 (0 + ii_) nt_.toNat 0) hIx6_ hFx7_ ⟨?_, ?_, ?_, ?_, ?_, trivial⟩ ?_
        · omega
        · (rw [show (nt_ + 1).toNat = nt_.toNat + 1 by omega]; show _ = ((scn (S0_.2.2.1 17 (0 + ii_)) 652 nt_.toNat + cne (S0_.2.2.1 17 (0 + ii_)) (nt_.toNat : Int) 652 : Nat) : Int); push_cast; omega)
        · intro c_ hc_
          (try simp only [rd_eq, rd_ne, rf_eq, rf_nk, rf_nt, rd_fa, rd_af, rd_fl, rd_al, rd_lf, rd_la, rd_leq, rd_lne, rd_fr, rd_ar, ne_eq, Nat.reduceEqDiff, not_false_eq_true])
          by_cases z_ : c_ = nt_.toNat
          · rw [if_pos z_, if_pos z_, z_]; exact ⟨h1_, rfl⟩
          · rw [if_neg z_, if_neg z_]; exact h2_ c_ (by omega)
        · intro c_ hc_ h_
          (try simp only [rd_eq, rd_ne, rf_eq, rf_nk, rf_nt, rd_fa, rd_af, rd_fl, rd_al, rd_lf, rd_la, rd_leq, rd_lne, rd_fr, rd_ar, ne_eq, Nat.reduceEqDiff, not_false_eq_true])
          rw [if_neg (by omega)]
          exact h3_ c_ (by omega) h_
        · exact hCx8_
        · omega
    · rintro pn_ S_ hI_ hF_ ⟨h0_, h2_, h4_, hC_, -⟩ hm_
      have f17_ : S_.2.2.1 17 (0 + ii_) = (S0_.2.2.1 17 (0 + ii_)) := fr_arr hF_ rfl
      refine sm_T_go 2 (c1 := (46, [some (.inr (.inr (some (0, ii_)))), none, some (.inl pn_), none], [.inl 652, .inl pn_], S_)) rfl ?_
      refine sm_T_br (a := 3) (z := 50) rfl (fun cx1_ => ?_) (fun cx1_ => ?_)
      · have cx1_ : 652 ≤ pn_ := of_decide_eq_true cx1_
        refine sm_T_rv rfl ⟨_, _, rfl, rfl, hI_, hF_, ?_⟩
        refine ⟨hC_, ?_⟩
        intro c_ hc_
        have z9_ : pn_.toNat = 652 := by omega
        have g9_ := h2_ c_ hc_
        rw [z9_] at g9_
        have m9_ := scn_mo (f := (S0_.2.2.1 17 (0 + ii_))) (n := 652) (a := c_) (b := 162) hc_
        have q9_ := scn_le (f := (S0_.2.2.1 17 (0 + ii_))) 162 652
        refine ⟨by omega, fun k_ hk_ => ?_⟩
        rw [f17_]
        exact h4_ c_ hc_ k_ hk_
      · have cx1_ : ¬ (652 ≤ pn_) := of_decide_eq_false cx1_
        refine sm_T_go 3 (c1 := (54, [some (.inr (.inr (some (0, ii_)))), none, some (.inl pn_), none], [.inl pn_, .inr (.inr (some (17, (0 + ii_))))], S_)) rfl ?_
        refine sm_T_iald (n := 652) rfl rfl (by omega) (by omega) ?_
        have bx2_ : (-1) ≤ S_.2.2.1 17 (0 + ii_) pn_.toNat ∧ S_.2.2.1 17 (0 + ii_) pn_.toNat ≤ 161 := hI_.2 17 (0 + ii_) _
        refine sm_T_go 3 (c1 := (58, [some (.inr (.inr (some (0, ii_)))), none, some (.inl pn_), some (.inl (S_.2.2.1 17 (0 + ii_) pn_.toNat))], [.inl (-1), .inl (S_.2.2.1 17 (0 + ii_) pn_.toNat)], S_)) rfl ?_
        refine sm_T_br (a := 0) (z := 32) rfl (fun cx3_ => ?_) (fun cx3_ => ?_)
        · have cx3_ : (S_.2.2.1 17 (0 + ii_) pn_.toNat) = (-1) := of_decide_eq_true cx3_
          refine sm_T_inc (a := 2) (z := 1) (v := pn_) (w := pn_ + 1) rfl rfl (by omega) (by omega) (by omega) ?_ -- pc_ 90
          refine sm_T_go 1 (c1 := (42, [some (.inr (.inr (some (0, ii_)))), none, some (.inl (pn_ + 1)), some (.inl (S_.2.2.1 17 (0 + ii_) pn_.toNat))], [], S_)) rfl ?_
          refine sm_T_wk [some (.inr (.inr (some (0, ii_)))), none, some (.inl (pn_ + 1)), none] (by exact ⟨rfl, rfl, trivial⟩) ?_
          refine ih_.2 (pn_ + 1) S_ hI_ hF_ ⟨?_, ?_, ?_, ?_, trivial⟩ ?_
          · omega
          · intro c_ hc_
            have z_ := h2_ c_ hc_
            refine ⟨z_.1, z_.2.trans ?_⟩
            rw [show (pn_ + 1).toNat = pn_.toNat + 1 by omega, cne_s, if_neg (by rw [← f17_]; omega)]; rfl
          · exact h4_
          · exact hC_
          · omega
        · have cx3_ : ¬ ((S_.2.2.1 17 (0 + ii_) pn_.toNat) = (-1)) := of_decide_eq_false cx3_
          have g9_ := h2_ (S_.2.2.1 17 (0 + ii_) pn_.toNat).toNat (by omega)
          have m9_ := scn_mo (f := (S0_.2.2.1 17 (0 + ii_))) (n := 652) (a := (S_.2.2.1 17 (0 + ii_) pn_.toNat).toNat) (b := 162) (by omega)
          have q9_ := scn_le (f := (S0_.2.2.1 17 (0 + ii_))) 162 652
          rw [show (((S_.2.2.1 17 (0 + ii_) pn_.toNat).toNat : Nat) : Int) = (S_.2.2.1 17 (0 + ii_) pn_.toNat) by omega] at m9_ g9_
          have s9_ := cne_st (f := (S0_.2.2.1 17 (0 + ii_))) (c := (S_.2.2.1 17 (0 + ii_) pn_.toNat)) (j := pn_.toNat) (by rw [f17_]) (n := 652) (by omega)
          refine sm_T_go 5 (c1 := (70, [some (.inr (.inr (some (0, ii_)))), none, some (.inl pn_), some (.inl (S_.2.2.1 17 (0 + ii_) pn_.toNat))], [.inl (S_.2.2.1 17 (0 + ii_) pn_.toNat), .inr (.inr (some (19, (0 + ii_)))), .inr (.inr (some (18, (0 + ii_))))], S_)) rfl ?_
          refine sm_T_iald (n := 162) rfl rfl (by omega) (by omega) ?_
          have bx4_ : 0 ≤ S_.2.2.1 19 (0 + ii_) (S_.2.2.1 17 (0 + ii_) pn_.toNat).toNat ∧ S_.2.2.1 19 (0 + ii_) (S_.2.2.1 17 (0 + ii_) pn_.toNat).toNat ≤ 652 := hI_.2 19 (0 + ii_) _
          refine sm_T_go 3 (c1 := (76, [some (.inr (.inr (some (0, ii_)))), none, some (.inl pn_), some (.inl (S_.2.2.1 17 (0 + ii_) pn_.toNat))], [.inl (S_.2.2.1 17 (0 + ii_) pn_.toNat), .inr (.inr (some (20, (0 + ii_)))), .inl (S_.2.2.1 19 (0 + ii_) (S_.2.2.1 17 (0 + ii_) pn_.toNat).toNat), .inr (.inr (some (18, (0 + ii_))))], S_)) rfl ?_
          refine sm_T_iald (n := 162) rfl rfl (by omega) (by omega) ?_
          have bx5_ : 0 ≤ S_.2.2.1 20 (0 + ii_) (S_.2.2.1 17 (0 + ii_) pn_.toNat).toNat ∧ S_.2.2.1 20 (0 + ii_) (S_.2.2.1 17 (0 + ii_) pn_.toNat).toNat ≤ 652 := hI_.2 20 (0 + ii_) _
          refine sm_T_bin (w := (S_.2.2.1 19 (0 + ii_) (S_.2.2.1 17 (0 + ii_) pn_.toNat).toNat) + (S_.2.2.1 20 (0 + ii_) (S_.2.2.1 17 (0 + ii_) pn_.toNat).toNat)) rfl (bi_add (by omega) (by omega) (by omega)) ?_ -- pc_ 77
          refine sm_T_go 1 (c1 := (79, [some (.inr (.inr (some (0, ii_)))), none, some (.inl pn_), some (.inl (S_.2.2.1 17 (0 + ii_) pn_.toNat))], [.inl pn_, .inl ((S_.2.2.1 19 (0 + ii_) (S_.2.2.1 17 (0 + ii_) pn_.toNat).toNat) + (S_.2.2.1 20 (0 + ii_) (S_.2.2.1 17 (0 + ii_) pn_.toNat).toNat)), .inr (.inr (some (18, (0 + ii_))))], S_)) rfl ?_
          refine sm_T_iast (n := 652) rfl rfl (by omega) (by omega) ?_
          have hIx6_ : gi (sm_aI S_ 18 (0 + ii_) ((S_.2.2.1 19 (0 + ii_) (S_.2.2.1 17 (0 + ii_) pn_.toNat).toNat) + (S_.2.2.1 20 (0 + ii_) (S_.2.2.1 17 (0 + ii_) pn_.toNat).toNat)).toNat pn_) := gi_aI hI_ (show 0 ≤ pn_ ∧ pn_ ≤ 651 from ⟨by omega, by omega⟩)
          have hFx7_ : ai_fr (sx_W vw_13) S0_ (sm_aI S_ 18 (0 + ii_) ((S_.2.2.1 19 (0 + ii_) (S_.2.2.1 17 (0 + ii_) pn_.toNat).toNat) + (S_.2.2.1 20 (0 + ii_) (S_.2.2.1 17 (0 + ii_) pn_.toNat).toNat)).toNat pn_) := ai_fr_tr hF_ (ai_fr_aI rfl)
          have hCx8_ : cdf ii_ S0_ (sm_aI S_ 18 (0 + ii_) ((S_.2.2.1 19 (0 + ii_) (S_.2.2.1 17 (0 + ii_) pn_.toNat).toNat) + (S_.2.2.1 20 (0 + ii_) (S_.2.2.1 17 (0 + ii_) pn_.toNat).toNat)).toNat pn_) := cdf_aI hC_ (Or.inr (by rw [show cof 18 = 0 from rfl] <;> omega))
          refine sm_T_go 4 (c1 := (86, [some (.inr (.inr (some (0, ii_)))), none, some (.inl pn_), some (.inl (S_.2.2.1 17 (0 + ii_) pn_.toNat))], [.inl (S_.2.2.1 17 (0 + ii_) pn_.toNat), .inr (.inr (some (20, (0 + ii_)))), .inl (S_.2.2.1 17 (0 + ii_) pn_.toNat), .inr (.inr (some (20, (0 + ii_))))], sm_aI S_ 18 (0 + ii_) ((S_.2.2.1 19 (0 + ii_) (S_.2.2.1 17 (0 + ii_) pn_.toNat).toNat) + (S_.2.2.1 20 (0 + ii_) (S_.2.2.1 17 (0 + ii_) pn_.toNat).toNat)).toNat pn_)) rfl ?_
          refine sm_T_iald (n := 162) rfl rfl (by omega) (by omega) ?_
          refine sm_T_go 1 (c1 := (88, [some (.inr (.inr (some (0, ii_)))), none, some (.inl pn_), some (.inl (S_.2.2.1 17 (0 + ii_) pn_.toNat))], [.inl 1, .inl (S_.2.2.1 20 (0 + ii_) (S_.2.2.1 17 (0 + ii_) pn_.toNat).toNat), .inl (S_.2.2.1 17 (0 + ii_) pn_.toNat), .inr (.inr (some (20, (0 + ii_))))], sm_aI S_ 18 (0 + ii_) ((S_.2.2.1 19 (0 + ii_) (S_.2.2.1 17 (0 + ii_) pn_.toNat).toNat) + (S_.2.2.1 20 (0 + ii_) (S_.2.2.1 17 (0 + ii_) pn_.toNat).toNat)).toNat pn_)) rfl ?_
          refine sm_T_bin (w := (S_.2.2.1 20 (0 + ii_) (S_.2.2.1 17 (0 + ii_) pn_.toNat).toNat) + 1) rfl (bi_add (by omega) (by omega) (by omega)) ?_ -- pc_ 88
          refine sm_T_iast (n := 162) rfl rfl (by omega) (by omega) ?_
          have hIx9_ : gi (sm_aI (sm_aI S_ 18 (0 + ii_) ((S_.2.2.1 19 (0 + ii_) (S_.2.2.1 17 (0 + ii_) pn_.toNat).toNat) + (S_.2.2.1 20 (0 + ii_) (S_.2.2.1 17 (0 + ii_) pn_.toNat).toNat)).toNat pn_) 20 (0 + ii_) (S_.2.2.1 17 (0 + ii_) pn_.toNat).toNat ((S_.2.2.1 20 (0 + ii_) (S_.2.2.1 17 (0 + ii_) pn_.toNat).toNat) + 1)) := gi_aI hIx6_ (show 0 ≤ (S_.2.2.1 20 (0 + ii_) (S_.2.2.1 17 (0 + ii_) pn_.toNat).toNat) + 1 ∧ (S_.2.2.1 20 (0 + ii_) (S_.2.2.1 17 (0 + ii_) pn_.toNat).toNat) + 1 ≤ 652 from ⟨by omega, by omega⟩)
          have hFx10_ : ai_fr (sx_W vw_13) S0_ (sm_aI (sm_aI S_ 18 (0 + ii_) ((S_.2.2.1 19 (0 + ii_) (S_.2.2.1 17 (0 + ii_) pn_.toNat).toNat) + (S_.2.2.1 20 (0 + ii_) (S_.2.2.1 17 (0 + ii_) pn_.toNat).toNat)).toNat pn_) 20 (0 + ii_) (S_.2.2.1 17 (0 + ii_) pn_.toNat).toNat ((S_.2.2.1 20 (0 + ii_) (S_.2.2.1 17 (0 + ii_) pn_.toNat).toNat) + 1)) := ai_fr_tr hFx7_ (ai_fr_aI rfl)
          have hCx11_ : cdf ii_ S0_ (sm_aI (sm_aI S_ 18 (0 + ii_) ((S_.2.2.1 19 (0 + ii_) (S_.2.2.1 17 (0 + ii_) pn_.toNat).toNat) + (S_.2.2.1 20 (0 + ii_) (S_.2.2.1 17 (0 + ii_) pn_.toNat).toNat)).toNat pn_) 20 (0 + ii_) (S_.2.2.1 17 (0 + ii_) pn_.toNat).toNat ((S_.2.2.1 20 (0 + ii_) (S_.2.2.1 17 (0 + ii_) pn_.toNat).toNat) + 1)) := cdf_aI hCx8_ (Or.inr (by rw [show cof 20 = 0 from rfl] <;> omega))
          refine sm_T_inc (a := 2) (z := 1) (v := pn_) (w := pn_ + 1) rfl rfl (by omega) (by omega) (by omega) ?_ -- pc_ 90
          refine sm_T_go 1 (c1 := (42, [some (.inr (.inr (some (0, ii_)))), none, some (.inl (pn_ + 1)), some (.inl (S_.2.2.1 17 (0 + ii_) pn_.toNat))], [], sm_aI (sm_aI S_ 18 (0 + ii_) ((S_.2.2.1 19 (0 + ii_) (S_.2.2.1 17 (0 + ii_) pn_.toNat).toNat) + (S_.2.2.1 20 (0 + ii_) (S_.2.2.1 17 (0 + ii_) pn_.toNat).toNat)).toNat pn_) 20 (0 + ii_) (S_.2.2.1 17 (0 + ii_) pn_.toNat).toNat ((S_.2.2.1 20 (0 + ii_) (S_.2.2.1 17 (0 + ii_) pn_.toNat).toNat) + 1))) rfl ?_
          refine sm_T_wk [some (.inr (.inr (some (0, ii_)))), none, some (.inl (pn_ + 1)), none] (by exact ⟨rfl, rfl, trivial⟩) ?_
          refine ih_.2 (pn_ + 1) (sm_aI (sm_aI S_ 18 (0 + ii_) ((S_.2.2.1 19 (0 + ii_) (S_.2.2.1 17 (0 + ii_) pn_.toNat).toNat) + (S_.2.2.1 20 (0 + ii_) (S_.2.2.1 17 (0 + ii_) pn_.toNat).toNat)).toNat pn_) 20 (0 + ii_) (S_.2.2.1 17 (0 + ii_) pn_.toNat).toNat ((S_.2.2.1 20 (0 + ii_) (S_.2.2.1 17 (0 + ii_) pn_.toNat).toNat) + 1)) hIx9_ hFx10_ ⟨?_, ?_, ?_, ?_, trivial⟩ ?_
          · omega
          · intro c_ hc_
            have z_ := h2_ c_ hc_
            (try simp only [rd_eq, rd_ne, rf_eq, rf_nk, rf_nt, rd_fa, rd_af, rd_fl, rd_al, rd_lf, rd_la, rd_leq, rd_lne, rd_fr, rd_ar, ne_eq, Nat.reduceEqDiff, not_false_eq_true])
            refine ⟨z_.1, ?_⟩
            rw [show (pn_ + 1).toNat = pn_.toNat + 1 by omega, cne_s]
            by_cases y_ : c_ = (S_.2.2.1 17 (0 + ii_) pn_.toNat).toNat
            · rw [if_pos y_, if_pos (by rw [← f17_]; omega), y_, show (((S_.2.2.1 17 (0 + ii_) pn_.toNat).toNat : Nat) : Int) = (S_.2.2.1 17 (0 + ii_) pn_.toNat) by omega, g9_.2]; push_cast; rfl
            · rw [if_neg y_, if_neg (by rw [← f17_]; omega), z_.2]; push_cast; omega
          · intro c_ hc_ k_ hk_
            (try simp only [rd_eq, rd_ne, rf_eq, rf_nk, rf_nt, rd_fa, rd_af, rd_fl, rd_al, rd_lf, rd_la, rd_leq, rd_lne, rd_fr, rd_ar, ne_eq, Nat.reduceEqDiff, not_false_eq_true] at hk_ ⊢)
            have z_ := h2_ c_ hc_
            have w_ := h2_ (S_.2.2.1 17 (0 + ii_) pn_.toNat).toNat (by omega)
            by_cases y_ : c_ = (S_.2.2.1 17 (0 + ii_) pn_.toNat).toNat
            · rw [if_pos y_] at hk_
              by_cases x_ : (k_ : Int) = S_.2.2.1 20 (0 + ii_) (S_.2.2.1 17 (0 + ii_) pn_.toNat).toNat
              · rw [if_pos (by rw [y_]; omega), ← f17_, y_]; omega
              · rw [if_neg (by rw [y_]; omega)]; exact h4_ c_ hc_ k_ (by rw [y_]; omega)
            · rw [if_neg y_] at hk_
              have o1_ := cne_mo (f := (S0_.2.2.1 17 (0 + ii_))) (c := (c_ : Int)) (n := pn_.toNat) (m := 652) (by omega)
              have o2_ : c_ < (S_.2.2.1 17 (0 + ii_) pn_.toNat).toNat → (scn (S0_.2.2.1 17 (0 + ii_)) 652 c_ + cne (S0_.2.2.1 17 (0 + ii_)) (c_ : Int) 652 ≤ scn (S0_.2.2.1 17 (0 + ii_)) 652 (S_.2.2.1 17 (0 + ii_) pn_.toNat).toNat) := fun u_ => scn_mo u_
              have o3_ : (S_.2.2.1 17 (0 + ii_) pn_.toNat).toNat < c_ → (scn (S0_.2.2.1 17 (0 + ii_)) 652 (S_.2.2.1 17 (0 + ii_) pn_.toNat).toNat + cne (S0_.2.2.1 17 (0 + ii_)) (S_.2.2.1 17 (0 + ii_) pn_.toNat) 652 ≤ scn (S0_.2.2.1 17 (0 + ii_)) 652 c_) := fun u_ => by have v_ := scn_mo (f := (S0_.2.2.1 17 (0 + ii_))) (n := 652) u_; rw [show (((S_.2.2.1 17 (0 + ii_) pn_.toNat).toNat : Nat) : Int) = (S_.2.2.1 17 (0 + ii_) pn_.toNat) by omega] at v_; exact v_
              have o4_ : c_ < (S_.2.2.1 17 (0 + ii_) pn_.toNat).toNat ∨ (S_.2.2.1 17 (0 + ii_) pn_.toNat).toNat < c_ := by omega
              have o5_ : (S_.2.2.1 19 (0 + ii_) c_).toNat + k_ ≠ (S_.2.2.1 19 (0 + ii_) (S_.2.2.1 17 (0 + ii_) pn_.toNat).toNat + S_.2.2.1 20 (0 + ii_) (S_.2.2.1 17 (0 + ii_) pn_.toNat).toNat).toNat := by rcases o4_ with u_ | u_; (have v_ := o2_ u_; omega); (have v_ := o3_ u_; omega)
              rw [if_neg o5_]
              exact h4_ c_ hc_ k_ hk_
          · exact hCx11_
          · omega
set_option maxHeartbeats 400000 in
theorem vc_13 {sc_ : Nat × (Nat → Int)} (ii_ : Nat) (S0_ : sm_S) (hI_ : gi S0_) (hcn_ : bcn ii_ S0_) : sm_T (mt_P sc_) 0 13 (0, [some (.inr (.inr (some (0, ii_)))), none, none, none], [], S0_) (fun ro9_ => ∃ u_ S1_, ro9_ = (.inl u_, S1_, 0) ∧ vq_13 ii_ S0_ u_ S1_) := by
  have hF_ : ai_fr (sx_W vw_13) S0_ S0_ := ai_fr_rf
  have hC_ : cdf ii_ S0_ S0_ := cdf_rf
  refine sm_T_go 4 (c1 := (4, [some (.inr (.inr (some (0, ii_)))), some (.inl 0), some (.inl 0), none], [], S0_)) rfl ?_
  refine (vl_13 ii_ S0_ hcn_ _).1 0 0 S0_ hI_ hF_ ⟨?_, ?_, ?_, ?_, ?_, trivial⟩ (Nat.lt_succ_self _)
  · omega
  · rfl
  · (intro c_ hc_; exfalso; omega)
  · (intro c_ hc_ h_; exact hcn_ c_ h_)
  · exact hC_
end
/-! 99.zj8a -/
section
/-! places of pins; written by wip/p55/gen/vg -/

/-! places of_ pins -/
def ppx (ii_ : Nat) (S_ : sm_S) (p_ : Int) : Int := if p_ < 624 then 1 + S_.2.2.1 14 (0 + ii_) (p_ / 4).toNat + p_ % 4 else if p_ < 636 then 0 else S_.1 0 ii_ 0 + 1
def ppy (ii_ : Nat) (S_ : sm_S) (p_ : Int) : Int := if p_ < 624 then 3 * S_.2.2.1 15 (0 + ii_) (p_ / 4).toNat + 1 else if p_ < 636 then p_ - 624 else p_ - 636
def ppt (ii_ : Nat) (S_ : sm_S) (p_ : Int) : Int := ppy ii_ S_ p_ * (S_.1 0 ii_ 0 + 2) + ppx ii_ S_ p_
/-! Chip.firstGateNet -/
def vw_54 : sx_Wl := ([], [], [])
def vq_54 (ii_ : Nat) (S0_ : sm_S) (u_ : Option sm_V) (S1_ : sm_S) : Prop := S0_ = S1_ ∧ ∃ v_ : Int, u_ = some (.inl v_) ∧ ((0 ≤ v_ ∧ v_ ≤ 18) ∧ (v_ = (S0_.1 2 ii_ 1) + (S0_.1 2 ii_ 2)))
set_option maxHeartbeats 400000 in
theorem vc_54 {sc_ : Nat × (Nat → Int)} (ii_ : Nat) (S0_ : sm_S) (hI_ : gi S0_)  : sm_T (mt_P sc_) 0 54 (0, [some (.inr (.inr (some (2, ii_))))], [], S0_) (fun ro9_ => ∃ u_ S1_, ro9_ = (.inl u_, S1_, 0) ∧ vq_54 ii_ S0_ u_ S1_) := by
  have hF_ : ai_fr (sx_W vw_54) S0_ S0_ := ai_fr_rf
  have bx1_ : 0 ≤ S0_.1 2 ii_ 1 ∧ S0_.1 2 ii_ 1 ≤ 12 := hI_.1 2 ii_ 1 rfl
  have bx2_ : 0 ≤ S0_.1 2 ii_ 2 ∧ S0_.1 2 ii_ 2 ≤ 6 := hI_.1 2 ii_ 2 rfl
  refine sm_T_go 4 (c1 := (8, [some (.inr (.inr (some (2, ii_))))], [.inl (S0_.1 2 ii_ 2), .inl (S0_.1 2 ii_ 1)], S0_)) rfl ?_
  refine sm_T_bin (w := (S0_.1 2 ii_ 1) + (S0_.1 2 ii_ 2)) rfl (bi_add (by omega) (by omega) (by omega)) ?_ -- pc_ 8
  refine sm_T_ri rfl ⟨_, _, rfl, rfl, _, rfl, ?_⟩
  first | (refine ⟨⟨?_, ?_⟩, rfl⟩ <;> omega) | omega | (refine ⟨by omega, ?_⟩; omega)
end
/-! 99.zj8b -/
section
/-! Chip.nets -/
def vw_55 : sx_Wl := ([], [], [])
def vq_55 (ii_ : Nat) (S0_ : sm_S) (u_ : Option sm_V) (S1_ : sm_S) : Prop := S0_ = S1_ ∧ ∃ v_ : Int, u_ = some (.inl v_) ∧ ((0 ≤ v_ ∧ v_ ≤ 168) ∧ (v_ = (S0_.1 2 ii_ 1) + (S0_.1 2 ii_ 2) + (S0_.1 2 ii_ 8)))
set_option maxHeartbeats 400000 in
theorem vc_55 {sc_ : Nat × (Nat → Int)} (ii_ : Nat) (S0_ : sm_S) (hI_ : gi S0_)  : sm_T (mt_P sc_) 0 55 (0, [some (.inr (.inr (some (2, ii_))))], [], S0_) (fun ro9_ => ∃ u_ S1_, ro9_ = (.inl u_, S1_, 0) ∧ vq_55 ii_ S0_ u_ S1_) := by
  have hF_ : ai_fr (sx_W vw_55) S0_ S0_ := ai_fr_rf
  have bx1_ : 0 ≤ S0_.1 2 ii_ 1 ∧ S0_.1 2 ii_ 1 ≤ 12 := hI_.1 2 ii_ 1 rfl
  have bx2_ : 0 ≤ S0_.1 2 ii_ 2 ∧ S0_.1 2 ii_ 2 ≤ 6 := hI_.1 2 ii_ 2 rfl
  refine sm_T_go 4 (c1 := (8, [some (.inr (.inr (some (2, ii_))))], [.inl (S0_.1 2 ii_ 2), .inl (S0_.1 2 ii_ 1)], S0_)) rfl ?_
  refine sm_T_bin (w := (S0_.1 2 ii_ 1) + (S0_.1 2 ii_ 2)) rfl (bi_add (by omega) (by omega) (by omega)) ?_ -- pc_ 8
  have bx3_ : 0 ≤ S0_.1 2 ii_ 8 ∧ S0_.1 2 ii_ 8 ≤ 150 := hI_.1 2 ii_ 8 rfl
  refine sm_T_go 2 (c1 := (13, [some (.inr (.inr (some (2, ii_))))], [.inl (S0_.1 2 ii_ 8), .inl ((S0_.1 2 ii_ 1) + (S0_.1 2 ii_ 2))], S0_)) rfl ?_
  refine sm_T_bin (w := (S0_.1 2 ii_ 1) + (S0_.1 2 ii_ 2) + (S0_.1 2 ii_ 8)) rfl (bi_add (by omega) (by omega) (by omega)) ?_ -- pc_ 13
  refine sm_T_ri rfl ⟨_, _, rfl, rfl, _, rfl, ?_⟩
  first | (refine ⟨⟨?_, ?_⟩, rfl⟩ <;> omega) | omega | (refine ⟨by omega, ?_⟩; omega)
end
/-! 99.zj8c -/
section
/-! Chip.elements -/
def vw_56 : sx_Wl := ([], [], [])
def vq_56 (ii_ : Nat) (S0_ : sm_S) (u_ : Option sm_V) (S1_ : sm_S) : Prop := S0_ = S1_ ∧ ∃ v_ : Int, u_ = some (.inl v_) ∧ ((0 ≤ v_ ∧ v_ ≤ 156) ∧ (v_ = (S0_.1 2 ii_ 2) + (S0_.1 2 ii_ 8)))
set_option maxHeartbeats 400000 in
theorem vc_56 {sc_ : Nat × (Nat → Int)} (ii_ : Nat) (S0_ : sm_S) (hI_ : gi S0_)  : sm_T (mt_P sc_) 0 56 (0, [some (.inr (.inr (some (2, ii_))))], [], S0_) (fun ro9_ => ∃ u_ S1_, ro9_ = (.inl u_, S1_, 0) ∧ vq_56 ii_ S0_ u_ S1_) := by
  have hF_ : ai_fr (sx_W vw_56) S0_ S0_ := ai_fr_rf
  have bx1_ : 0 ≤ S0_.1 2 ii_ 2 ∧ S0_.1 2 ii_ 2 ≤ 6 := hI_.1 2 ii_ 2 rfl
  have bx2_ : 0 ≤ S0_.1 2 ii_ 8 ∧ S0_.1 2 ii_ 8 ≤ 150 := hI_.1 2 ii_ 8 rfl
  refine sm_T_go 4 (c1 := (8, [some (.inr (.inr (some (2, ii_))))], [.inl (S0_.1 2 ii_ 8), .inl (S0_.1 2 ii_ 2)], S0_)) rfl ?_
  refine sm_T_bin (w := (S0_.1 2 ii_ 2) + (S0_.1 2 ii_ 8)) rfl (bi_add (by omega) (by omega) (by omega)) ?_ -- pc_ 8
  refine sm_T_ri rfl ⟨_, _, rfl, rfl, _, rfl, ?_⟩
  first | (refine ⟨⟨?_, ?_⟩, rfl⟩ <;> omega) | omega | (refine ⟨by omega, ?_⟩; omega)
end
/-! 99.zj8d -/
section
/-! Chip.ends -/
def vw_57 : sx_Wl := ([], [], [])
def vq_57 (ii_ : Nat) (S0_ : sm_S) (u_ : Option sm_V) (S1_ : sm_S) : Prop := S0_ = S1_ ∧ ∃ v_ : Int, u_ = some (.inl v_) ∧ ((0 ≤ v_ ∧ v_ ≤ 22) ∧ (v_ = (S0_.1 2 ii_ 3) + (S0_.1 2 ii_ 2)))
set_option maxHeartbeats 400000 in
theorem vc_57 {sc_ : Nat × (Nat → Int)} (ii_ : Nat) (S0_ : sm_S) (hI_ : gi S0_)  : sm_T (mt_P sc_) 0 57 (0, [some (.inr (.inr (some (2, ii_))))], [], S0_) (fun ro9_ => ∃ u_ S1_, ro9_ = (.inl u_, S1_, 0) ∧ vq_57 ii_ S0_ u_ S1_) := by
  have hF_ : ai_fr (sx_W vw_57) S0_ S0_ := ai_fr_rf
  have bx1_ : 0 ≤ S0_.1 2 ii_ 3 ∧ S0_.1 2 ii_ 3 ≤ 16 := hI_.1 2 ii_ 3 rfl
  have bx2_ : 0 ≤ S0_.1 2 ii_ 2 ∧ S0_.1 2 ii_ 2 ≤ 6 := hI_.1 2 ii_ 2 rfl
  refine sm_T_go 4 (c1 := (8, [some (.inr (.inr (some (2, ii_))))], [.inl (S0_.1 2 ii_ 2), .inl (S0_.1 2 ii_ 3)], S0_)) rfl ?_
  refine sm_T_bin (w := (S0_.1 2 ii_ 3) + (S0_.1 2 ii_ 2)) rfl (bi_add (by omega) (by omega) (by omega)) ?_ -- pc_ 8
  refine sm_T_ri rfl ⟨_, _, rfl, rfl, _, rfl, ?_⟩
  first | (refine ⟨⟨?_, ?_⟩, rfl⟩ <;> omega) | omega | (refine ⟨by omega, ?_⟩; omega)
end
/-! 99.zj8e -/
section
/-! Chip.gateInputs -/
def vw_59 : sx_Wl := ([], [], [])
def vq_59 (a1_ : Int) (ii_ : Nat) (S0_ : sm_S) (u_ : Option sm_V) (S1_ : sm_S) : Prop := S0_ = S1_ ∧ ∃ v_ : Int, u_ = some (.inl v_) ∧ ((0 ≤ v_ ∧ v_ ≤ 3) ∧ (v_ = (S0_.2.2.1 55 (0 + (3 + ii_)) (S0_.2.2.1 35 (0 + ii_) a1_.toNat).toNat)))
set_option maxHeartbeats 400000 in
theorem vc_59 {sc_ : Nat × (Nat → Int)} (a1_ : Int) (ii_ : Nat) (S0_ : sm_S) (hI_ : gi S0_) (ha1_ : 0 ≤ a1_ ∧ a1_ ≤ 149) : sm_T (mt_P sc_) 0 59 (0, [some (.inr (.inr (some (2, ii_)))), some (.inl a1_)], [], S0_) (fun ro9_ => ∃ u_ S1_, ro9_ = (.inl u_, S1_, 0) ∧ vq_59 a1_ ii_ S0_ u_ S1_) := by
  have hF_ : ai_fr (sx_W vw_59) S0_ S0_ := ai_fr_rf
  refine sm_T_go 6 (c1 := (12, [some (.inr (.inr (some (2, ii_)))), some (.inl a1_)], [.inl a1_, .inr (.inr (some (35, (0 + ii_)))), .inr (.inr (some (55, (0 + (3 + ii_)))))], S0_)) rfl ?_
  refine sm_T_iald (n := 150) rfl rfl (by omega) (by omega) ?_
  have bx1_ : 0 ≤ S0_.2.2.1 35 (0 + ii_) a1_.toNat ∧ S0_.2.2.1 35 (0 + ii_) a1_.toNat ≤ 11 := hI_.2 35 (0 + ii_) _
  refine sm_T_iald (n := 12) rfl rfl (by omega) (by omega) ?_
  have bx2_ : 0 ≤ S0_.2.2.1 55 (0 + (3 + ii_)) (S0_.2.2.1 35 (0 + ii_) a1_.toNat).toNat ∧ S0_.2.2.1 55 (0 + (3 + ii_)) (S0_.2.2.1 35 (0 + ii_) a1_.toNat).toNat ≤ 3 := hI_.2 55 (0 + (3 + ii_)) _
  refine sm_T_ri rfl ⟨_, _, rfl, rfl, _, rfl, ?_⟩
  first | (refine ⟨⟨?_, ?_⟩, rfl⟩ <;> omega) | omega | (refine ⟨by omega, ?_⟩; omega)
end
/-! 99.zj8f -/
section
/-! Chip.endNet -/
def vw_58 : sx_Wl := ([], [], [])
def vq_58 (a1_ : Int) (ii_ : Nat) (S0_ : sm_S) (u_ : Option sm_V) (S1_ : sm_S) : Prop := S0_ = S1_ ∧ ∃ v_ : Int, u_ = some (.inl v_) ∧ (-2 ≤ v_ ∧ v_ ≤ 161)
set_option maxHeartbeats 400000 in
theorem vc_58 {sc_ : Nat × (Nat → Int)} (a1_ : Int) (ii_ : Nat) (S0_ : sm_S) (hI_ : gi S0_) (h1_ : 0 ≤ a1_ ∧ a1_ ≤ 21 ∧ a1_ < S0_.1 2 ii_ 3 + S0_.1 2 ii_ 2) : sm_T (mt_P sc_) 0 58 (0, [some (.inr (.inr (some (2, ii_)))), some (.inl a1_)], [], S0_) (fun ro9_ => ∃ u_ S1_, ro9_ = (.inl u_, S1_, 0) ∧ vq_58 a1_ ii_ S0_ u_ S1_) := by
  have hF_ : ai_fr (sx_W vw_58) S0_ S0_ := ai_fr_rf
  have c2_ : 0 ≤ S0_.1 2 ii_ 2 ∧ S0_.1 2 ii_ 2 ≤ 6 := hI_.1 2 ii_ 2 rfl
  have bx1_ : 0 ≤ S0_.1 2 ii_ 3 ∧ S0_.1 2 ii_ 3 ≤ 16 := hI_.1 2 ii_ 3 rfl
  refine sm_T_go 3 (c1 := (5, [some (.inr (.inr (some (2, ii_)))), some (.inl a1_)], [.inl (S0_.1 2 ii_ 3), .inl a1_], S0_)) rfl ?_
  refine sm_T_br (a := 3) (z := 12) rfl (fun cx2_ => ?_) (fun cx2_ => ?_)
  · have cx2_ : (S0_.1 2 ii_ 3) ≤ a1_ := of_decide_eq_true cx2_
    refine sm_T_go 5 (c1 := (26, [some (.inr (.inr (some (2, ii_)))), some (.inl a1_)], [.inl (S0_.1 2 ii_ 3), .inl a1_, .inr (.inr (some (38, (0 + ii_))))], S0_)) rfl ?_
    refine sm_T_bin (w := a1_ - (S0_.1 2 ii_ 3)) rfl (bi_sub (by omega) (by omega) (by omega)) ?_ -- pc_ 26
    refine sm_T_iald (n := 6) rfl rfl (by omega) (by omega) ?_
    have bx3_ : (-2) ≤ S0_.2.2.1 38 (0 + ii_) (a1_ - (S0_.1 2 ii_ 3)).toNat ∧ S0_.2.2.1 38 (0 + ii_) (a1_ - (S0_.1 2 ii_ 3)).toNat ≤ 161 := hI_.2 38 (0 + ii_) _
    refine sm_T_ri rfl ⟨_, _, rfl, rfl, _, rfl, ?_⟩
    omega
  · have cx2_ : ¬ ((S0_.1 2 ii_ 3) ≤ a1_) := of_decide_eq_false cx2_
    refine sm_T_go 3 (c1 := (13, [some (.inr (.inr (some (2, ii_)))), some (.inl a1_)], [.inl a1_, .inr (.inr (some (37, (0 + ii_))))], S0_)) rfl ?_
    refine sm_T_iald (n := 16) rfl rfl (by omega) (by omega) ?_
    have bx4_ : (-2) ≤ S0_.2.2.1 37 (0 + ii_) a1_.toNat ∧ S0_.2.2.1 37 (0 + ii_) a1_.toNat ≤ 161 := hI_.2 37 (0 + ii_) _
    refine sm_T_go 1 (c1 := (28, [some (.inr (.inr (some (2, ii_)))), some (.inl a1_)], [.inl (S0_.2.2.1 37 (0 + ii_) a1_.toNat)], S0_)) rfl ?_
    refine sm_T_ri rfl ⟨_, _, rfl, rfl, _, rfl, ?_⟩
    omega
end
/-! 99.zj8g -/
section
/-! Board.pinX -/
def vw_17 : sx_Wl := ([], [], [])
def vq_17 (a1_ : Int) (ii_ : Nat) (S0_ : sm_S) (u_ : Option sm_V) (S1_ : sm_S) : Prop := S0_ = S1_ ∧ ∃ v_ : Int, u_ = some (.inl v_) ∧ ((0 ≤ v_ ∧ v_ ≤ 64) ∧ v_ = ppx ii_ S0_ a1_)
set_option maxHeartbeats 400000 in
theorem vc_17 {sc_ : Nat × (Nat → Int)} (a1_ : Int) (ii_ : Nat) (S0_ : sm_S) (hI_ : gi S0_) (h1_ : 0 ≤ a1_ ∧ a1_ ≤ 651) : sm_T (mt_P sc_) 0 17 (0, [some (.inr (.inr (some (0, ii_)))), some (.inl a1_)], [], S0_) (fun ro9_ => ∃ u_ S1_, ro9_ = (.inl u_, S1_, 0) ∧ vq_17 a1_ ii_ S0_ u_ S1_) := by
  have hF_ : ai_fr (sx_W vw_17) S0_ S0_ := ai_fr_rf
  refine sm_T_go 2 (c1 := (4, [some (.inr (.inr (some (0, ii_)))), some (.inl a1_)], [.inl 624, .inl a1_], S0_)) rfl ?_
  refine sm_T_br (a := 3) (z := 18) rfl (fun cx1_ => ?_) (fun cx1_ => ?_)
  · have cx1_ : 624 ≤ a1_ := of_decide_eq_true cx1_
    refine sm_T_go 2 (c1 := (26, [some (.inr (.inr (some (0, ii_)))), some (.inl a1_)], [.inl 636, .inl a1_], S0_)) rfl ?_
    refine sm_T_br (a := 3) (z := 7) rfl (fun cx2_ => ?_) (fun cx2_ => ?_)
    · have cx2_ : 636 ≤ a1_ := of_decide_eq_true cx2_
      have bx3_ : 0 ≤ S0_.1 0 ii_ 0 ∧ S0_.1 0 ii_ 0 ≤ 60 := hI_.1 0 ii_ 0 rfl
      refine sm_T_go 3 (c1 := (38, [some (.inr (.inr (some (0, ii_)))), some (.inl a1_)], [.inl 1, .inl (S0_.1 0 ii_ 0)], S0_)) rfl ?_
      refine sm_T_bin (w := (S0_.1 0 ii_ 0) + 1) rfl (bi_add (by omega) (by omega) (by omega)) ?_ -- pc_ 38
      refine sm_T_ri rfl ⟨_, _, rfl, rfl, _, rfl, ?_⟩
      refine ⟨by omega, ?_⟩
      unfold ppx
      first | (rw [if_pos (by omega)] <;> omega) | (rw [if_neg (by omega), if_pos (by omega)] <;> omega) | (rw [if_neg (by omega), if_neg (by omega)] <;> omega)
    · have cx2_ : ¬ (636 ≤ a1_) := of_decide_eq_false cx2_
      refine sm_T_go 2 (c1 := (39, [some (.inr (.inr (some (0, ii_)))), some (.inl a1_)], [.inl 0], S0_)) rfl ?_
      refine sm_T_ri rfl ⟨_, _, rfl, rfl, _, rfl, ?_⟩
      refine ⟨by omega, ?_⟩
      unfold ppx
      first | (rw [if_pos (by omega)] <;> omega) | (rw [if_neg (by omega), if_pos (by omega)] <;> omega) | (rw [if_neg (by omega), if_neg (by omega)] <;> omega)
  · have cx1_ : ¬ (624 ≤ a1_) := of_decide_eq_false cx1_
    refine sm_T_go 5 (c1 := (14, [some (.inr (.inr (some (0, ii_)))), some (.inl a1_)], [.inl 2, .inl a1_, .inr (.inr (some (14, (0 + ii_)))), .inl 1], S0_)) rfl ?_
    refine sm_T_bin (w := (a1_ / 4)) rfl (bi_shr (k := 2) (by decide) (by omega) (by omega)) ?_ -- pc_ 14
    refine sm_T_iald (n := 156) rfl rfl (by omega) (by omega) ?_
    have bx4_ : 0 ≤ S0_.2.2.1 14 (0 + ii_) (a1_ / 4).toNat ∧ S0_.2.2.1 14 (0 + ii_) (a1_ / 4).toNat ≤ 60 := hI_.2 14 (0 + ii_) _
    refine sm_T_bin (w := (S0_.2.2.1 14 (0 + ii_) (a1_ / 4).toNat) + 1) rfl (bi_add (by omega) (by omega) (by omega)) ?_ -- pc_ 16
    refine sm_T_go 2 (c1 := (19, [some (.inr (.inr (some (0, ii_)))), some (.inl a1_)], [.inl 3, .inl a1_, .inl ((S0_.2.2.1 14 (0 + ii_) (a1_ / 4).toNat) + 1)], S0_)) rfl ?_
    refine sm_T_bin (w := (a1_ % 4)) rfl (bi_msk (k := 2) (by decide)) ?_ -- pc_ 19
    refine sm_T_bin (w := (S0_.2.2.1 14 (0 + ii_) (a1_ / 4).toNat) + (a1_ % 4) + 1) rfl (bi_add (by omega) (by omega) (by omega)) ?_ -- pc_ 20
    refine sm_T_ri rfl ⟨_, _, rfl, rfl, _, rfl, ?_⟩
    refine ⟨by omega, ?_⟩
    unfold ppx
    first | (rw [if_pos (by omega)] <;> omega) | (rw [if_neg (by omega), if_pos (by omega)] <;> omega) | (rw [if_neg (by omega), if_neg (by omega)] <;> omega)
end
/-! 99.zj8h -/
section
/-! Board.pinY -/
def vw_18 : sx_Wl := ([], [], [])
def vq_18 (a1_ : Int) (ii_ : Nat) (S0_ : sm_S) (u_ : Option sm_V) (S1_ : sm_S) : Prop := S0_ = S1_ ∧ ∃ v_ : Int, u_ = some (.inl v_) ∧ ((0 ≤ v_ ∧ v_ ≤ 37) ∧ v_ = ppy ii_ S0_ a1_)
set_option maxHeartbeats 400000 in
theorem vc_18 {sc_ : Nat × (Nat → Int)} (a1_ : Int) (ii_ : Nat) (S0_ : sm_S) (hI_ : gi S0_) (h1_ : 0 ≤ a1_ ∧ a1_ ≤ 651) : sm_T (mt_P sc_) 0 18 (0, [some (.inr (.inr (some (0, ii_)))), some (.inl a1_)], [], S0_) (fun ro9_ => ∃ u_ S1_, ro9_ = (.inl u_, S1_, 0) ∧ vq_18 a1_ ii_ S0_ u_ S1_) := by
  have hF_ : ai_fr (sx_W vw_18) S0_ S0_ := ai_fr_rf
  refine sm_T_go 2 (c1 := (4, [some (.inr (.inr (some (0, ii_)))), some (.inl a1_)], [.inl 624, .inl a1_], S0_)) rfl ?_
  refine sm_T_br (a := 3) (z := 16) rfl (fun cx1_ => ?_) (fun cx1_ => ?_)
  · have cx1_ : 624 ≤ a1_ := of_decide_eq_true cx1_
    refine sm_T_go 2 (c1 := (24, [some (.inr (.inr (some (0, ii_)))), some (.inl a1_)], [.inl 636, .inl a1_], S0_)) rfl ?_
    refine sm_T_br (a := 3) (z := 11) rfl (fun cx2_ => ?_) (fun cx2_ => ?_)
    · have cx2_ : 636 ≤ a1_ := of_decide_eq_true cx2_
      refine sm_T_go 2 (c1 := (39, [some (.inr (.inr (some (0, ii_)))), some (.inl a1_)], [.inl 636, .inl a1_], S0_)) rfl ?_
      refine sm_T_bin (w := a1_ - 636) rfl (bi_sub (by omega) (by omega) (by omega)) ?_ -- pc_ 39
      refine sm_T_ri rfl ⟨_, _, rfl, rfl, _, rfl, ?_⟩
      refine ⟨by omega, ?_⟩
      unfold ppy
      first | (rw [if_pos (by omega)] <;> omega) | (rw [if_neg (by omega), if_pos (by omega)] <;> omega) | (rw [if_neg (by omega), if_neg (by omega)] <;> omega)
    · have cx2_ : ¬ (636 ≤ a1_) := of_decide_eq_false cx2_
      refine sm_T_go 2 (c1 := (31, [some (.inr (.inr (some (0, ii_)))), some (.inl a1_)], [.inl 624, .inl a1_], S0_)) rfl ?_
      refine sm_T_bin (w := a1_ - 624) rfl (bi_sub (by omega) (by omega) (by omega)) ?_ -- pc_ 31
      refine sm_T_go 1 (c1 := (40, [some (.inr (.inr (some (0, ii_)))), some (.inl a1_)], [.inl (a1_ - 624)], S0_)) rfl ?_
      refine sm_T_ri rfl ⟨_, _, rfl, rfl, _, rfl, ?_⟩
      refine ⟨by omega, ?_⟩
      unfold ppy
      first | (rw [if_pos (by omega)] <;> omega) | (rw [if_neg (by omega), if_pos (by omega)] <;> omega) | (rw [if_neg (by omega), if_neg (by omega)] <;> omega)
  · have cx1_ : ¬ (624 ≤ a1_) := of_decide_eq_false cx1_
    refine sm_T_go 5 (c1 := (14, [some (.inr (.inr (some (0, ii_)))), some (.inl a1_)], [.inl 2, .inl a1_, .inr (.inr (some (15, (0 + ii_)))), .inl 3], S0_)) rfl ?_
    refine sm_T_bin (w := (a1_ / 4)) rfl (bi_shr (k := 2) (by decide) (by omega) (by omega)) ?_ -- pc_ 14
    refine sm_T_iald (n := 156) rfl rfl (by omega) (by omega) ?_
    have bx3_ : 0 ≤ S0_.2.2.1 15 (0 + ii_) (a1_ / 4).toNat ∧ S0_.2.2.1 15 (0 + ii_) (a1_ / 4).toNat ≤ 12 := hI_.2 15 (0 + ii_) _
    refine sm_T_bin (w := 3 * (S0_.2.2.1 15 (0 + ii_) (a1_ / 4).toNat)) rfl (bi_mul (by omega) (by omega) (by omega)) ?_ -- pc_ 16
    refine sm_T_go 1 (c1 := (18, [some (.inr (.inr (some (0, ii_)))), some (.inl a1_)], [.inl 1, .inl (3 * (S0_.2.2.1 15 (0 + ii_) (a1_ / 4).toNat))], S0_)) rfl ?_
    refine sm_T_bin (w := 3 * (S0_.2.2.1 15 (0 + ii_) (a1_ / 4).toNat) + 1) rfl (bi_add (by omega) (by omega) (by omega)) ?_ -- pc_ 18
    refine sm_T_ri rfl ⟨_, _, rfl, rfl, _, rfl, ?_⟩
    refine ⟨by omega, ?_⟩
    unfold ppy
    first | (rw [if_pos (by omega)] <;> omega) | (rw [if_neg (by omega), if_pos (by omega)] <;> omega) | (rw [if_neg (by omega), if_neg (by omega)] <;> omega)
end
/-! 99.zj8i -/
section
/-! Board.pinPoint -/
def vw_19 : sx_Wl := ([], [], [])
def vq_19 (a1_ : Int) (ii_ : Nat) (S0_ : sm_S) (u_ : Option sm_V) (S1_ : sm_S) : Prop := S0_ = S1_ ∧ ∃ v_ : Int, u_ = some (.inl v_) ∧ ((0 ≤ v_ ∧ v_ ≤ 2358) ∧ v_ = ppt ii_ S0_ a1_)
set_option maxHeartbeats 400000 in
theorem vc_19 {sc_ : Nat × (Nat → Int)} (a1_ : Int) (ii_ : Nat) (S0_ : sm_S) (hI_ : gi S0_) (h1_ : 0 ≤ a1_ ∧ a1_ ≤ 651) : sm_T (mt_P sc_) 1 19 (0, [some (.inr (.inr (some (0, ii_)))), some (.inl a1_)], [], S0_) (fun ro9_ => ∃ u_ S1_, ro9_ = (.inl u_, S1_, 0) ∧ vq_19 a1_ ii_ S0_ u_ S1_) := by
  have hF_ : ai_fr (sx_W vw_19) S0_ S0_ := ai_fr_rf
  refine sm_T_go 2 (c1 := (2, [some (.inr (.inr (some (0, ii_)))), some (.inl a1_)], [.inl a1_, .inr (.inr (some (0, ii_)))], S0_)) rfl ?_
  refine sm_T_cal (d1 := 0) (Q1 := vq_18 a1_ ii_ S0_) rfl rfl (by decide) (vc_18 a1_ ii_ S0_ hI_ (by omega)) (fun u_ Sx1_ px4_ => ?_)
  obtain ⟨rfl, vx6_, rfl, px4_⟩ := px4_
  have y9_ := px4_
  have bx7_ : 0 ≤ S0_.1 0 ii_ 0 ∧ S0_.1 0 ii_ 0 ≤ 60 := hI_.1 0 ii_ 0 rfl
  refine sm_T_go 3 (c1 := (10, [some (.inr (.inr (some (0, ii_)))), some (.inl a1_)], [.inl 2, .inl (S0_.1 0 ii_ 0), .inl vx6_], S0_)) rfl ?_
  refine sm_T_bin (w := (S0_.1 0 ii_ 0) + 2) rfl (bi_add (by omega) (by omega) (by omega)) ?_ -- pc_ 10
  have bx8_ := mul_b (x_ := vx6_) (y_ := ((S0_.1 0 ii_ 0) + 2)) (X_ := 37) (Y_ := 62) (Z_ := 2294) (by omega) (by omega) (by decide)
  refine sm_T_bin (w := (vx6_ * ((S0_.1 0 ii_ 0) + 2))) rfl (bi_mul rfl (by omega) (by omega)) ?_ -- pc_ 11
  refine sm_T_go 2 (c1 := (14, [some (.inr (.inr (some (0, ii_)))), some (.inl a1_)], [.inl a1_, .inr (.inr (some (0, ii_))), .inl (vx6_ * ((S0_.1 0 ii_ 0) + 2))], S0_)) rfl ?_
  refine sm_T_cal (d1 := 0) (Q1 := vq_17 a1_ ii_ S0_) rfl rfl (by decide) (vc_17 a1_ ii_ S0_ hI_ (by omega)) (fun u_ Sx9_ px12_ => ?_)
  obtain ⟨rfl, vx14_, rfl, px12_⟩ := px12_
  have x9_ := px12_
  refine sm_T_bin (w := (vx6_ * ((S0_.1 0 ii_ 0) + 2)) + vx14_) rfl (bi_add (by omega) (by omega) (by omega)) ?_ -- pc_ 17
  refine sm_T_ri rfl ⟨_, _, rfl, rfl, _, rfl, ?_⟩
  refine ⟨by omega, ?_⟩
  unfold ppt
  rw [← y9_.2, ← x9_.2]
end
/-! 99.zj8j -/
section
/-! Board.points -/
def vw_16 : sx_Wl := ([], [], [])
def vq_16 (ii_ : Nat) (S0_ : sm_S) (u_ : Option sm_V) (S1_ : sm_S) : Prop := S0_ = S1_ ∧ ∃ v_ : Int, u_ = some (.inl v_) ∧ ((0 ≤ v_ ∧ v_ ≤ 4712) ∧ (v_ = ((2 * (S0_.1 0 ii_ 2)) * ((S0_.1 0 ii_ 0) + 2))))
set_option maxHeartbeats 400000 in
theorem vc_16 {sc_ : Nat × (Nat → Int)} (ii_ : Nat) (S0_ : sm_S) (hI_ : gi S0_)  : sm_T (mt_P sc_) 0 16 (0, [some (.inr (.inr (some (0, ii_))))], [], S0_) (fun ro9_ => ∃ u_ S1_, ro9_ = (.inl u_, S1_, 0) ∧ vq_16 ii_ S0_ u_ S1_) := by
  have hF_ : ai_fr (sx_W vw_16) S0_ S0_ := ai_fr_rf
  have bx1_ : 0 ≤ S0_.1 0 ii_ 2 ∧ S0_.1 0 ii_ 2 ≤ 38 := hI_.1 0 ii_ 2 rfl
  refine sm_T_go 3 (c1 := (5, [some (.inr (.inr (some (0, ii_))))], [.inl (S0_.1 0 ii_ 2), .inl 2], S0_)) rfl ?_
  refine sm_T_bin (w := 2 * (S0_.1 0 ii_ 2)) rfl (bi_mul (by omega) (by omega) (by omega)) ?_ -- pc_ 5
  have bx2_ : 0 ≤ S0_.1 0 ii_ 0 ∧ S0_.1 0 ii_ 0 ≤ 60 := hI_.1 0 ii_ 0 rfl
  refine sm_T_go 3 (c1 := (11, [some (.inr (.inr (some (0, ii_))))], [.inl 2, .inl (S0_.1 0 ii_ 0), .inl (2 * (S0_.1 0 ii_ 2))], S0_)) rfl ?_
  refine sm_T_bin (w := (S0_.1 0 ii_ 0) + 2) rfl (bi_add (by omega) (by omega) (by omega)) ?_ -- pc_ 11
  have bx3_ := mul_b (x_ := (2 * (S0_.1 0 ii_ 2))) (y_ := ((S0_.1 0 ii_ 0) + 2)) (X_ := 76) (Y_ := 62) (Z_ := 4712) (by omega) (by omega) (by decide)
  refine sm_T_bin (w := ((2 * (S0_.1 0 ii_ 2)) * ((S0_.1 0 ii_ 0) + 2))) rfl (bi_mul rfl (by omega) (by omega)) ?_ -- pc_ 12
  refine sm_T_ri rfl ⟨_, _, rfl, rfl, _, rfl, ?_⟩
  first | (refine ⟨⟨?_, ?_⟩, rfl⟩ <;> omega) | omega | (refine ⟨by omega, ?_⟩; omega)
end
/-! 99.zj8k -/
section
/-! Board.pinAt -/
def vw_14 : sx_Wl := ([], [], [])
def vq_14 (a1_ : Int) (a2_ : Int) (ii_ : Nat) (S0_ : sm_S) (u_ : Option sm_V) (S1_ : sm_S) : Prop := S0_ = S1_ ∧ ∃ v_ : Int, u_ = some (.inl v_) ∧ ((0 ≤ v_ ∧ v_ ≤ 651) ∧ v_ = S0_.2.2.1 18 (0 + ii_) ((S0_.2.2.1 19 (0 + ii_) a1_.toNat).toNat + a2_.toNat) ∧ S0_.2.2.1 17 (0 + ii_) v_.toNat = a1_)
set_option maxHeartbeats 400000 in
theorem vc_14 {sc_ : Nat × (Nat → Int)} (a1_ : Int) (a2_ : Int) (ii_ : Nat) (S0_ : sm_S) (hI_ : gi S0_) (h1_ : 0 ≤ a1_ ∧ a1_ ≤ 161) (h2_ : 0 ≤ a2_ ∧ a2_ < S0_.2.2.1 20 (0 + ii_) a1_.toNat) (hb_ : bpn ii_ S0_) : sm_T (mt_P sc_) 0 14 (0, [some (.inr (.inr (some (0, ii_)))), some (.inl a1_), some (.inl a2_)], [], S0_) (fun ro9_ => ∃ u_ S1_, ro9_ = (.inl u_, S1_, 0) ∧ vq_14 a1_ a2_ ii_ S0_ u_ S1_) := by
  have hF_ : ai_fr (sx_W vw_14) S0_ S0_ := ai_fr_rf
  have b9_ := hb_ a1_.toNat (by omega)
  have b8_ := b9_.1
  have b7_ := b9_.2 a2_.toNat (by omega)
  have c9_ : 0 ≤ S0_.2.2.1 19 (0 + ii_) a1_.toNat ∧ S0_.2.2.1 19 (0 + ii_) a1_.toNat ≤ 652 := hI_.2 19 (0 + ii_) _
  rw [show ((a1_.toNat : Nat) : Int) = a1_ by omega] at b7_
  have c8_ : 0 ≤ S0_.2.2.1 19 (0 + ii_) a1_.toNat := c9_.1
  have t9_ : (S0_.2.2.1 19 (0 + ii_) a1_.toNat + a2_).toNat = (S0_.2.2.1 19 (0 + ii_) a1_.toNat).toNat + a2_.toNat := by omega
  refine sm_T_go 5 (c1 := (9, [some (.inr (.inr (some (0, ii_)))), some (.inl a1_), some (.inl a2_)], [.inl a1_, .inr (.inr (some (19, (0 + ii_)))), .inr (.inr (some (18, (0 + ii_))))], S0_)) rfl ?_
  refine sm_T_iald (n := 162) rfl rfl (by omega) (by omega) ?_
  have bx1_ : 0 ≤ S0_.2.2.1 19 (0 + ii_) a1_.toNat ∧ S0_.2.2.1 19 (0 + ii_) a1_.toNat ≤ 652 := hI_.2 19 (0 + ii_) _
  refine sm_T_go 1 (c1 := (11, [some (.inr (.inr (some (0, ii_)))), some (.inl a1_), some (.inl a2_)], [.inl a2_, .inl (S0_.2.2.1 19 (0 + ii_) a1_.toNat), .inr (.inr (some (18, (0 + ii_))))], S0_)) rfl ?_
  refine sm_T_bin (w := (S0_.2.2.1 19 (0 + ii_) a1_.toNat) + a2_) rfl (bi_add (by omega) (by omega) (by omega)) ?_ -- pc_ 11
  refine sm_T_iald (n := 652) rfl rfl (by omega) (by omega) ?_
  have bx2_ : 0 ≤ S0_.2.2.1 18 (0 + ii_) ((S0_.2.2.1 19 (0 + ii_) a1_.toNat) + a2_).toNat ∧ S0_.2.2.1 18 (0 + ii_) ((S0_.2.2.1 19 (0 + ii_) a1_.toNat) + a2_).toNat ≤ 651 := hI_.2 18 (0 + ii_) _
  refine sm_T_ri rfl ⟨_, _, rfl, rfl, _, rfl, ?_⟩
  have v9_ := hI_.2 18 (0 + ii_) ((S0_.2.2.1 19 (0 + ii_) a1_.toNat).toNat + a2_.toNat)
  rw [t9_]
  exact ⟨⟨v9_.1, v9_.2⟩, rfl, b7_⟩
end
/-! 99.zj8l -/
section
/-! Board.loseWires -/
def vw_15 : sx_Wl := ([(0, 11), (4, 0)], [], [])
def vq_15 (ii_ : Nat) (S0_ : sm_S) (u_ : Option sm_V) (S1_ : sm_S) : Prop := u_ = none ∧ gi S1_ ∧ ai_fr (sx_W vw_15) S0_ S1_ ∧ (cdf ii_ S0_ S1_ ∧ ((S1_.1 0 ii_ 11 = 0 ∧ S1_.1 4 (0 + ii_) 0 = 0)))
set_option maxHeartbeats 400000 in
theorem vc_15 {sc_ : Nat × (Nat → Int)} (ii_ : Nat) (S0_ : sm_S) (hI_ : gi S0_)  : sm_T (mt_P sc_) 0 15 (0, [some (.inr (.inr (some (0, ii_))))], [], S0_) (fun ro9_ => ∃ u_ S1_, ro9_ = (.inl u_, S1_, 0) ∧ vq_15 ii_ S0_ u_ S1_) := by
  have hF_ : ai_fr (sx_W vw_15) S0_ S0_ := ai_fr_rf
  have hC_ : cdf ii_ S0_ S0_ := cdf_rf
  have hIx1_ : gi (sm_pI S0_ 0 ii_ 11 0) := gi_pI hI_ (show 0 ≤ 0 ∧ 0 ≤ 1 from ⟨by omega, by omega⟩)
  have hFx2_ : ai_fr (sx_W vw_15) S0_ (sm_pI S0_ 0 ii_ 11 0) := ai_fr_tr hF_ (ai_fr_pI rfl)
  have hCx3_ : cdf ii_ S0_ (sm_pI S0_ 0 ii_ 11 0) := cdf_pI hC_ (Or.inr (by rw [show cof 0 = 0 from rfl] <;> omega))
  have hIx4_ : gi (sm_pI (sm_pI S0_ 0 ii_ 11 0) 4 (0 + ii_) 0 0) := gi_pI hIx1_ (show 0 ≤ 0 ∧ 0 ≤ 1 from ⟨by omega, by omega⟩)
  have hFx5_ : ai_fr (sx_W vw_15) S0_ (sm_pI (sm_pI S0_ 0 ii_ 11 0) 4 (0 + ii_) 0 0) := ai_fr_tr hFx2_ (ai_fr_pI rfl)
  have hCx6_ : cdf ii_ S0_ (sm_pI (sm_pI S0_ 0 ii_ 11 0) 4 (0 + ii_) 0 0) := cdf_pI hCx3_ (Or.inr (by rw [show cof 4 = 0 from rfl] <;> omega))
  refine sm_T_go 7 (c1 := (13, [some (.inr (.inr (some (0, ii_))))], [], sm_pI (sm_pI S0_ 0 ii_ 11 0) 4 (0 + ii_) 0 0)) rfl ?_
  refine sm_T_rv rfl ⟨_, _, rfl, rfl, hIx4_, hFx5_, ?_⟩
  refine ⟨hCx6_, ?_⟩
  constructor
  · rw [rf_nt (by decide), rf_eq]
  · rw [rf_eq]
end
/-! 99.zj8m -/
section
/-! Board.wireOf -/
def vw_23 : sx_Wl := ([], [], [])
def vq_23 (a1_ : Int) (ii_ : Nat) (S0_ : sm_S) (u_ : Option sm_V) (S1_ : sm_S) : Prop := S0_ = S1_ ∧ ∃ v_ : Int, u_ = some (.inl v_) ∧ (-9424 ≤ v_ ∧ v_ ≤ 101)
set_option maxHeartbeats 3000000 in
theorem vl_23 {sc_ : Nat × (Nat → Int)} (a1_ : Int) (ii_ : Nat) (S0_ : sm_S) (h1_ : 0 ≤ a1_ ∧ a1_ ≤ 161) (hb_ : bpn ii_ S0_) : ∀ nn_ : Nat, (∀ (wt : Int) (et_ : Int) (nr : Int) (sh_ : Int) (k_ : Int) (S_ : sm_S), gi S_ → ai_fr (sx_W vw_23) S0_ S_ → ((0 ≤ wt ∧ wt ≤ 4712 ∧ 0 ≤ et_ ∧ et_ ≤ 64 ∧ 0 ≤ nr ∧ nr ≤ 4712 ∧ 0 ≤ sh_ ∧ sh_ ≤ 37 ∧ 0 ≤ k_ ∧ k_ ≤ 652) ∧ (S_ = S0_) ∧ True) → ((1000 - k_).toNat) < nn_ → sm_T (mt_P sc_) 1 23 (29, [some (.inr (.inr (some (0, ii_)))), some (.inl a1_), some (.inl wt), some (.inl et_), some (.inl nr), some (.inl sh_), some (.inl k_), none, none], [], S_) (fun ro9_ => ∃ u_ S1_, ro9_ = (.inl u_, S1_, 0) ∧ vq_23 a1_ ii_ S0_ u_ S1_)) := by
  intro nn_
  induction nn_ with
  | zero => exact fun _ _ _ _ _ _ _ _ _ h_ => absurd h_ (Nat.not_lt_zero _)
  | succ nn_ ih_ =>
    rintro wt et_ nr sh_ k_ S_ hI_ hF_ ⟨h0_, hS_, -⟩ hm_
    refine sm_T_go 4 (c1 := (36, [some (.inr (.inr (some (0, ii_)))), some (.inl a1_), some (.inl wt), some (.inl et_), some (.inl nr), some (.inl sh_), some (.inl k_), none, none], [.inl a1_, .inr (.inr (some (20, (0 + ii_)))), .inl k_], S_)) rfl ?_
    refine sm_T_iald (n := 162) rfl rfl (by omega) (by omega) ?_
    have bx1_ : 0 ≤ S_.2.2.1 20 (0 + ii_) a1_.toNat ∧ S_.2.2.1 20 (0 + ii_) a1_.toNat ≤ 652 := hI_.2 20 (0 + ii_) _
    refine sm_T_br (a := 3) (z := 67) rfl (fun cx2_ => ?_) (fun cx2_ => ?_)
    · have cx2_ : (S_.2.2.1 20 (0 + ii_) a1_.toNat) ≤ k_ := of_decide_eq_true cx2_
      refine sm_T_go 2 (c1 := (106, [some (.inr (.inr (some (0, ii_)))), some (.inl a1_), some (.inl wt), some (.inl et_), some (.inl nr), some (.inl sh_), some (.inl k_), none, none], [.inl wt, .inl et_], S_)) rfl ?_
      refine sm_T_bin (w := et_ - wt) rfl (bi_sub (by omega) (by omega) (by omega)) ?_ -- pc_ 106
      refine sm_T_go 1 (c1 := (109, [some (.inr (.inr (some (0, ii_)))), some (.inl a1_), some (.inl wt), some (.inl et_), some (.inl nr), some (.inl sh_), some (.inl k_), none, none], [.inl sh_, .inl (et_ - wt)], S_)) rfl ?_
      refine sm_T_bin (w := et_ - wt + sh_) rfl (bi_add (by omega) (by omega) (by omega)) ?_ -- pc_ 109
      refine sm_T_go 1 (c1 := (112, [some (.inr (.inr (some (0, ii_)))), some (.inl a1_), some (.inl wt), some (.inl et_), some (.inl nr), some (.inl sh_), some (.inl k_), none, none], [.inl nr, .inl (et_ - wt + sh_)], S_)) rfl ?_
      refine sm_T_bin (w := et_ - wt + sh_ - nr) rfl (bi_sub (by omega) (by omega) (by omega)) ?_ -- pc_ 112
      refine sm_T_ri rfl ⟨_, _, rfl, (by first | rfl | exact hS_.symm), _, rfl, ?_⟩
      omega
    · have cx2_ : ¬ ((S_.2.2.1 20 (0 + ii_) a1_.toNat) ≤ k_) := of_decide_eq_false cx2_
      refine sm_T_go 4 (c1 := (45, [some (.inr (.inr (some (0, ii_)))), some (.inl a1_), some (.inl wt), some (.inl et_), some (.inl nr), some (.inl sh_), some (.inl k_), none, none], [.inl k_, .inl a1_, .inr (.inr (some (0, ii_))), .inr (.inr (some (0, ii_)))], S_)) rfl ?_
      refine sm_T_cal (d1 := 0) (Q1 := vq_14 a1_ k_ ii_ S_) rfl rfl (by decide) (vc_14 a1_ k_ ii_ S_ hI_ (by omega) (by omega) (by (rw [hS_]; exact hb_))) (fun u_ Sx3_ px6_ => ?_)
      obtain ⟨rfl, vx8_, rfl, px6_⟩ := px6_
      have q1_ := px6_.1
      refine sm_T_cal (d1 := 0) (Q1 := vq_17 vx8_ ii_ S_) rfl rfl (by decide) (vc_17 vx8_ ii_ S_ hI_ (by omega)) (fun u_ Sx9_ px12_ => ?_)
      obtain ⟨rfl, vx14_, rfl, px12_⟩ := px12_
      have q3_ := px12_.1
      refine sm_T_go 5 (c1 := (58, [some (.inr (.inr (some (0, ii_)))), some (.inl a1_), some (.inl wt), some (.inl et_), some (.inl nr), some (.inl sh_), some (.inl k_), some (.inl vx14_), none], [.inl k_, .inl a1_, .inr (.inr (some (0, ii_))), .inr (.inr (some (0, ii_)))], S_)) rfl ?_
      refine sm_T_cal (d1 := 0) (Q1 := vq_14 a1_ k_ ii_ S_) rfl rfl (by decide) (vc_14 a1_ k_ ii_ S_ hI_ (by omega) (by omega) (by (rw [hS_]; exact hb_))) (fun u_ Sx15_ px18_ => ?_)
      obtain ⟨rfl, vx20_, rfl, px18_⟩ := px18_
      have q2_ := px18_.1
      refine sm_T_cal (d1 := 0) (Q1 := vq_18 vx20_ ii_ S_) rfl rfl (by decide) (vc_18 vx20_ ii_ S_ hI_ (by omega)) (fun u_ Sx21_ px24_ => ?_)
      obtain ⟨rfl, vx26_, rfl, px24_⟩ := px24_
      have q4_ := px24_.1
      refine sm_T_go 3 (c1 := (69, [some (.inr (.inr (some (0, ii_)))), some (.inl a1_), some (.inl wt), some (.inl et_), some (.inl nr), some (.inl sh_), some (.inl k_), some (.inl vx14_), some (.inl vx26_)], [.inl vx14_, .inl wt], S_)) rfl ?_
      refine sm_T_nt (u := some (.inl (sm_mn wt vx14_))) (S1 := S_) rfl rfl rfl ?_
      have bx27_ := sm_mn_d wt vx14_
      refine sm_T_go 3 (c1 := (76, [some (.inr (.inr (some (0, ii_)))), some (.inl a1_), some (.inl (sm_mn wt vx14_)), some (.inl et_), some (.inl nr), some (.inl sh_), some (.inl k_), some (.inl vx14_), some (.inl vx26_)], [.inl vx14_, .inl et_], S_)) rfl ?_
      refine sm_T_nt (u := some (.inl (sm_mx et_ vx14_))) (S1 := S_) rfl rfl rfl ?_
      have bx28_ := sm_mx_d et_ vx14_
      refine sm_T_go 3 (c1 := (84, [some (.inr (.inr (some (0, ii_)))), some (.inl a1_), some (.inl (sm_mn wt vx14_)), some (.inl (sm_mx et_ vx14_)), some (.inl nr), some (.inl sh_), some (.inl k_), some (.inl vx14_), some (.inl vx26_)], [.inl vx26_, .inl nr], S_)) rfl ?_
      refine sm_T_nt (u := some (.inl (sm_mn nr vx26_))) (S1 := S_) rfl rfl rfl ?_
      have bx29_ := sm_mn_d nr vx26_
      refine sm_T_go 3 (c1 := (93, [some (.inr (.inr (some (0, ii_)))), some (.inl a1_), some (.inl (sm_mn wt vx14_)), some (.inl (sm_mx et_ vx14_)), some (.inl (sm_mn nr vx26_)), some (.inl sh_), some (.inl k_), some (.inl vx14_), some (.inl vx26_)], [.inl vx26_, .inl sh_], S_)) rfl ?_
      refine sm_T_nt (u := some (.inl (sm_mx sh_ vx26_))) (S1 := S_) rfl rfl rfl ?_
      have bx30_ := sm_mx_d sh_ vx26_
      refine sm_T_go 1 (c1 := (98, [some (.inr (.inr (some (0, ii_)))), some (.inl a1_), some (.inl (sm_mn wt vx14_)), some (.inl (sm_mx et_ vx14_)), some (.inl (sm_mn nr vx26_)), some (.inl (sm_mx sh_ vx26_)), some (.inl k_), some (.inl vx14_), some (.inl vx26_)], [], S_)) rfl ?_
      refine sm_T_inc (a := 6) (z := 1) (v := k_) (w := k_ + 1) rfl rfl (by omega) (by omega) (by omega) ?_ -- pc_ 98
      refine sm_T_go 1 (c1 := (29, [some (.inr (.inr (some (0, ii_)))), some (.inl a1_), some (.inl (sm_mn wt vx14_)), some (.inl (sm_mx et_ vx14_)), some (.inl (sm_mn nr vx26_)), some (.inl (sm_mx sh_ vx26_)), some (.inl (k_ + 1)), some (.inl vx14_), some (.inl vx26_)], [], S_)) rfl ?_
      refine sm_T_wk [some (.inr (.inr (some (0, ii_)))), some (.inl a1_), some (.inl (sm_mn wt vx14_)), some (.inl (sm_mx et_ vx14_)), some (.inl (sm_mn nr vx26_)), some (.inl (sm_mx sh_ vx26_)), some (.inl (k_ + 1)), none, none] (by exact ⟨rfl, rfl, rfl, rfl, rfl, rfl, rfl, trivial⟩) ?_
      refine ih_ (sm_mn wt vx14_) (sm_mx et_ vx14_) (sm_mn nr vx26_) (sm_mx sh_ vx26_) (k_ + 1) S_ hI_ hF_ ⟨?_, ?_, trivial⟩ ?_
      · omega
      · first | rfl | exact hS_
      · omega
set_option maxHeartbeats 3000000 in
theorem vc_23 {sc_ : Nat × (Nat → Int)} (a1_ : Int) (ii_ : Nat) (S0_ : sm_S) (hI_ : gi S0_) (h1_ : 0 ≤ a1_ ∧ a1_ ≤ 161) (hb_ : bpn ii_ S0_) : sm_T (mt_P sc_) 1 23 (0, [some (.inr (.inr (some (0, ii_)))), some (.inl a1_), none, none, none, none, none, none, none], [], S0_) (fun ro9_ => ∃ u_ S1_, ro9_ = (.inl u_, S1_, 0) ∧ vq_23 a1_ ii_ S0_ u_ S1_) := by
  have hF_ : ai_fr (sx_W vw_23) S0_ S0_ := ai_fr_rf
  refine sm_T_go 3 (c1 := (5, [some (.inr (.inr (some (0, ii_)))), some (.inl a1_), none, none, none, none, none, none, none], [.inl a1_, .inr (.inr (some (20, (0 + ii_))))], S0_)) rfl ?_
  refine sm_T_iald (n := 162) rfl rfl (by omega) (by omega) ?_
  have bx1_ : 0 ≤ S0_.2.2.1 20 (0 + ii_) a1_.toNat ∧ S0_.2.2.1 20 (0 + ii_) a1_.toNat ≤ 652 := hI_.2 20 (0 + ii_) _
  refine sm_T_go 1 (c1 := (7, [some (.inr (.inr (some (0, ii_)))), some (.inl a1_), none, none, none, none, none, none, none], [.inl 2, .inl (S0_.2.2.1 20 (0 + ii_) a1_.toNat)], S0_)) rfl ?_
  refine sm_T_br (a := 3) (z := 5) rfl (fun cx2_ => ?_) (fun cx2_ => ?_)
  · have cx2_ : 2 ≤ (S0_.2.2.1 20 (0 + ii_) a1_.toNat) := of_decide_eq_true cx2_
    refine sm_T_go 10 (c1 := (29, [some (.inr (.inr (some (0, ii_)))), some (.inl a1_), some (.inl 4712), some (.inl 0), some (.inl 4712), some (.inl 0), some (.inl 0), none, none], [], S0_)) rfl ?_
    refine (vl_23 a1_ ii_ S0_ h1_ hb_ _) 4712 0 4712 0 0 S0_ hI_ hF_ ⟨?_, ?_, trivial⟩ (Nat.lt_succ_self _)
    · omega
    · first | rfl | exact hS_
  · have cx2_ : ¬ (2 ≤ (S0_.2.2.1 20 (0 + ii_) a1_.toNat)) := of_decide_eq_false cx2_
    refine sm_T_go 1 (c1 := (11, [some (.inr (.inr (some (0, ii_)))), some (.inl a1_), none, none, none, none, none, none, none], [.inl 0], S0_)) rfl ?_
    refine sm_T_ri rfl ⟨_, _, rfl, (by first | rfl | exact hS_.symm), _, rfl, ?_⟩
    omega
end
/-! 99.zj9a -/
section
/-! elements in rows; written by wip/p55/gen/vg -/

/-! elements in rows -/
def lo9 (f_ : Nat → Int) (w_ : Int) : Nat → Int × Int
  | 0 => (0, 0)
  | n_ + 1 => if w_ < (lo9 f_ w_ n_).2 + f_ n_ then ((lo9 f_ w_ n_).1 + 1, f_ n_) else ((lo9 f_ w_ n_).1, (lo9 f_ w_ n_).2 + f_ n_)
theorem lo9_s (f_ : Nat → Int) (w_ : Int) (n_ : Nat) : lo9 f_ w_ (n_ + 1) = if w_ < (lo9 f_ w_ n_).2 + f_ n_ then ((lo9 f_ w_ n_).1 + 1, f_ n_) else ((lo9 f_ w_ n_).1, (lo9 f_ w_ n_).2 + f_ n_) := rfl
theorem lo9_b {f_ : Nat → Int} {w_ : Int} (hf_ : ∀ k_, 0 ≤ f_ k_ ∧ f_ k_ ≤ 4) (hw_ : 4 ≤ w_) : ∀ n_ : Nat, (0 ≤ (lo9 f_ w_ n_).1 ∧ (lo9 f_ w_ n_).1 ≤ n_) ∧ 0 ≤ (lo9 f_ w_ n_).2 ∧ (lo9 f_ w_ n_).2 ≤ w_
  | 0 => by
    show ((0 : Int) ≤ 0 ∧ (0 : Int) ≤ _) ∧ (0 : Int) ≤ 0 ∧ (0 : Int) ≤ w_
    omega
  | n_ + 1 => by
    have a_ := lo9_b hf_ hw_ n_
    have b_ := hf_ n_
    rw [lo9_s]
    split <;> (dsimp only; omega)
theorem lo9_mo {f_ : Nat → Int} {w_ : Int} {n_ : Nat} : ∀ {m_ : Nat}, n_ ≤ m_ → (lo9 f_ w_ n_).1 ≤ (lo9 f_ w_ m_).1
  | 0, h_ => by rw [show n_ = 0 by omega]; exact Int.le_refl _
  | m_ + 1, h_ => by
    by_cases z_ : n_ = m_ + 1
    · rw [z_]; exact Int.le_refl _
    · have a_ := lo9_mo (f_ := f_) (w_ := w_) (n_ := n_) (m_ := m_) (by omega)
      rw [lo9_s]
      split <;> (dsimp only; omega)
/-- a_ placed board's elements stand within it_ -/
def bpl (bi_ ci_ : Nat) (S_ : sm_S) : Prop := 0 < S_.1 0 bi_ 1 → (4 ≤ S_.1 0 bi_ 0 ∧ 3 * S_.1 0 bi_ 1 + 2 ≤ S_.1 0 bi_ 2 ∧ S_.1 2 ci_ 1 ≤ S_.1 0 bi_ 2 ∧ S_.1 2 ci_ 3 ≤ S_.1 0 bi_ 2) ∧ ∀ e_ : Nat, (e_ : Int) < S_.1 2 ci_ 2 + S_.1 2 ci_ 8 → S_.2.2.1 14 (0 + bi_) e_ + S_.2.2.1 16 (0 + bi_) e_ ≤ S_.1 0 bi_ 0 ∧ S_.2.2.1 15 (0 + bi_) e_ < S_.1 0 bi_ 1
def bpp (bi_ ci_ : Nat) (S_ : sm_S) : Prop := ∀ p_ : Nat, p_ < 652 → S_.2.2.1 17 (0 + bi_) p_ ≠ -1 → (p_ < 624 → ((p_ / 4 : Nat) : Int) < S_.1 2 ci_ 2 + S_.1 2 ci_ 8 ∧ ((p_ % 4 : Nat) : Int) < S_.2.2.1 16 (0 + bi_) (p_ / 4)) ∧ (624 ≤ p_ → p_ < 636 → (p_ : Int) - 624 < S_.1 2 ci_ 1) ∧ (636 ≤ p_ → (p_ : Int) - 636 < S_.1 2 ci_ 3)
/-- two_ elements have changed places -/
def xch (ii_ a_ b_ : Nat) (S_ S'_ : sm_S) : Prop := ∀ e_, S'_.2.2.1 14 (0 + ii_) e_ = (if e_ = b_ then S_.2.2.1 14 (0 + ii_) a_ else if e_ = a_ then S_.2.2.1 14 (0 + ii_) b_ else S_.2.2.1 14 (0 + ii_) e_) ∧ S'_.2.2.1 15 (0 + ii_) e_ = (if e_ = b_ then S_.2.2.1 15 (0 + ii_) a_ else if e_ = a_ then S_.2.2.1 15 (0 + ii_) b_ else S_.2.2.1 15 (0 + ii_) e_)
theorem xch_2 {ii_ a_ b_ : Nat} {S_ S'_ S2_ : sm_S} (h_ : xch ii_ a_ b_ S_ S'_) (g_ : xch ii_ a_ b_ S'_ S2_) (e_ : Nat) : S2_.2.2.1 14 (0 + ii_) e_ = S_.2.2.1 14 (0 + ii_) e_ ∧ S2_.2.2.1 15 (0 + ii_) e_ = S_.2.2.1 15 (0 + ii_) e_ := by
  have x_ := g_ e_
  have ha_ := h_ a_
  have hb_ := h_ b_
  have he_ := h_ e_
  rw [if_pos rfl, if_pos rfl] at hb_
  by_cases y_ : e_ = b_
  · rw [if_pos y_, if_pos y_] at x_
    rw [x_.1, x_.2, ha_.1, ha_.2, y_]
    by_cases z_ : a_ = b_
    · rw [if_pos z_, if_pos z_, z_]; exact ⟨rfl, rfl⟩
    · rw [if_neg z_, if_neg z_, if_pos rfl, if_pos rfl]; exact ⟨rfl, rfl⟩
  · rw [if_neg y_, if_neg y_] at x_ he_
    by_cases z_ : e_ = a_
    · rw [if_pos z_, if_pos z_] at x_
      rw [x_.1, x_.2, hb_.1, hb_.2, z_]; exact ⟨rfl, rfl⟩
    · rw [if_neg z_, if_neg z_] at x_ he_
      rw [x_.1, x_.2]; exact he_
theorem bpn_fr {w_ : sx_Wl} {ii_ : Nat} {S_ S'_ : sm_S} (h_ : bpn ii_ S_) (g_ : ai_fr (sx_W w_) S_ S'_) (h1_ : (sx_W w_).2.1 17 = false) (h2_ : (sx_W w_).2.1 18 = false) (h3_ : (sx_W w_).2.1 19 = false) (h4_ : (sx_W w_).2.1 20 = false) : bpn ii_ S'_ := by
  unfold bpn
  rw [fr_arr g_ h1_, fr_arr g_ h2_, fr_arr g_ h3_, fr_arr g_ h4_]
  exact h_
theorem bpl_sw {bi_ ci_ : Nat} {S_ S'_ : sm_S} (h_ : bpl bi_ ci_ S_) (f0_ : S'_.1 0 bi_ 0 = S_.1 0 bi_ 0) (f1_ : S'_.1 0 bi_ 1 = S_.1 0 bi_ 1) (f2_ : S'_.1 0 bi_ 2 = S_.1 0 bi_ 2) (g1_ : S'_.1 2 ci_ 1 = S_.1 2 ci_ 1) (g2_ : S'_.1 2 ci_ 2 = S_.1 2 ci_ 2) (g3_ : S'_.1 2 ci_ 3 = S_.1 2 ci_ 3) (g8_ : S'_.1 2 ci_ 8 = S_.1 2 ci_ 8) (z_ : S'_.2.2.1 16 (0 + bi_) = S_.2.2.1 16 (0 + bi_))
    (q_ : ∀ e_ : Nat, (e_ : Int) < S_.1 2 ci_ 2 + S_.1 2 ci_ 8 → ∃ e'_ : Nat, (e'_ : Int) < S_.1 2 ci_ 2 + S_.1 2 ci_ 8 ∧ S_.2.2.1 16 (0 + bi_) e'_ = S_.2.2.1 16 (0 + bi_) e_ ∧ S'_.2.2.1 14 (0 + bi_) e_ = S_.2.2.1 14 (0 + bi_) e'_ ∧ S'_.2.2.1 15 (0 + bi_) e_ = S_.2.2.1 15 (0 + bi_) e'_) : bpl bi_ ci_ S'_ := by
  intro r_
  rw [f1_] at r_
  obtain ⟨a_, b_⟩ := h_ r_
  rw [f0_, f1_, f2_, g1_, g2_, g3_, g8_, z_]
  refine ⟨a_, fun e_ he_ => ?_⟩
  obtain ⟨e'_, x1_, x2_, x3_, x4_⟩ := q_ e_ he_
  have y_ := b_ e'_ x1_
  rw [x3_, x4_, ← x2_]
  exact y_
theorem bpl_xch {bi_ ci_ a_ b_ : Nat} {S_ S'_ : sm_S} (h_ : bpl bi_ ci_ S_) (x_ : xch bi_ a_ b_ S_ S'_) (ha_ : (a_ : Int) < S_.1 2 ci_ 2 + S_.1 2 ci_ 8) (hb_ : (b_ : Int) < S_.1 2 ci_ 2 + S_.1 2 ci_ 8) (hz_ : S_.2.2.1 16 (0 + bi_) a_ = S_.2.2.1 16 (0 + bi_) b_) (f0_ : S'_.1 0 bi_ 0 = S_.1 0 bi_ 0) (f1_ : S'_.1 0 bi_ 1 = S_.1 0 bi_ 1) (f2_ : S'_.1 0 bi_ 2 = S_.1 0 bi_ 2) (g1_ : S'_.1 2 ci_ 1 = S_.1 2 ci_ 1) (g2_ : S'_.1 2 ci_ 2 = S_.1 2 ci_ 2) (g3_ : S'_.1 2 ci_ 3 = S_.1 2 ci_ 3) (g8_ : S'_.1 2 ci_ 8 = S_.1 2 ci_ 8) (z_ : S'_.2.2.1 16 (0 + bi_) = S_.2.2.1 16 (0 + bi_)) : bpl bi_ ci_ S'_ := by
  refine bpl_sw h_ f0_ f1_ f2_ g1_ g2_ g3_ g8_ z_ (fun e_ he_ => ?_)
  have y_ := x_ e_
  by_cases p_ : e_ = b_
  · rw [if_pos p_, if_pos p_] at y_
    exact ⟨a_, ha_, by rw [p_]; exact hz_, y_⟩
  · rw [if_neg p_, if_neg p_] at y_
    by_cases q_ : e_ = a_
    · rw [if_pos q_, if_pos q_] at y_
      exact ⟨b_, hb_, by rw [q_]; exact hz_.symm, y_⟩
    · rw [if_neg q_, if_neg q_] at y_
      exact ⟨e_, he_, rfl, y_⟩
theorem bpl_fr {w_ : sx_Wl} {bi_ ci_ : Nat} {S_ S'_ : sm_S} (h_ : bpl bi_ ci_ S_) (g_ : ai_fr (sx_W w_) S_ S'_) (h0_ : (sx_W w_).1 0 0 = false) (h1_ : (sx_W w_).1 0 1 = false) (h2_ : (sx_W w_).1 0 2 = false) (k1_ : (sx_W w_).1 2 1 = false) (k2_ : (sx_W w_).1 2 2 = false) (k3_ : (sx_W w_).1 2 3 = false) (k8_ : (sx_W w_).1 2 8 = false) (a1_ : (sx_W w_).2.1 14 = false) (a2_ : (sx_W w_).2.1 15 = false) (a3_ : (sx_W w_).2.1 16 = false) : bpl bi_ ci_ S'_ :=
  bpl_sw h_ (g_.1 _ _ _ h0_) (g_.1 _ _ _ h1_) (g_.1 _ _ _ h2_) (g_.1 _ _ _ k1_) (g_.1 _ _ _ k2_) (g_.1 _ _ _ k3_) (g_.1 _ _ _ k8_) (fr_arr g_ a3_) (fun e_ he_ => ⟨e_, he_, rfl, by rw [fr_arr g_ a1_], by rw [fr_arr g_ a2_]⟩)
/-! Board.wholeWire -/
def vw_24 : sx_Wl := ([], [], [])
def vq_24 (a1_ : Int) (ii_ : Nat) (S0_ : sm_S) (u_ : Option sm_V) (S1_ : sm_S) : Prop := S0_ = S1_ ∧ ∃ v_ : Int, u_ = some (.inl v_) ∧ (-9999 * a1_ ≤ v_ ∧ v_ ≤ 20000 * a1_)
set_option maxHeartbeats 400000 in
theorem vl_24 {sc_ : Nat × (Nat → Int)} (a1_ : Int) (ii_ : Nat) (S0_ : sm_S) (h1_ : 0 ≤ a1_ ∧ a1_ ≤ 162) : ∀ nn_ : Nat, (∀ (al_ : Int) (k_ : Int) (S_ : sm_S), gi S_ → ai_fr (sx_W vw_24) S0_ S_ → ((0 ≤ k_ ∧ k_ ≤ a1_ ∧ -9999 * k_ ≤ al_ ∧ al_ ≤ 20000 * k_) ∧ (S_ = S0_) ∧ True) → ((1000 - k_).toNat) < nn_ → sm_T (mt_P sc_) 0 24 (4, [some (.inr (.inr (some (0, ii_)))), some (.inl a1_), some (.inl al_), some (.inl k_)], [], S_) (fun ro9_ => ∃ u_ S1_, ro9_ = (.inl u_, S1_, 0) ∧ vq_24 a1_ ii_ S0_ u_ S1_)) := by
  intro nn_
  induction nn_ with
  | zero => exact fun _ _ _ _ _ _ h_ => absurd h_ (Nat.not_lt_zero _)
  | succ nn_ ih_ =>
    rintro al_ k_ S_ hI_ hF_ ⟨h0_, hS_, -⟩ hm_
    refine sm_T_go 2 (c1 := (6, [some (.inr (.inr (some (0, ii_)))), some (.inl a1_), some (.inl al_), some (.inl k_)], [.inl a1_, .inl k_], S_)) rfl ?_
    refine sm_T_br (a := 3) (z := 18) rfl (fun cx1_ => ?_) (fun cx1_ => ?_)
    · have cx1_ : a1_ ≤ k_ := of_decide_eq_true cx1_
      refine sm_T_go 1 (c1 := (25, [some (.inr (.inr (some (0, ii_)))), some (.inl a1_), some (.inl al_), some (.inl k_)], [.inl al_], S_)) rfl ?_
      refine sm_T_ri rfl ⟨_, _, rfl, (by first | rfl | exact hS_.symm), _, rfl, ?_⟩
      omega
    · have cx1_ : ¬ (a1_ ≤ k_) := of_decide_eq_false cx1_
      refine sm_T_go 4 (c1 := (15, [some (.inr (.inr (some (0, ii_)))), some (.inl a1_), some (.inl al_), some (.inl k_)], [.inl k_, .inr (.inr (some (21, (0 + ii_)))), .inl al_], S_)) rfl ?_
      refine sm_T_iald (n := 162) rfl rfl (by omega) (by omega) ?_
      have bx2_ : (-9999) ≤ S_.2.2.1 21 (0 + ii_) k_.toNat ∧ S_.2.2.1 21 (0 + ii_) k_.toNat ≤ 20000 := hI_.2 21 (0 + ii_) _
      refine sm_T_bin (w := al_ + (S_.2.2.1 21 (0 + ii_) k_.toNat)) rfl (bi_add (by omega) (by omega) (by omega)) ?_ -- pc_ 16
      refine sm_T_go 1 (c1 := (18, [some (.inr (.inr (some (0, ii_)))), some (.inl a1_), some (.inl (al_ + (S_.2.2.1 21 (0 + ii_) k_.toNat))), some (.inl k_)], [], S_)) rfl ?_
      refine sm_T_inc (a := 3) (z := 1) (v := k_) (w := k_ + 1) rfl rfl (by omega) (by omega) (by omega) ?_ -- pc_ 18
      refine sm_T_go 1 (c1 := (4, [some (.inr (.inr (some (0, ii_)))), some (.inl a1_), some (.inl (al_ + (S_.2.2.1 21 (0 + ii_) k_.toNat))), some (.inl (k_ + 1))], [], S_)) rfl ?_
      refine ih_ (al_ + (S_.2.2.1 21 (0 + ii_) k_.toNat)) (k_ + 1) S_ hI_ hF_ ⟨?_, ?_, trivial⟩ ?_
      · omega
      · first | rfl | exact hS_
      · omega
set_option maxHeartbeats 400000 in
theorem vc_24 {sc_ : Nat × (Nat → Int)} (a1_ : Int) (ii_ : Nat) (S0_ : sm_S) (hI_ : gi S0_) (h1_ : 0 ≤ a1_ ∧ a1_ ≤ 162) : sm_T (mt_P sc_) 0 24 (0, [some (.inr (.inr (some (0, ii_)))), some (.inl a1_), none, none], [], S0_) (fun ro9_ => ∃ u_ S1_, ro9_ = (.inl u_, S1_, 0) ∧ vq_24 a1_ ii_ S0_ u_ S1_) := by
  have hF_ : ai_fr (sx_W vw_24) S0_ S0_ := ai_fr_rf
  refine sm_T_go 4 (c1 := (4, [some (.inr (.inr (some (0, ii_)))), some (.inl a1_), some (.inl 0), some (.inl 0)], [], S0_)) rfl ?_
  refine (vl_24 a1_ ii_ S0_ h1_ _) 0 0 S0_ hI_ hF_ ⟨?_, ?_, trivial⟩ (Nat.lt_succ_self _)
  · omega
  · first | rfl | exact hS_
end
/-! 99.zj9b -/
section
/-! Board.layOut -/
def vw_21 : sx_Wl := ([], [14, 15], [])
def vq_21 (a2_ : Int) (a3_ : Int) (ii_ : Nat) (cc_ : Nat) (S0_ : sm_S) (u_ : Option sm_V) (S1_ : sm_S) : Prop := ∃ v_ : Int, u_ = some (.inl v_) ∧ gi S1_ ∧ ai_fr (sx_W vw_21) S0_ S1_ ∧ (cdf ii_ S0_ S1_ ∧ (v_ = (lo9 (S0_.2.2.1 16 (0 + ii_)) a2_ (S0_.1 2 cc_ 2 + S0_.1 2 cc_ 8).toNat).1 + 1 ∧ (a3_ = 0 → S1_ = S0_) ∧ (a3_ ≠ 0 → ∀ j_ : Nat, (j_ : Int) < (S0_.1 2 cc_ 2 + S0_.1 2 cc_ 8) → S1_.2.2.1 14 (0 + ii_) j_ + (S0_.2.2.1 16 (0 + ii_)) j_ ≤ a2_ ∧ S1_.2.2.1 15 (0 + ii_) j_ < v_)))
set_option maxHeartbeats 400000 in
theorem vl_21 {sc_ : Nat × (Nat → Int)} (a2_ : Int) (a3_ : Int) (ii_ : Nat) (cc_ : Nat) (S0_ : sm_S) (hI0_ : gi S0_) (h1_ : 4 ≤ a2_ ∧ a2_ ≤ 60) (h3_ : 0 ≤ a3_ ∧ a3_ ≤ 1) (hk_ : a3_ ≠ 0 → (lo9 (S0_.2.2.1 16 (0 + ii_)) a2_ (S0_.1 2 cc_ 2 + S0_.1 2 cc_ 8).toNat).1 ≤ 11) : ∀ nn_ : Nat, (∀ (rr_ : Int) (st_ : Int) (e9_ : Int) (S_ : sm_S), gi S_ → ai_fr (sx_W vw_21) S0_ S_ → ((0 ≤ e9_ ∧ e9_ ≤ (S0_.1 2 cc_ 2 + S0_.1 2 cc_ 8)) ∧ (rr_ = (lo9 (S0_.2.2.1 16 (0 + ii_)) a2_ e9_.toNat).1) ∧ (st_ = (lo9 (S0_.2.2.1 16 (0 + ii_)) a2_ e9_.toNat).2) ∧ (a3_ = 0 → S_ = S0_) ∧ (a3_ ≠ 0 → ∀ j_ : Nat, (j_ : Int) < e9_ → S_.2.2.1 14 (0 + ii_) j_ + (S0_.2.2.1 16 (0 + ii_)) j_ ≤ a2_ ∧ S_.2.2.1 15 (0 + ii_) j_ ≤ rr_) ∧ (cdf ii_ S0_ S_) ∧ True) → ((1000 - e9_).toNat) < nn_ → sm_T (mt_P sc_) 1 21 (9, [some (.inr (.inr (some (0, ii_)))), some (.inr (.inr (some (2, cc_)))), some (.inl a2_), some (.inl a3_), some (.inl rr_), some (.inl st_), some (.inl e9_)], [], S_) (fun ro9_ => ∃ u_ S1_, ro9_ = (.inl u_, S1_, 0) ∧ vq_21 a2_ a3_ ii_ cc_ S0_ u_ S1_)) := by
  intro nn_
  induction nn_ with
  | zero => exact fun _ _ _ _ _ _ _ h_ => absurd h_ (Nat.not_lt_zero _)
  | succ nn_ ih_ =>
    rintro rr_ st_ e9_ S_ hI_ hF_ ⟨h0_, hrr_, hst_, hz_, hj_, hC_, -⟩ hm_
    have z9_ : S_.2.2.1 16 (0 + ii_) = (S0_.2.2.1 16 (0 + ii_)) := fr_arr hF_ rfl
    have l9_ := lo9_b (f_ := (S0_.2.2.1 16 (0 + ii_))) (w_ := a2_) (fun k_ => hI0_.2 16 (0 + ii_) k_) h1_.1 e9_.toNat
    have e2_ : S_.1 2 cc_ 2 = S0_.1 2 cc_ 2 := hF_.1 2 cc_ 2 rfl
    have e8_ : S_.1 2 cc_ 8 = S0_.1 2 cc_ 8 := hF_.1 2 cc_ 8 rfl
    have c2_ : 0 ≤ S0_.1 2 cc_ 2 ∧ S0_.1 2 cc_ 2 ≤ 6 := hI0_.1 2 cc_ 2 rfl
    have c8_ : 0 ≤ S0_.1 2 cc_ 8 ∧ S0_.1 2 cc_ 8 ≤ 150 := hI0_.1 2 cc_ 8 rfl
    refine sm_T_go 2 (c1 := (12, [some (.inr (.inr (some (0, ii_)))), some (.inr (.inr (some (2, cc_)))), some (.inl a2_), some (.inl a3_), some (.inl rr_), some (.inl st_), some (.inl e9_)], [.inr (.inr (some (2, cc_))), .inl e9_], S_)) rfl ?_
    refine sm_T_cal (d1 := 0) (Q1 := vq_56 cc_ S_) rfl rfl (by decide) (vc_56 cc_ S_ hI_ ) (fun u_ Sx1_ px4_ => ?_)
    obtain ⟨rfl, vx6_, rfl, px4_⟩ := px4_
    have n9_ := px4_
    refine sm_T_br (a := 3) (z := 63) rfl (fun cx7_ => ?_) (fun cx7_ => ?_)
    · have cx7_ : vx6_ ≤ e9_ := of_decide_eq_true cx7_
      refine sm_T_go 2 (c1 := (81, [some (.inr (.inr (some (0, ii_)))), some (.inr (.inr (some (2, cc_)))), some (.inl a2_), some (.inl a3_), some (.inl rr_), some (.inl st_), some (.inl e9_)], [.inl 1, .inl rr_], S_)) rfl ?_
      refine sm_T_bin (w := rr_ + 1) rfl (bi_add (by omega) (by omega) (by omega)) ?_ -- pc_ 81
      refine sm_T_ri rfl ⟨_, _, rfl, _, rfl, hI_, hF_, ?_⟩
      refine ⟨hC_, ?_⟩
      have q9_ : e9_ = (S0_.1 2 cc_ 2 + S0_.1 2 cc_ 8) := by omega
      rw [q9_] at hrr_
      refine ⟨by omega, hz_, fun u_ j_ hj9_ => ?_⟩
      have w9_ := hj_ u_ j_ (by omega)
      omega
    · have cx7_ : ¬ (vx6_ ≤ e9_) := of_decide_eq_false cx7_
      have s9_ := lo9_s (S0_.2.2.1 16 (0 + ii_)) a2_ e9_.toNat
      have g9_ : 0 ≤ S0_.2.2.1 16 (0 + ii_) e9_.toNat ∧ S0_.2.2.1 16 (0 + ii_) e9_.toNat ≤ 4 := hI0_.2 16 (0 + ii_) _
      have m9_ := lo9_mo (f_ := (S0_.2.2.1 16 (0 + ii_))) (w_ := a2_) (n_ := e9_.toNat + 1) (m_ := (S0_.1 2 cc_ 2 + S0_.1 2 cc_ 8).toNat) (by omega)
      have y9_ : S_.2.2.1 16 (0 + ii_) e9_.toNat = (S0_.2.2.1 16 (0 + ii_)) e9_.toNat := by rw [z9_]
      refine sm_T_go 4 (c1 := (26, [some (.inr (.inr (some (0, ii_)))), some (.inr (.inr (some (2, cc_)))), some (.inl a2_), some (.inl a3_), some (.inl rr_), some (.inl st_), some (.inl e9_)], [.inl e9_, .inr (.inr (some (16, (0 + ii_)))), .inl st_], S_)) rfl ?_
      refine sm_T_iald (n := 156) rfl rfl (by omega) (by omega) ?_
      have bx8_ : 0 ≤ S_.2.2.1 16 (0 + ii_) e9_.toNat ∧ S_.2.2.1 16 (0 + ii_) e9_.toNat ≤ 4 := hI_.2 16 (0 + ii_) _
      refine sm_T_bin (w := st_ + (S_.2.2.1 16 (0 + ii_) e9_.toNat)) rfl (bi_add (by omega) (by omega) (by omega)) ?_ -- pc_ 27
      refine sm_T_go 1 (c1 := (29, [some (.inr (.inr (some (0, ii_)))), some (.inr (.inr (some (2, cc_)))), some (.inl a2_), some (.inl a3_), some (.inl rr_), some (.inl st_), some (.inl e9_)], [.inl a2_, .inl (st_ + (S_.2.2.1 16 (0 + ii_) e9_.toNat))], S_)) rfl ?_
      refine sm_T_br (a := 5) (z := 9) rfl (fun cx9_ => ?_) (fun cx9_ => ?_)
      · have cx9_ : st_ + (S_.2.2.1 16 (0 + ii_) e9_.toNat) ≤ a2_ := of_decide_eq_true cx9_
        rw [← hst_, if_neg (by omega)] at s9_
        rw [s9_] at m9_
        dsimp only at m9_
        refine sm_T_go 1 (c1 := (39, [some (.inr (.inr (some (0, ii_)))), some (.inr (.inr (some (2, cc_)))), some (.inl a2_), some (.inl a3_), some (.inl rr_), some (.inl st_), some (.inl e9_)], [.inl a3_], S_)) rfl ?_
        refine sm_T_b0 (a := 0) (z := 21) rfl (fun cx10_ => ?_) (fun cx10_ => ?_)
        · have cx10_ : a3_ = 0 := of_decide_eq_true cx10_
          refine sm_T_go 4 (c1 := (68, [some (.inr (.inr (some (0, ii_)))), some (.inr (.inr (some (2, cc_)))), some (.inl a2_), some (.inl a3_), some (.inl rr_), some (.inl st_), some (.inl e9_)], [.inl e9_, .inr (.inr (some (16, (0 + ii_)))), .inl st_], S_)) rfl ?_
          refine sm_T_iald (n := 156) rfl rfl (by omega) (by omega) ?_
          refine sm_T_bin (w := st_ + (S_.2.2.1 16 (0 + ii_) e9_.toNat)) rfl (bi_add (by omega) (by omega) (by omega)) ?_ -- pc_ 69
          refine sm_T_go 1 (c1 := (72, [some (.inr (.inr (some (0, ii_)))), some (.inr (.inr (some (2, cc_)))), some (.inl a2_), some (.inl a3_), some (.inl rr_), some (.inl (st_ + (S_.2.2.1 16 (0 + ii_) e9_.toNat))), some (.inl e9_)], [], S_)) rfl ?_
          refine sm_T_inc (a := 6) (z := 1) (v := e9_) (w := e9_ + 1) rfl rfl (by omega) (by omega) (by omega) ?_ -- pc_ 72
          refine sm_T_go 1 (c1 := (9, [some (.inr (.inr (some (0, ii_)))), some (.inr (.inr (some (2, cc_)))), some (.inl a2_), some (.inl a3_), some (.inl rr_), some (.inl (st_ + (S_.2.2.1 16 (0 + ii_) e9_.toNat))), some (.inl (e9_ + 1))], [], S_)) rfl ?_
          refine ih_ rr_ (st_ + (S_.2.2.1 16 (0 + ii_) e9_.toNat)) (e9_ + 1) S_ hI_ hF_ ⟨?_, ?_, ?_, ?_, ?_, ?_, trivial⟩ ?_
          · omega
          · (rw [show (e9_ + 1).toNat = e9_.toNat + 1 by omega, s9_]; try dsimp only; omega)
          · (rw [show (e9_ + 1).toNat = e9_.toNat + 1 by omega, s9_]; try dsimp only; omega)
          · exact hz_
          · (intro u_; exfalso; omega)
          · exact hC_
          · omega
        · have cx10_ : ¬ (a3_ = 0) := of_decide_eq_false cx10_
          have k9_ := hk_ (by omega)
          refine sm_T_go 4 (c1 := (50, [some (.inr (.inr (some (0, ii_)))), some (.inr (.inr (some (2, cc_)))), some (.inl a2_), some (.inl a3_), some (.inl rr_), some (.inl st_), some (.inl e9_)], [.inl st_, .inl e9_, .inr (.inr (some (14, (0 + ii_))))], S_)) rfl ?_
          refine sm_T_iast (n := 156) rfl rfl (by omega) (by omega) ?_
          have hIx11_ : gi (sm_aI S_ 14 (0 + ii_) e9_.toNat st_) := gi_aI hI_ (show 0 ≤ st_ ∧ st_ ≤ 60 from ⟨by omega, by omega⟩)
          have hFx12_ : ai_fr (sx_W vw_21) S0_ (sm_aI S_ 14 (0 + ii_) e9_.toNat st_) := ai_fr_tr hF_ (ai_fr_aI rfl)
          have hCx13_ : cdf ii_ S0_ (sm_aI S_ 14 (0 + ii_) e9_.toNat st_) := cdf_aI hC_ (Or.inr (by rw [show cof 14 = 0 from rfl] <;> omega))
          refine sm_T_go 4 (c1 := (59, [some (.inr (.inr (some (0, ii_)))), some (.inr (.inr (some (2, cc_)))), some (.inl a2_), some (.inl a3_), some (.inl rr_), some (.inl st_), some (.inl e9_)], [.inl rr_, .inl e9_, .inr (.inr (some (15, (0 + ii_))))], sm_aI S_ 14 (0 + ii_) e9_.toNat st_)) rfl ?_
          refine sm_T_iast (n := 156) rfl rfl (by omega) (by omega) ?_
          have hIx14_ : gi (sm_aI (sm_aI S_ 14 (0 + ii_) e9_.toNat st_) 15 (0 + ii_) e9_.toNat rr_) := gi_aI hIx11_ (show 0 ≤ rr_ ∧ rr_ ≤ 12 from ⟨by omega, by omega⟩)
          have hFx15_ : ai_fr (sx_W vw_21) S0_ (sm_aI (sm_aI S_ 14 (0 + ii_) e9_.toNat st_) 15 (0 + ii_) e9_.toNat rr_) := ai_fr_tr hFx12_ (ai_fr_aI rfl)
          have hCx16_ : cdf ii_ S0_ (sm_aI (sm_aI S_ 14 (0 + ii_) e9_.toNat st_) 15 (0 + ii_) e9_.toNat rr_) := cdf_aI hCx13_ (Or.inr (by rw [show cof 15 = 0 from rfl] <;> omega))
          refine sm_T_go 4 (c1 := (68, [some (.inr (.inr (some (0, ii_)))), some (.inr (.inr (some (2, cc_)))), some (.inl a2_), some (.inl a3_), some (.inl rr_), some (.inl st_), some (.inl e9_)], [.inl e9_, .inr (.inr (some (16, (0 + ii_)))), .inl st_], sm_aI (sm_aI S_ 14 (0 + ii_) e9_.toNat st_) 15 (0 + ii_) e9_.toNat rr_)) rfl ?_
          refine sm_T_iald (n := 156) rfl rfl (by omega) (by omega) ?_
          refine sm_T_go 0 (c1 := (69, [some (.inr (.inr (some (0, ii_)))), some (.inr (.inr (some (2, cc_)))), some (.inl a2_), some (.inl a3_), some (.inl rr_), some (.inl st_), some (.inl e9_)], [.inl (S_.2.2.1 16 (0 + ii_) e9_.toNat), .inl st_], sm_aI (sm_aI S_ 14 (0 + ii_) e9_.toNat st_) 15 (0 + ii_) e9_.toNat rr_)) rfl ?_
          refine sm_T_bin (w := st_ + (S_.2.2.1 16 (0 + ii_) e9_.toNat)) rfl (bi_add (by omega) (by omega) (by omega)) ?_ -- pc_ 69
          refine sm_T_go 1 (c1 := (72, [some (.inr (.inr (some (0, ii_)))), some (.inr (.inr (some (2, cc_)))), some (.inl a2_), some (.inl a3_), some (.inl rr_), some (.inl (st_ + (S_.2.2.1 16 (0 + ii_) e9_.toNat))), some (.inl e9_)], [], sm_aI (sm_aI S_ 14 (0 + ii_) e9_.toNat st_) 15 (0 + ii_) e9_.toNat rr_)) rfl ?_
          refine sm_T_inc (a := 6) (z := 1) (v := e9_) (w := e9_ + 1) rfl rfl (by omega) (by omega) (by omega) ?_ -- pc_ 72
          refine sm_T_go 1 (c1 := (9, [some (.inr (.inr (some (0, ii_)))), some (.inr (.inr (some (2, cc_)))), some (.inl a2_), some (.inl a3_), some (.inl rr_), some (.inl (st_ + (S_.2.2.1 16 (0 + ii_) e9_.toNat))), some (.inl (e9_ + 1))], [], sm_aI (sm_aI S_ 14 (0 + ii_) e9_.toNat st_) 15 (0 + ii_) e9_.toNat rr_)) rfl ?_
          refine ih_ rr_ (st_ + (S_.2.2.1 16 (0 + ii_) e9_.toNat)) (e9_ + 1) (sm_aI (sm_aI S_ 14 (0 + ii_) e9_.toNat st_) 15 (0 + ii_) e9_.toNat rr_) hIx14_ hFx15_ ⟨?_, ?_, ?_, ?_, ?_, ?_, trivial⟩ ?_
          · omega
          · (rw [show (e9_ + 1).toNat = e9_.toNat + 1 by omega, s9_]; try dsimp only; omega)
          · (rw [show (e9_ + 1).toNat = e9_.toNat + 1 by omega, s9_]; try dsimp only; omega)
          · (intro u_; exfalso; omega)
          · intro u_ j_ hj9_
            rw [rd_eq, rd_ne (by decide), rd_eq, rd_ne (by decide)]
            by_cases z_ : j_ = e9_.toNat
            · rw [if_pos z_, if_pos z_, z_]; omega
            · rw [if_neg z_, if_neg z_]; have w9_ := hj_ u_ j_ (by omega); omega
          · exact hCx16_
          · omega
      · have cx9_ : ¬ (st_ + (S_.2.2.1 16 (0 + ii_) e9_.toNat) ≤ a2_) := of_decide_eq_false cx9_
        rw [← hst_, if_pos (by omega)] at s9_
        rw [s9_] at m9_
        dsimp only at m9_
        refine sm_T_inc (a := 4) (z := 1) (v := rr_) (w := rr_ + 1) rfl rfl (by omega) (by omega) (by omega) ?_ -- pc_ 32
        refine sm_T_go 3 (c1 := (39, [some (.inr (.inr (some (0, ii_)))), some (.inr (.inr (some (2, cc_)))), some (.inl a2_), some (.inl a3_), some (.inl (rr_ + 1)), some (.inl 0), some (.inl e9_)], [.inl a3_], S_)) rfl ?_
        refine sm_T_b0 (a := 0) (z := 21) rfl (fun cx17_ => ?_) (fun cx17_ => ?_)
        · have cx17_ : a3_ = 0 := of_decide_eq_true cx17_
          refine sm_T_go 4 (c1 := (68, [some (.inr (.inr (some (0, ii_)))), some (.inr (.inr (some (2, cc_)))), some (.inl a2_), some (.inl a3_), some (.inl (rr_ + 1)), some (.inl 0), some (.inl e9_)], [.inl e9_, .inr (.inr (some (16, (0 + ii_)))), .inl 0], S_)) rfl ?_
          refine sm_T_iald (n := 156) rfl rfl (by omega) (by omega) ?_
          refine sm_T_bin (w := (S_.2.2.1 16 (0 + ii_) e9_.toNat)) rfl (bi_add (by omega) (by omega) (by omega)) ?_ -- pc_ 69
          refine sm_T_go 1 (c1 := (72, [some (.inr (.inr (some (0, ii_)))), some (.inr (.inr (some (2, cc_)))), some (.inl a2_), some (.inl a3_), some (.inl (rr_ + 1)), some (.inl (S_.2.2.1 16 (0 + ii_) e9_.toNat)), some (.inl e9_)], [], S_)) rfl ?_
          refine sm_T_inc (a := 6) (z := 1) (v := e9_) (w := e9_ + 1) rfl rfl (by omega) (by omega) (by omega) ?_ -- pc_ 72
          refine sm_T_go 1 (c1 := (9, [some (.inr (.inr (some (0, ii_)))), some (.inr (.inr (some (2, cc_)))), some (.inl a2_), some (.inl a3_), some (.inl (rr_ + 1)), some (.inl (S_.2.2.1 16 (0 + ii_) e9_.toNat)), some (.inl (e9_ + 1))], [], S_)) rfl ?_
          refine ih_ (rr_ + 1) (S_.2.2.1 16 (0 + ii_) e9_.toNat) (e9_ + 1) S_ hI_ hF_ ⟨?_, ?_, ?_, ?_, ?_, ?_, trivial⟩ ?_
          · omega
          · (rw [show (e9_ + 1).toNat = e9_.toNat + 1 by omega, s9_]; try dsimp only; omega)
          · (rw [show (e9_ + 1).toNat = e9_.toNat + 1 by omega, s9_]; try dsimp only; omega)
          · exact hz_
          · (intro u_; exfalso; omega)
          · exact hC_
          · omega
        · have cx17_ : ¬ (a3_ = 0) := of_decide_eq_false cx17_
          have k9_ := hk_ (by omega)
          refine sm_T_go 4 (c1 := (50, [some (.inr (.inr (some (0, ii_)))), some (.inr (.inr (some (2, cc_)))), some (.inl a2_), some (.inl a3_), some (.inl (rr_ + 1)), some (.inl 0), some (.inl e9_)], [.inl 0, .inl e9_, .inr (.inr (some (14, (0 + ii_))))], S_)) rfl ?_
          refine sm_T_iast (n := 156) rfl rfl (by omega) (by omega) ?_
          have hIx18_ : gi (sm_aI S_ 14 (0 + ii_) e9_.toNat 0) := gi_aI hI_ (show 0 ≤ 0 ∧ 0 ≤ 60 from ⟨by omega, by omega⟩)
          have hFx19_ : ai_fr (sx_W vw_21) S0_ (sm_aI S_ 14 (0 + ii_) e9_.toNat 0) := ai_fr_tr hF_ (ai_fr_aI rfl)
          have hCx20_ : cdf ii_ S0_ (sm_aI S_ 14 (0 + ii_) e9_.toNat 0) := cdf_aI hC_ (Or.inr (by rw [show cof 14 = 0 from rfl] <;> omega))
          refine sm_T_go 4 (c1 := (59, [some (.inr (.inr (some (0, ii_)))), some (.inr (.inr (some (2, cc_)))), some (.inl a2_), some (.inl a3_), some (.inl (rr_ + 1)), some (.inl 0), some (.inl e9_)], [.inl (rr_ + 1), .inl e9_, .inr (.inr (some (15, (0 + ii_))))], sm_aI S_ 14 (0 + ii_) e9_.toNat 0)) rfl ?_
          refine sm_T_iast (n := 156) rfl rfl (by omega) (by omega) ?_
          have hIx21_ : gi (sm_aI (sm_aI S_ 14 (0 + ii_) e9_.toNat 0) 15 (0 + ii_) e9_.toNat (rr_ + 1)) := gi_aI hIx18_ (show 0 ≤ rr_ + 1 ∧ rr_ + 1 ≤ 12 from ⟨by omega, by omega⟩)
          have hFx22_ : ai_fr (sx_W vw_21) S0_ (sm_aI (sm_aI S_ 14 (0 + ii_) e9_.toNat 0) 15 (0 + ii_) e9_.toNat (rr_ + 1)) := ai_fr_tr hFx19_ (ai_fr_aI rfl)
          have hCx23_ : cdf ii_ S0_ (sm_aI (sm_aI S_ 14 (0 + ii_) e9_.toNat 0) 15 (0 + ii_) e9_.toNat (rr_ + 1)) := cdf_aI hCx20_ (Or.inr (by rw [show cof 15 = 0 from rfl] <;> omega))
          refine sm_T_go 4 (c1 := (68, [some (.inr (.inr (some (0, ii_)))), some (.inr (.inr (some (2, cc_)))), some (.inl a2_), some (.inl a3_), some (.inl (rr_ + 1)), some (.inl 0), some (.inl e9_)], [.inl e9_, .inr (.inr (some (16, (0 + ii_)))), .inl 0], sm_aI (sm_aI S_ 14 (0 + ii_) e9_.toNat 0) 15 (0 + ii_) e9_.toNat (rr_ + 1))) rfl ?_
          refine sm_T_iald (n := 156) rfl rfl (by omega) (by omega) ?_
          refine sm_T_go 0 (c1 := (69, [some (.inr (.inr (some (0, ii_)))), some (.inr (.inr (some (2, cc_)))), some (.inl a2_), some (.inl a3_), some (.inl (rr_ + 1)), some (.inl 0), some (.inl e9_)], [.inl (S_.2.2.1 16 (0 + ii_) e9_.toNat), .inl 0], sm_aI (sm_aI S_ 14 (0 + ii_) e9_.toNat 0) 15 (0 + ii_) e9_.toNat (rr_ + 1))) rfl ?_
          refine sm_T_bin (w := (S_.2.2.1 16 (0 + ii_) e9_.toNat)) rfl (bi_add (by omega) (by omega) (by omega)) ?_ -- pc_ 69
          refine sm_T_go 1 (c1 := (72, [some (.inr (.inr (some (0, ii_)))), some (.inr (.inr (some (2, cc_)))), some (.inl a2_), some (.inl a3_), some (.inl (rr_ + 1)), some (.inl (S_.2.2.1 16 (0 + ii_) e9_.toNat)), some (.inl e9_)], [], sm_aI (sm_aI S_ 14 (0 + ii_) e9_.toNat 0) 15 (0 + ii_) e9_.toNat (rr_ + 1))) rfl ?_
          refine sm_T_inc (a := 6) (z := 1) (v := e9_) (w := e9_ + 1) rfl rfl (by omega) (by omega) (by omega) ?_ -- pc_ 72
          refine sm_T_go 1 (c1 := (9, [some (.inr (.inr (some (0, ii_)))), some (.inr (.inr (some (2, cc_)))), some (.inl a2_), some (.inl a3_), some (.inl (rr_ + 1)), some (.inl (S_.2.2.1 16 (0 + ii_) e9_.toNat)), some (.inl (e9_ + 1))], [], sm_aI (sm_aI S_ 14 (0 + ii_) e9_.toNat 0) 15 (0 + ii_) e9_.toNat (rr_ + 1))) rfl ?_
          refine ih_ (rr_ + 1) (S_.2.2.1 16 (0 + ii_) e9_.toNat) (e9_ + 1) (sm_aI (sm_aI S_ 14 (0 + ii_) e9_.toNat 0) 15 (0 + ii_) e9_.toNat (rr_ + 1)) hIx21_ hFx22_ ⟨?_, ?_, ?_, ?_, ?_, ?_, trivial⟩ ?_
          · omega
          · (rw [show (e9_ + 1).toNat = e9_.toNat + 1 by omega, s9_]; try dsimp only; omega)
          · (rw [show (e9_ + 1).toNat = e9_.toNat + 1 by omega, s9_]; try dsimp only; omega)
          · (intro u_; exfalso; omega)
          · intro u_ j_ hj9_
            rw [rd_eq, rd_ne (by decide), rd_eq, rd_ne (by decide)]
            by_cases z_ : j_ = e9_.toNat
            · rw [if_pos z_, if_pos z_, z_]; omega
            · rw [if_neg z_, if_neg z_]; have w9_ := hj_ u_ j_ (by omega); omega
          · exact hCx23_
          · omega
set_option maxHeartbeats 400000 in
theorem vc_21 {sc_ : Nat × (Nat → Int)} (a2_ : Int) (a3_ : Int) (ii_ : Nat) (cc_ : Nat) (S0_ : sm_S) (hI_ : gi S0_) (hI0_ : gi S0_) (h1_ : 4 ≤ a2_ ∧ a2_ ≤ 60) (h3_ : 0 ≤ a3_ ∧ a3_ ≤ 1) (hk_ : a3_ ≠ 0 → (lo9 (S0_.2.2.1 16 (0 + ii_)) a2_ (S0_.1 2 cc_ 2 + S0_.1 2 cc_ 8).toNat).1 ≤ 11) : sm_T (mt_P sc_) 1 21 (0, [some (.inr (.inr (some (0, ii_)))), some (.inr (.inr (some (2, cc_)))), some (.inl a2_), some (.inl a3_), none, none, none], [], S0_) (fun ro9_ => ∃ u_ S1_, ro9_ = (.inl u_, S1_, 0) ∧ vq_21 a2_ a3_ ii_ cc_ S0_ u_ S1_) := by
  have hF_ : ai_fr (sx_W vw_21) S0_ S0_ := ai_fr_rf
  have hC_ : cdf ii_ S0_ S0_ := cdf_rf
  refine sm_T_go 6 (c1 := (9, [some (.inr (.inr (some (0, ii_)))), some (.inr (.inr (some (2, cc_)))), some (.inl a2_), some (.inl a3_), some (.inl 0), some (.inl 0), some (.inl 0)], [], S0_)) rfl ?_
  refine (vl_21 a2_ a3_ ii_ cc_ S0_ hI0_ h1_ h3_ hk_ _) 0 0 0 S0_ hI_ hF_ ⟨?_, ?_, ?_, ?_, ?_, ?_, trivial⟩ (Nat.lt_succ_self _)
  · (have c2_ : 0 ≤ S0_.1 2 cc_ 2 ∧ S0_.1 2 cc_ 2 ≤ 6 := hI0_.1 2 cc_ 2 rfl; have c8_ : 0 ≤ S0_.1 2 cc_ 8 ∧ S0_.1 2 cc_ 8 ≤ 150 := hI0_.1 2 cc_ 8 rfl; omega)
  · rfl
  · rfl
  · (intro _; rfl)
  · (intro _ j_ hj9_; exfalso; omega)
  · exact hC_
end
/-! 99.zj9c -/
section
/-! Board.measureAll -/
def vw_22 : sx_Wl := ([(0, 11), (0, 16), (4, 0)], [21], [])
def vq_22 (ii_ : Nat) (cc_ : Nat) (S0_ : sm_S) (u_ : Option sm_V) (S1_ : sm_S) : Prop := u_ = none ∧ gi S1_ ∧ ai_fr (sx_W vw_22) S0_ S1_ ∧ (cdf ii_ S0_ S1_ ∧ (S1_.1 0 ii_ 11 = 0 ∧ S1_.1 4 (0 + ii_) 0 = 0))
set_option maxHeartbeats 400000 in
theorem vl_22 {sc_ : Nat × (Nat → Int)} (ii_ : Nat) (cc_ : Nat) (S0_ : sm_S) (hb_ : bpn ii_ S0_) (hs_ : S0_.1 2 cc_ 1 + S0_.1 2 cc_ 2 ≤ 12) : ∀ nn_ : Nat, (∀ (k_ : Int) (S_ : sm_S), gi S_ → ai_fr (sx_W vw_22) S0_ S_ → ((0 ≤ k_ ∧ k_ ≤ 162) ∧ (cdf ii_ S0_ S_) ∧ True) → ((1000 - k_).toNat) < nn_ → sm_T (mt_P sc_) 2 22 (2, [some (.inr (.inr (some (0, ii_)))), some (.inr (.inr (some (2, cc_)))), some (.inl k_)], [], S_) (fun ro9_ => ∃ u_ S1_, ro9_ = (.inl u_, S1_, 0) ∧ vq_22 ii_ cc_ S0_ u_ S1_)) := by
  intro nn_
  induction nn_ with
  | zero => exact fun _ _ _ _ _ h_ => absurd h_ (Nat.not_lt_zero _)
  | succ nn_ ih_ =>
    rintro k_ S_ hI_ hF_ ⟨h0_, hC_, -⟩ hm_
    have e1_ : S_.1 2 cc_ 1 = S0_.1 2 cc_ 1 := hF_.1 2 cc_ 1 rfl
    have e2_ : S_.1 2 cc_ 2 = S0_.1 2 cc_ 2 := hF_.1 2 cc_ 2 rfl
    have c8_ : 0 ≤ S_.1 2 cc_ 8 ∧ S_.1 2 cc_ 8 ≤ 150 := hI_.1 2 cc_ 8 rfl
    refine sm_T_go 2 (c1 := (4, [some (.inr (.inr (some (0, ii_)))), some (.inr (.inr (some (2, cc_)))), some (.inl k_)], [.inr (.inr (some (2, cc_))), .inl k_], S_)) rfl ?_
    refine sm_T_cal (d1 := 0) (Q1 := vq_55 cc_ S_) rfl rfl (by decide) (vc_55 cc_ S_ hI_ ) (fun u_ Sx1_ px4_ => ?_)
    obtain ⟨rfl, vx6_, rfl, px4_⟩ := px4_
    have n9_ := px4_
    refine sm_T_br (a := 3) (z := 20) rfl (fun cx7_ => ?_) (fun cx7_ => ?_)
    · have cx7_ : vx6_ ≤ k_ := of_decide_eq_true cx7_
      refine sm_T_go 1 (c1 := (28, [some (.inr (.inr (some (0, ii_)))), some (.inr (.inr (some (2, cc_)))), some (.inl k_)], [.inr (.inr (some (0, ii_)))], S_)) rfl ?_
      refine sm_T_cal (d1 := 0) (Q1 := vq_15 ii_ S_) rfl rfl (by decide) (vc_15 ii_ S_ hI_ ) (fun u_ Sx8_ px11_ => ?_)
      obtain ⟨rfl, hIx9_, hFx10_, px11_⟩ := px11_
      have hFx12_ : ai_fr (sx_W vw_22) S0_ Sx8_ := ai_fr_tr hF_ (fr_le hFx10_ rfl)
      obtain ⟨dx14_, px11_⟩ := px11_
      have hCx13_ : cdf ii_ S0_ Sx8_ := cdf_tr hC_ (cdf_cg (by omega) dx14_)
      have l9_ := px11_
      have bx15_ : (-2147483648) ≤ Sx8_.1 0 ii_ 16 ∧ Sx8_.1 0 ii_ 16 ≤ 2147483647 := hIx9_.1 0 ii_ 16 rfl
      refine sm_T_go 4 (c1 := (37, [some (.inr (.inr (some (0, ii_)))), some (.inr (.inr (some (2, cc_)))), some (.inl k_)], [.inl 1, .inl (Sx8_.1 0 ii_ 16), .inr (.inr (some (0, ii_)))], Sx8_)) rfl ?_
      refine sm_T_bin (w := (i_add (Sx8_.1 0 ii_ 16) 1)) rfl rfl ?_ -- pc_ 37
      have bx16_ := i_add_r (Sx8_.1 0 ii_ 16) 1
      have hIx17_ : gi (sm_pI Sx8_ 0 ii_ 16 (i_add (Sx8_.1 0 ii_ 16) 1)) := gi_pI hIx9_ (show (-2147483648) ≤ (i_add (Sx8_.1 0 ii_ 16) 1) ∧ (i_add (Sx8_.1 0 ii_ 16) 1) ≤ 2147483647 from ⟨by omega, by omega⟩)
      have hFx18_ : ai_fr (sx_W vw_22) S0_ (sm_pI Sx8_ 0 ii_ 16 (i_add (Sx8_.1 0 ii_ 16) 1)) := ai_fr_tr hFx12_ (ai_fr_pI rfl)
      have hCx19_ : cdf ii_ S0_ (sm_pI Sx8_ 0 ii_ 16 (i_add (Sx8_.1 0 ii_ 16) 1)) := cdf_pI hCx13_ (Or.inr (by rw [show cof 0 = 0 from rfl] <;> omega))
      refine sm_T_go 1 (c1 := (41, [some (.inr (.inr (some (0, ii_)))), some (.inr (.inr (some (2, cc_)))), some (.inl k_)], [], sm_pI Sx8_ 0 ii_ 16 (i_add (Sx8_.1 0 ii_ 16) 1))) rfl ?_
      refine sm_T_rv rfl ⟨_, _, rfl, rfl, hIx17_, hFx18_, ?_⟩
      refine ⟨hCx19_, ?_⟩
      constructor
      · rw [rf_nk (by decide)]; exact l9_.1
      · rw [rf_nt (by decide)]; exact l9_.2
    · have cx7_ : ¬ (vx6_ ≤ k_) := of_decide_eq_false cx7_
      refine sm_T_go 5 (c1 := (17, [some (.inr (.inr (some (0, ii_)))), some (.inr (.inr (some (2, cc_)))), some (.inl k_)], [.inl k_, .inr (.inr (some (0, ii_))), .inl k_, .inr (.inr (some (21, (0 + ii_))))], S_)) rfl ?_
      refine sm_T_cal (d1 := 1) (Q1 := vq_23 k_ ii_ S_) rfl rfl (by decide) (vc_23 k_ ii_ S_ hI_ (by omega) (by exact bpn_fr hb_ hF_ rfl rfl rfl rfl)) (fun u_ Sx20_ px23_ => ?_)
      obtain ⟨rfl, vx25_, rfl, px23_⟩ := px23_
      have w9_ := px23_
      refine sm_T_iast (n := 162) rfl rfl (by omega) (by omega) ?_
      have hIx26_ : gi (sm_aI S_ 21 (0 + ii_) k_.toNat vx25_) := gi_aI hI_ (show (-9999) ≤ vx25_ ∧ vx25_ ≤ 20000 from ⟨by omega, by omega⟩)
      have hFx27_ : ai_fr (sx_W vw_22) S0_ (sm_aI S_ 21 (0 + ii_) k_.toNat vx25_) := ai_fr_tr hF_ (ai_fr_aI rfl)
      have hCx28_ : cdf ii_ S0_ (sm_aI S_ 21 (0 + ii_) k_.toNat vx25_) := cdf_aI hC_ (Or.inr (by rw [show cof 21 = 0 from rfl] <;> omega))
      refine sm_T_inc (a := 2) (z := 1) (v := k_) (w := k_ + 1) rfl rfl (by omega) (by omega) (by omega) ?_ -- pc_ 21
      refine sm_T_go 1 (c1 := (2, [some (.inr (.inr (some (0, ii_)))), some (.inr (.inr (some (2, cc_)))), some (.inl (k_ + 1))], [], sm_aI S_ 21 (0 + ii_) k_.toNat vx25_)) rfl ?_
      refine ih_ (k_ + 1) (sm_aI S_ 21 (0 + ii_) k_.toNat vx25_) hIx26_ hFx27_ ⟨?_, ?_, trivial⟩ ?_
      · omega
      · exact hCx28_
      · omega
set_option maxHeartbeats 400000 in
theorem vc_22 {sc_ : Nat × (Nat → Int)} (ii_ : Nat) (cc_ : Nat) (S0_ : sm_S) (hI_ : gi S0_) (hb_ : bpn ii_ S0_) (hs_ : S0_.1 2 cc_ 1 + S0_.1 2 cc_ 2 ≤ 12) : sm_T (mt_P sc_) 2 22 (0, [some (.inr (.inr (some (0, ii_)))), some (.inr (.inr (some (2, cc_)))), none], [], S0_) (fun ro9_ => ∃ u_ S1_, ro9_ = (.inl u_, S1_, 0) ∧ vq_22 ii_ cc_ S0_ u_ S1_) := by
  have hF_ : ai_fr (sx_W vw_22) S0_ S0_ := ai_fr_rf
  have hC_ : cdf ii_ S0_ S0_ := cdf_rf
  refine sm_T_go 2 (c1 := (2, [some (.inr (.inr (some (0, ii_)))), some (.inr (.inr (some (2, cc_)))), some (.inl 0)], [], S0_)) rfl ?_
  refine (vl_22 ii_ cc_ S0_ hb_ hs_ _) 0 S0_ hI_ hF_ ⟨?_, ?_, trivial⟩ (Nat.lt_succ_self _)
  · omega
  · exact hC_
end
/-! 99.zj9d -/
section
/-! Board.exchange -/
def vw_29 : sx_Wl := ([], [14, 15], [])
def vq_29 (a1_ : Int) (a2_ : Int) (ii_ : Nat) (S0_ : sm_S) (u_ : Option sm_V) (S1_ : sm_S) : Prop := u_ = none ∧ gi S1_ ∧ ai_fr (sx_W vw_29) S0_ S1_ ∧ (cdf ii_ S0_ S1_ ∧ ((xch ii_ a1_.toNat a2_.toNat S0_ S1_)))
set_option maxHeartbeats 400000 in
theorem vc_29 {sc_ : Nat × (Nat → Int)} (a1_ : Int) (a2_ : Int) (ii_ : Nat) (S0_ : sm_S) (hI_ : gi S0_) (ha1_ : 0 ≤ a1_ ∧ a1_ ≤ 155) (ha2_ : 0 ≤ a2_ ∧ a2_ ≤ 155) : sm_T (mt_P sc_) 0 29 (0, [some (.inr (.inr (some (0, ii_)))), some (.inl a1_), some (.inl a2_), none, none], [], S0_) (fun ro9_ => ∃ u_ S1_, ro9_ = (.inl u_, S1_, 0) ∧ vq_29 a1_ a2_ ii_ S0_ u_ S1_) := by
  have hF_ : ai_fr (sx_W vw_29) S0_ S0_ := ai_fr_rf
  have hC_ : cdf ii_ S0_ S0_ := cdf_rf
  refine sm_T_go 3 (c1 := (5, [some (.inr (.inr (some (0, ii_)))), some (.inl a1_), some (.inl a2_), none, none], [.inl a1_, .inr (.inr (some (14, (0 + ii_))))], S0_)) rfl ?_
  refine sm_T_iald (n := 156) rfl rfl (by omega) (by omega) ?_
  have bx1_ : 0 ≤ S0_.2.2.1 14 (0 + ii_) a1_.toNat ∧ S0_.2.2.1 14 (0 + ii_) a1_.toNat ≤ 60 := hI_.2 14 (0 + ii_) _
  refine sm_T_go 7 (c1 := (17, [some (.inr (.inr (some (0, ii_)))), some (.inl a1_), some (.inl a2_), some (.inl (S0_.2.2.1 14 (0 + ii_) a1_.toNat)), none], [.inl a2_, .inr (.inr (some (14, (0 + ii_)))), .inl a1_, .inr (.inr (some (14, (0 + ii_))))], S0_)) rfl ?_
  refine sm_T_iald (n := 156) rfl rfl (by omega) (by omega) ?_
  have bx2_ : 0 ≤ S0_.2.2.1 14 (0 + ii_) a2_.toNat ∧ S0_.2.2.1 14 (0 + ii_) a2_.toNat ≤ 60 := hI_.2 14 (0 + ii_) _
  refine sm_T_iast (n := 156) rfl rfl (by omega) (by omega) ?_
  have hIx3_ : gi (sm_aI S0_ 14 (0 + ii_) a1_.toNat (S0_.2.2.1 14 (0 + ii_) a2_.toNat)) := gi_aI hI_ (show 0 ≤ (S0_.2.2.1 14 (0 + ii_) a2_.toNat) ∧ (S0_.2.2.1 14 (0 + ii_) a2_.toNat) ≤ 60 from ⟨by omega, by omega⟩)
  have hFx4_ : ai_fr (sx_W vw_29) S0_ (sm_aI S0_ 14 (0 + ii_) a1_.toNat (S0_.2.2.1 14 (0 + ii_) a2_.toNat)) := ai_fr_tr hF_ (ai_fr_aI rfl)
  have hCx5_ : cdf ii_ S0_ (sm_aI S0_ 14 (0 + ii_) a1_.toNat (S0_.2.2.1 14 (0 + ii_) a2_.toNat)) := cdf_aI hC_ (Or.inr (by rw [show cof 14 = 0 from rfl] <;> omega))
  refine sm_T_go 4 (c1 := (25, [some (.inr (.inr (some (0, ii_)))), some (.inl a1_), some (.inl a2_), some (.inl (S0_.2.2.1 14 (0 + ii_) a1_.toNat)), none], [.inl (S0_.2.2.1 14 (0 + ii_) a1_.toNat), .inl a2_, .inr (.inr (some (14, (0 + ii_))))], sm_aI S0_ 14 (0 + ii_) a1_.toNat (S0_.2.2.1 14 (0 + ii_) a2_.toNat))) rfl ?_
  refine sm_T_iast (n := 156) rfl rfl (by omega) (by omega) ?_
  have hIx6_ : gi (sm_aI (sm_aI S0_ 14 (0 + ii_) a1_.toNat (S0_.2.2.1 14 (0 + ii_) a2_.toNat)) 14 (0 + ii_) a2_.toNat (S0_.2.2.1 14 (0 + ii_) a1_.toNat)) := gi_aI hIx3_ (show 0 ≤ (S0_.2.2.1 14 (0 + ii_) a1_.toNat) ∧ (S0_.2.2.1 14 (0 + ii_) a1_.toNat) ≤ 60 from ⟨by omega, by omega⟩)
  have hFx7_ : ai_fr (sx_W vw_29) S0_ (sm_aI (sm_aI S0_ 14 (0 + ii_) a1_.toNat (S0_.2.2.1 14 (0 + ii_) a2_.toNat)) 14 (0 + ii_) a2_.toNat (S0_.2.2.1 14 (0 + ii_) a1_.toNat)) := ai_fr_tr hFx4_ (ai_fr_aI rfl)
  have hCx8_ : cdf ii_ S0_ (sm_aI (sm_aI S0_ 14 (0 + ii_) a1_.toNat (S0_.2.2.1 14 (0 + ii_) a2_.toNat)) 14 (0 + ii_) a2_.toNat (S0_.2.2.1 14 (0 + ii_) a1_.toNat)) := cdf_aI hCx5_ (Or.inr (by rw [show cof 14 = 0 from rfl] <;> omega))
  refine sm_T_go 3 (c1 := (31, [some (.inr (.inr (some (0, ii_)))), some (.inl a1_), some (.inl a2_), some (.inl (S0_.2.2.1 14 (0 + ii_) a1_.toNat)), none], [.inl a1_, .inr (.inr (some (15, (0 + ii_))))], sm_aI (sm_aI S0_ 14 (0 + ii_) a1_.toNat (S0_.2.2.1 14 (0 + ii_) a2_.toNat)) 14 (0 + ii_) a2_.toNat (S0_.2.2.1 14 (0 + ii_) a1_.toNat))) rfl ?_
  refine sm_T_iald (n := 156) rfl rfl (by omega) (by omega) ?_
  have bx9_ : 0 ≤ S0_.2.2.1 15 (0 + ii_) a1_.toNat ∧ S0_.2.2.1 15 (0 + ii_) a1_.toNat ≤ 12 := hI_.2 15 (0 + ii_) _
  refine sm_T_go 7 (c1 := (44, [some (.inr (.inr (some (0, ii_)))), some (.inl a1_), some (.inl a2_), some (.inl (S0_.2.2.1 14 (0 + ii_) a1_.toNat)), some (.inl (S0_.2.2.1 15 (0 + ii_) a1_.toNat))], [.inl a2_, .inr (.inr (some (15, (0 + ii_)))), .inl a1_, .inr (.inr (some (15, (0 + ii_))))], sm_aI (sm_aI S0_ 14 (0 + ii_) a1_.toNat (S0_.2.2.1 14 (0 + ii_) a2_.toNat)) 14 (0 + ii_) a2_.toNat (S0_.2.2.1 14 (0 + ii_) a1_.toNat))) rfl ?_
  refine sm_T_iald (n := 156) rfl rfl (by omega) (by omega) ?_
  have bx10_ : 0 ≤ S0_.2.2.1 15 (0 + ii_) a2_.toNat ∧ S0_.2.2.1 15 (0 + ii_) a2_.toNat ≤ 12 := hI_.2 15 (0 + ii_) _
  refine sm_T_go 0 (c1 := (45, [some (.inr (.inr (some (0, ii_)))), some (.inl a1_), some (.inl a2_), some (.inl (S0_.2.2.1 14 (0 + ii_) a1_.toNat)), some (.inl (S0_.2.2.1 15 (0 + ii_) a1_.toNat))], [.inl (S0_.2.2.1 15 (0 + ii_) a2_.toNat), .inl a1_, .inr (.inr (some (15, (0 + ii_))))], sm_aI (sm_aI S0_ 14 (0 + ii_) a1_.toNat (S0_.2.2.1 14 (0 + ii_) a2_.toNat)) 14 (0 + ii_) a2_.toNat (S0_.2.2.1 14 (0 + ii_) a1_.toNat))) rfl ?_
  refine sm_T_iast (n := 156) rfl rfl (by omega) (by omega) ?_
  have hIx11_ : gi (sm_aI (sm_aI (sm_aI S0_ 14 (0 + ii_) a1_.toNat (S0_.2.2.1 14 (0 + ii_) a2_.toNat)) 14 (0 + ii_) a2_.toNat (S0_.2.2.1 14 (0 + ii_) a1_.toNat)) 15 (0 + ii_) a1_.toNat (S0_.2.2.1 15 (0 + ii_) a2_.toNat)) := gi_aI hIx6_ (show 0 ≤ (S0_.2.2.1 15 (0 + ii_) a2_.toNat) ∧ (S0_.2.2.1 15 (0 + ii_) a2_.toNat) ≤ 12 from ⟨by omega, by omega⟩)
  have hFx12_ : ai_fr (sx_W vw_29) S0_ (sm_aI (sm_aI (sm_aI S0_ 14 (0 + ii_) a1_.toNat (S0_.2.2.1 14 (0 + ii_) a2_.toNat)) 14 (0 + ii_) a2_.toNat (S0_.2.2.1 14 (0 + ii_) a1_.toNat)) 15 (0 + ii_) a1_.toNat (S0_.2.2.1 15 (0 + ii_) a2_.toNat)) := ai_fr_tr hFx7_ (ai_fr_aI rfl)
  have hCx13_ : cdf ii_ S0_ (sm_aI (sm_aI (sm_aI S0_ 14 (0 + ii_) a1_.toNat (S0_.2.2.1 14 (0 + ii_) a2_.toNat)) 14 (0 + ii_) a2_.toNat (S0_.2.2.1 14 (0 + ii_) a1_.toNat)) 15 (0 + ii_) a1_.toNat (S0_.2.2.1 15 (0 + ii_) a2_.toNat)) := cdf_aI hCx8_ (Or.inr (by rw [show cof 15 = 0 from rfl] <;> omega))
  refine sm_T_go 4 (c1 := (53, [some (.inr (.inr (some (0, ii_)))), some (.inl a1_), some (.inl a2_), some (.inl (S0_.2.2.1 14 (0 + ii_) a1_.toNat)), some (.inl (S0_.2.2.1 15 (0 + ii_) a1_.toNat))], [.inl (S0_.2.2.1 15 (0 + ii_) a1_.toNat), .inl a2_, .inr (.inr (some (15, (0 + ii_))))], sm_aI (sm_aI (sm_aI S0_ 14 (0 + ii_) a1_.toNat (S0_.2.2.1 14 (0 + ii_) a2_.toNat)) 14 (0 + ii_) a2_.toNat (S0_.2.2.1 14 (0 + ii_) a1_.toNat)) 15 (0 + ii_) a1_.toNat (S0_.2.2.1 15 (0 + ii_) a2_.toNat))) rfl ?_
  refine sm_T_iast (n := 156) rfl rfl (by omega) (by omega) ?_
  have hIx14_ : gi (sm_aI (sm_aI (sm_aI (sm_aI S0_ 14 (0 + ii_) a1_.toNat (S0_.2.2.1 14 (0 + ii_) a2_.toNat)) 14 (0 + ii_) a2_.toNat (S0_.2.2.1 14 (0 + ii_) a1_.toNat)) 15 (0 + ii_) a1_.toNat (S0_.2.2.1 15 (0 + ii_) a2_.toNat)) 15 (0 + ii_) a2_.toNat (S0_.2.2.1 15 (0 + ii_) a1_.toNat)) := gi_aI hIx11_ (show 0 ≤ (S0_.2.2.1 15 (0 + ii_) a1_.toNat) ∧ (S0_.2.2.1 15 (0 + ii_) a1_.toNat) ≤ 12 from ⟨by omega, by omega⟩)
  have hFx15_ : ai_fr (sx_W vw_29) S0_ (sm_aI (sm_aI (sm_aI (sm_aI S0_ 14 (0 + ii_) a1_.toNat (S0_.2.2.1 14 (0 + ii_) a2_.toNat)) 14 (0 + ii_) a2_.toNat (S0_.2.2.1 14 (0 + ii_) a1_.toNat)) 15 (0 + ii_) a1_.toNat (S0_.2.2.1 15 (0 + ii_) a2_.toNat)) 15 (0 + ii_) a2_.toNat (S0_.2.2.1 15 (0 + ii_) a1_.toNat)) := ai_fr_tr hFx12_ (ai_fr_aI rfl)
  have hCx16_ : cdf ii_ S0_ (sm_aI (sm_aI (sm_aI (sm_aI S0_ 14 (0 + ii_) a1_.toNat (S0_.2.2.1 14 (0 + ii_) a2_.toNat)) 14 (0 + ii_) a2_.toNat (S0_.2.2.1 14 (0 + ii_) a1_.toNat)) 15 (0 + ii_) a1_.toNat (S0_.2.2.1 15 (0 + ii_) a2_.toNat)) 15 (0 + ii_) a2_.toNat (S0_.2.2.1 15 (0 + ii_) a1_.toNat)) := cdf_aI hCx13_ (Or.inr (by rw [show cof 15 = 0 from rfl] <;> omega))
  refine sm_T_rv rfl ⟨_, _, rfl, rfl, hIx14_, hFx15_, ?_⟩
  refine ⟨hCx16_, ?_⟩
  intro e_
  constructor
  · rw [rd_ne (by decide), rd_ne (by decide), rd_eq, rd_eq]
  · rw [rd_eq, rd_eq]; simp only [rd_ne, ne_eq, Nat.reduceEqDiff, not_false_eq_true]
end
/-! 99.zk0 -/
section
/-! points and their neighbours -/
def nb (w L p d : Int) : Int := if p < L then (if d = 0 then (if 0 < p % w then p - 1 else -1) else if d = 1 then (if p % w < w - 1 then p + 1 else -1) else if d = 2 ∨ d = 3 then -1 else p + L) else (if d = 0 ∨ d = 1 then -1 else if d = 2 then (if w ≤ p - L then p - w else -1) else if d = 3 then (if p - L < L - w then p + w else -1) else p - L)
theorem em_up {p w : Int} (hw : 0 < w) (h : p % w < w - 1) : (p + 1) % w = p % w + 1 := by
  have e := Int.mul_ediv_add_emod p w
  have q := Int.emod_nonneg p (show w ≠ 0 by omega)
  have z : p + 1 = (p % w + 1) + w * (p / w) := by omega
  rw [z, Int.add_mul_emod_self_left, Int.emod_eq_of_lt (by omega) (by omega)]
theorem em_dn {p w : Int} (hw : 0 < w) (h : 0 < p % w) : (p - 1) % w = p % w - 1 := by
  have e := Int.mul_ediv_add_emod p w
  have q := Int.emod_lt_of_pos p hw
  have z : p - 1 = (p % w - 1) + w * (p / w) := by omega
  rw [z, Int.add_mul_emod_self_left, Int.emod_eq_of_lt (by omega) (by omega)]
theorem nb_0 {w L p : Int} (hp : p < L) (h : 0 < p % w) : nb w L p 0 = p - 1 := by
  unfold nb; rw [if_pos hp, if_pos rfl, if_pos h]
theorem nb_1 {w L p : Int} (hp : p < L) (h : p % w < w - 1) : nb w L p 1 = p + 1 := by
  unfold nb; rw [if_pos hp, if_neg (by decide), if_pos rfl, if_pos h]
theorem nb_4 {w L p : Int} (hp : p < L) : nb w L p 4 = p + L := by
  unfold nb; rw [if_pos hp, if_neg (by decide), if_neg (by decide), if_neg (by decide)]
theorem nb_2 {w L p : Int} (hp : L ≤ p) (h : w ≤ p - L) : nb w L p 2 = p - w := by
  unfold nb; rw [if_neg (by omega), if_neg (by decide), if_pos rfl, if_pos h]
theorem nb_3 {w L p : Int} (hp : L ≤ p) (h : p - L < L - w) : nb w L p 3 = p + w := by
  unfold nb; rw [if_neg (by omega), if_neg (by decide), if_neg (by decide), if_pos rfl, if_pos h]
theorem nb_5 {w L p : Int} (hp : L ≤ p) : nb w L p 4 = p - L := by
  unfold nb; rw [if_neg (by omega), if_neg (by decide), if_neg (by decide), if_neg (by decide)]
theorem em_p {p w : Int} (hp : 0 ≤ p) (h : 0 < p % w) : 1 ≤ p := by
  by_cases z : p = 0
  · rw [z, Int.zero_emod] at h
    exact absurd h (by decide)
  · omega
/-- a neighbour is a point -/
theorem nb_r {w L p d : Int} (hw : 0 < w) (hL : 0 < L) (hp : 0 ≤ p ∧ p < 2 * L) : nb w L p d = -1 ∨ (0 ≤ nb w L p d ∧ nb w L p d < 2 * L) := by
  unfold nb
  by_cases a : p < L
  · rw [if_pos a]
    by_cases b : d = 0
    · rw [if_pos b]
      by_cases c : 0 < p % w
      · rw [if_pos c]
        have := em_p hp.1 c
        right; omega
      · rw [if_neg c]; left; rfl
    · rw [if_neg b]
      by_cases e : d = 1
      · rw [if_pos e]
        split
        · right; omega
        · left; rfl
      · rw [if_neg e]
        split
        · left; rfl
        · right; omega
  · rw [if_neg a]
    by_cases b : d = 0 ∨ d = 1
    · rw [if_pos b]; left; rfl
    · rw [if_neg b]
      by_cases e : d = 2
      · rw [if_pos e]
        split
        · right; omega
        · left; rfl
      · rw [if_neg e]
        by_cases g : d = 3
        · rw [if_pos g]
          split
          · right; omega
          · left; rfl
        · rw [if_neg g]; right; omega
/-- the ways back -/
theorem nb_b0 {w L p : Int} (hw : 0 < w) (hp : p < L) (h : 0 < p % w) : nb w L (p - 1) 1 = p := by
  have q := Int.emod_lt_of_pos p hw
  rw [nb_1 (by omega) (by rw [em_dn hw h]; omega)]
  omega
theorem nb_b1 {w L p k : Int} (hw : 0 < w) (hp : p < L) (hk : L = k * w) (h : p % w < w - 1) : p + 1 < L ∧ nb w L (p + 1) 0 = p := by
  have q := Int.emod_nonneg p (show w ≠ 0 by omega)
  have e := em_up hw h
  have l : p + 1 < L := by
    by_cases z : p + 1 = L
    · rw [z, hk, Int.mul_emod_left] at e
      omega
    · omega
  refine ⟨l, ?_⟩
  rw [nb_0 l (by omega)]
  omega
def prc (o : Nat → Int) (t : Int) (p : Nat) : Int := if o p = -1 ∨ o p = t then 1 else 11
theorem prc_p (o : Nat → Int) (t : Int) (p : Nat) : 1 ≤ prc o t p := by
  unfold prc
  split <;> decide
/-- what has spread: distances f from the points of net t (owners o), rows nr, fr of points -/
def rsf (w L t : Int) (o f nr fr : Nat → Int) (nt ft : Int) : Prop :=
  (∀ p : Nat, (p : Int) < 2 * L → (f p = 0 ↔ o p = t)) ∧
  (∀ p : Nat, (p : Int) < 2 * L → 0 < f p → prc o t p ≤ f p ∧ ∃ d, (0 ≤ d ∧ d < 5) ∧ (0 ≤ nb w L p d ∧ nb w L p d < 2 * L) ∧ f (nb w L p d).toNat = f p - prc o t p) ∧
  nt + ft + (cne f (-1) (2 * L).toNat : Int) = 2 * L ∧
  (∀ i : Nat, (i : Int) < nt → (0 ≤ nr i ∧ nr i < 2 * L) ∧ 0 ≤ f (nr i).toNat) ∧
  (∀ i : Nat, (i : Int) < ft → (0 ≤ fr i ∧ fr i < 2 * L) ∧ 0 ≤ f (fr i).toNat) ∧
  ∀ p : Nat, (p : Int) < 2 * L → -1 ≤ f p ∧ f p ≤ 11 * (nt + ft)
theorem rsf_a {w L t q s b nt ft nt' ft' : Int} {o f nr fr f' nr' fr' : Nat → Int} (h : rsf w L t o f nr fr nt ft) (ht : 0 ≤ t) (hq : 0 ≤ q ∧ q < 2 * L) (hs : 0 ≤ s ∧ s < 2 * L) (hf : f q.toNat = -1) (hb : f s.toNat = b) (hb0 : 0 ≤ b) (hn : ∃ d, (0 ≤ d ∧ d < 5) ∧ nb w L q d = s) (hf' : ∀ k, f' k = if k = q.toNat then b + prc o t q.toNat else f k) (hx : nt' + ft' = nt + ft + 1)
    (h1 : ∀ i : Nat, (i : Int) < nt' → nr' i = q ∨ ((i : Int) < nt ∧ nr' i = nr i)) (h2 : ∀ i : Nat, (i : Int) < ft' → fr' i = q ∨ ((i : Int) < ft ∧ fr' i = fr i)) : rsf w L t o f' nr' fr' nt' ft' := by
  obtain ⟨A, B, C, D, E, G⟩ := h
  have pq := prc_p o t q.toNat
  have pq' : prc o t q.toNat ≤ 11 := by unfold prc; split <;> decide
  have fq : f' q.toNat = b + prc o t q.toNat := by rw [hf', if_pos rfl]
  have fo : ∀ k, f k ≠ -1 → f' k = f k := fun k hk => by
    rw [hf', if_neg (fun z => hk (by rw [z]; exact hf))]
  refine ⟨fun p hp => ?_, fun p hp h0 => ?_, ?_, fun i hi => ?_, fun i hi => ?_, fun p hp => ?_⟩
  · by_cases z : p = q.toNat
    · rw [z, fq, ← A q.toNat (by omega), hf]
      constructor
      · intro y; omega
      · intro y; omega
    · rw [hf', if_neg z]
      exact A p hp
  · by_cases z : p = q.toNat
    · rw [z, fq]
      refine ⟨by omega, ?_⟩
      obtain ⟨d, hd, e⟩ := hn
      refine ⟨d, hd, ?_⟩
      rw [show ((q.toNat : Nat) : Int) = q by omega, e]
      refine ⟨hs, ?_⟩
      rw [fo _ (by rw [hb]; omega), hb]
      omega
    · rw [hf', if_neg z] at h0 ⊢
      obtain ⟨x, d, hd, y, e⟩ := B p hp h0
      refine ⟨x, d, hd, y, ?_⟩
      rw [fo _ (by rw [e]; omega), e]
  · have u := cne_up (f := f') (g := f) (c := -1) (j := q.toNat) (by rw [fq]; omega) hf (fun k hk => by rw [hf', if_neg hk]) (n := (2 * L).toNat) (by omega)
    rw [u] at C
    push_cast at C
    omega
  · rcases h1 i hi with z | ⟨z, y⟩
    · rw [z, fq]; omega
    · have x := D i z
      rw [y, fo _ (by omega)]
      exact x
  · rcases h2 i hi with z | ⟨z, y⟩
    · rw [z, fq]; omega
    · have x := E i z
      rw [y, fo _ (by omega)]
      exact x
  · have g := G p hp
    rw [hf']
    split
    · have g2 := G s.toNat (by omega)
      rw [hb] at g2
      omega
    · omega
/-- points nearer than d -/
def cnd (f : Nat → Int) (d : Int) : Nat → Nat
  | 0 => 0
  | n + 1 => cnd f d n + if 0 ≤ f n ∧ f n < d then 1 else 0
theorem cnd_le (f : Nat → Int) (d : Int) : ∀ n, cnd f d n ≤ n
  | 0 => Nat.le_refl _
  | n + 1 => by
    have := cnd_le f d n
    show cnd f d n + _ ≤ _
    split <;> omega
theorem cnd_mo {f : Nat → Int} {d e : Int} (h : d ≤ e) : ∀ n, cnd f d n ≤ cnd f e n
  | 0 => Nat.le_refl _
  | n + 1 => by
    have := cnd_mo (f := f) h n
    show cnd f d n + _ ≤ cnd f e n + _
    by_cases a : 0 ≤ f n ∧ f n < d
    · rw [if_pos a, if_pos (by omega)]; omega
    · rw [if_neg a]; omega
theorem cnd_lt {f : Nat → Int} {d e : Int} {j : Nat} (h : d ≤ e) (h0 : 0 ≤ f j) (h1 : d ≤ f j) (h2 : f j < e) : ∀ {n : Nat}, j < n → cnd f d n < cnd f e n
  | 0, hj => absurd hj (Nat.not_lt_zero _)
  | n + 1, hj => by
    show cnd f d n + _ < cnd f e n + _
    by_cases z : j = n
    · subst z
      have := cnd_mo (f := f) h j
      rw [if_neg (by omega), if_pos ⟨h0, h2⟩]; omega
    · have := cnd_lt h h0 h1 h2 (n := n) (by omega)
      by_cases a : 0 ≤ f n ∧ f n < d
      · rw [if_pos a, if_pos (by omega)]; omega
      · rw [if_neg a]; omega
/-- a row and its rest -/
theorem cne_cp {f g : Nat → Int} {c d : Int} : ∀ {n : Nat}, (∀ k, k < n → (f k = c ↔ ¬ g k = d)) → cne f c n + cne g d n = n
  | 0, _ => rfl
  | n + 1, h => by
    have u := cne_cp (f := f) (g := g) (c := c) (d := d) (n := n) (fun k hk => h k (by omega))
    have v := h n (by omega)
    rw [cne_s, cne_s]
    by_cases z : g n = d
    · rw [if_pos z, if_neg (fun y => v.mp y z)]; omega
    · rw [if_neg z, if_pos (v.mpr z)]; omega
end
/-! 99.zkaa -/
section
/-! boards placed; written by wip/p55/gen/vg -/
/-! Board.placeAll -/
def vw_20 : sx_Wl := ([(0, 0), (0, 1), (0, 2), (0, 11), (0, 16), (4, 0)], [14, 15, 21], [])
def vq_20 (a2_ : Int) (ii_ : Nat) (cc_ : Nat) (S0_ : sm_S) (u_ : Option sm_V) (S1_ : sm_S) : Prop := ∃ v_ : Int, u_ = some (.inl v_) ∧ gi S1_ ∧ ai_fr (sx_W vw_20) S0_ S1_ ∧ (cdf ii_ S0_ S1_ ∧ ((-1 ≤ v_ ∧ v_ ≤ 12) ∧ bpl ii_ cc_ S1_ ∧ (S1_ = S0_ ∨ (S1_.1 0 ii_ 11 = 0 ∧ S1_.1 4 (0 + ii_) 0 = 0))))
set_option maxHeartbeats 400000 in
theorem vc_20 {sc_ : Nat × (Nat → Int)} (a2_ : Int) (ii_ : Nat) (cc_ : Nat) (S0_ : sm_S) (hI_ : gi S0_) (h1_ : 4 ≤ a2_ ∧ a2_ ≤ 60) (hb_ : bpn ii_ S0_) (hs_ : S0_.1 2 cc_ 1 + S0_.1 2 cc_ 2 ≤ 12) (hp_ : bpl ii_ cc_ S0_) : sm_T (mt_P sc_) 3 20 (0, [some (.inr (.inr (some (0, ii_)))), some (.inr (.inr (some (2, cc_)))), some (.inl a2_), none], [], S0_) (fun ro9_ => ∃ u_ S1_, ro9_ = (.inl u_, S1_, 0) ∧ vq_20 a2_ ii_ cc_ S0_ u_ S1_) := by
  have hF_ : ai_fr (sx_W vw_20) S0_ S0_ := ai_fr_rf
  have hC_ : cdf ii_ S0_ S0_ := cdf_rf
  have lb9_ := lo9_b (f_ := (S0_.2.2.1 16 (0 + ii_))) (w_ := a2_) (fun k_ => hI_.2 16 (0 + ii_) k_) h1_.1 (S0_.1 2 cc_ 2 + S0_.1 2 cc_ 8).toNat
  refine sm_T_go 4 (c1 := (4, [some (.inr (.inr (some (0, ii_)))), some (.inr (.inr (some (2, cc_)))), some (.inl a2_), none], [.inl 0, .inl a2_, .inr (.inr (some (2, cc_))), .inr (.inr (some (0, ii_)))], S0_)) rfl ?_
  refine sm_T_cal (d1 := 1) (Q1 := vq_21 a2_ 0 ii_ cc_ S0_) rfl rfl (by decide) (vc_21 a2_ 0 ii_ cc_ S0_ hI_ (by exact hI_) (by omega) (by decide) (by (intro u_; exact absurd rfl u_))) (fun u_ Sx1_ px4_ => ?_)
  obtain ⟨vx6_, rfl, hIx2_, hFx3_, px4_⟩ := px4_
  have hFx5_ : ai_fr (sx_W vw_20) S0_ Sx1_ := ai_fr_tr hF_ (fr_le hFx3_ rfl)
  obtain ⟨dx8_, px4_⟩ := px4_
  have hCx7_ : cdf ii_ S0_ Sx1_ := cdf_tr hC_ (cdf_cg (by omega) dx8_)
  have p4_ := px4_.1
  have p4z := px4_.2.1 rfl
  have p4e : (Sx1_.2.2.1 16 (0 + ii_)) = (S0_.2.2.1 16 (0 + ii_)) := by rw [p4z]
  refine sm_T_go 3 (c1 := (11, [some (.inr (.inr (some (0, ii_)))), some (.inr (.inr (some (2, cc_)))), some (.inl a2_), some (.inl vx6_)], [.inl 12, .inl vx6_], Sx1_)) rfl ?_
  refine sm_T_br (a := 5) (z := 5) rfl (fun cx9_ => ?_) (fun cx9_ => ?_)
  · have cx9_ : vx6_ ≤ 12 := of_decide_eq_true cx9_
    refine sm_T_go 4 (c1 := (20, [some (.inr (.inr (some (0, ii_)))), some (.inr (.inr (some (2, cc_)))), some (.inl a2_), some (.inl vx6_)], [.inl 1, .inl a2_, .inr (.inr (some (2, cc_))), .inr (.inr (some (0, ii_)))], Sx1_)) rfl ?_
    refine sm_T_cal (d1 := 1) (Q1 := vq_21 a2_ 1 ii_ cc_ Sx1_) rfl rfl (by decide) (vc_21 a2_ 1 ii_ cc_ Sx1_ hIx2_ (by exact hIx2_) (by omega) (by decide) (by (intro u_; rw [p4z]; omega))) (fun u_ Sx10_ px13_ => ?_)
    obtain ⟨vx15_, rfl, hIx11_, hFx12_, px13_⟩ := px13_
    have hFx14_ : ai_fr (sx_W vw_20) S0_ Sx10_ := ai_fr_tr hFx5_ (fr_le hFx12_ rfl)
    obtain ⟨dx17_, px13_⟩ := px13_
    have hCx16_ : cdf ii_ S0_ Sx10_ := cdf_tr hCx7_ (cdf_cg (by omega) dx17_)
    have p20_ := px13_.1
    have p20j := px13_.2.2 (by decide)
    have s20_ := hFx12_.2.2 16 rfl (0 + ii_)
    have i1_ := hFx12_.1 2 cc_ 1 rfl
    have i2_ := hFx12_.1 2 cc_ 2 rfl
    have i3_ := hFx12_.1 2 cc_ 3 rfl
    have i8_ := hFx12_.1 2 cc_ 8 rfl
    rw [p4z] at p20_ p20j s20_ i1_ i2_ i3_ i8_
    have hIx18_ : gi (sm_pI Sx10_ 0 ii_ 0 a2_) := gi_pI hIx11_ (show 0 ≤ a2_ ∧ a2_ ≤ 60 from ⟨by omega, by omega⟩)
    have hFx19_ : ai_fr (sx_W vw_20) S0_ (sm_pI Sx10_ 0 ii_ 0 a2_) := ai_fr_tr hFx14_ (ai_fr_pI rfl)
    have hCx20_ : cdf ii_ S0_ (sm_pI Sx10_ 0 ii_ 0 a2_) := cdf_pI hCx16_ (Or.inr (by rw [show cof 0 = 0 from rfl] <;> omega))
    have hIx21_ : gi (sm_pI (sm_pI Sx10_ 0 ii_ 0 a2_) 0 ii_ 1 vx6_) := gi_pI hIx18_ (show 0 ≤ vx6_ ∧ vx6_ ≤ 12 from ⟨by omega, by omega⟩)
    have hFx22_ : ai_fr (sx_W vw_20) S0_ (sm_pI (sm_pI Sx10_ 0 ii_ 0 a2_) 0 ii_ 1 vx6_) := ai_fr_tr hFx19_ (ai_fr_pI rfl)
    have hCx23_ : cdf ii_ S0_ (sm_pI (sm_pI Sx10_ 0 ii_ 0 a2_) 0 ii_ 1 vx6_) := cdf_pI hCx20_ (Or.inr (by rw [show cof 0 = 0 from rfl] <;> omega))
    have ex24_ : (sm_pI (sm_pI Sx10_ 0 ii_ 0 a2_) 0 ii_ 1 vx6_).1 0 ii_ 1 = vx6_ := by (try simp only [rf_eq, rf_nk, rf_nt, rd_fa, rd_af, ne_eq, Nat.reduceEqDiff, not_false_eq_true])
    refine sm_T_go 11 (c1 := (40, [some (.inr (.inr (some (0, ii_)))), some (.inr (.inr (some (2, cc_)))), some (.inl a2_), some (.inl vx6_)], [.inl ((sm_pI (sm_pI Sx10_ 0 ii_ 0 a2_) 0 ii_ 1 vx6_).1 0 ii_ 1), .inl 3, .inr (.inr (some (0, ii_)))], sm_pI (sm_pI Sx10_ 0 ii_ 0 a2_) 0 ii_ 1 vx6_)) rfl ?_
    refine sm_T_bin (w := 3 * ((sm_pI (sm_pI Sx10_ 0 ii_ 0 a2_) 0 ii_ 1 vx6_).1 0 ii_ 1)) rfl (bi_mul (by omega) (by omega) (by omega)) ?_ -- pc_ 40
    refine sm_T_go 1 (c1 := (42, [some (.inr (.inr (some (0, ii_)))), some (.inr (.inr (some (2, cc_)))), some (.inl a2_), some (.inl vx6_)], [.inl 2, .inl (3 * ((sm_pI (sm_pI Sx10_ 0 ii_ 0 a2_) 0 ii_ 1 vx6_).1 0 ii_ 1)), .inr (.inr (some (0, ii_)))], sm_pI (sm_pI Sx10_ 0 ii_ 0 a2_) 0 ii_ 1 vx6_)) rfl ?_
    refine sm_T_bin (w := 3 * ((sm_pI (sm_pI Sx10_ 0 ii_ 0 a2_) 0 ii_ 1 vx6_).1 0 ii_ 1) + 2) rfl (bi_add (by omega) (by omega) (by omega)) ?_ -- pc_ 42
    have bx25_ : 0 ≤ Sx10_.1 2 cc_ 1 ∧ Sx10_.1 2 cc_ 1 ≤ 12 := hIx11_.1 2 cc_ 1 rfl
    have bx26_ : 0 ≤ Sx10_.1 2 cc_ 3 ∧ Sx10_.1 2 cc_ 3 ≤ 16 := hIx11_.1 2 cc_ 3 rfl
    refine sm_T_go 4 (c1 := (51, [some (.inr (.inr (some (0, ii_)))), some (.inr (.inr (some (2, cc_)))), some (.inl a2_), some (.inl vx6_)], [.inl (Sx10_.1 2 cc_ 3), .inl (Sx10_.1 2 cc_ 1), .inl (3 * ((sm_pI (sm_pI Sx10_ 0 ii_ 0 a2_) 0 ii_ 1 vx6_).1 0 ii_ 1) + 2), .inr (.inr (some (0, ii_)))], sm_pI (sm_pI Sx10_ 0 ii_ 0 a2_) 0 ii_ 1 vx6_)) rfl ?_
    refine sm_T_nt (u := some (.inl (sm_mx (Sx10_.1 2 cc_ 1) (Sx10_.1 2 cc_ 3)))) (S1 := sm_pI (sm_pI Sx10_ 0 ii_ 0 a2_) 0 ii_ 1 vx6_) rfl rfl rfl ?_
    have bx27_ := sm_mx_d (Sx10_.1 2 cc_ 1) (Sx10_.1 2 cc_ 3)
    refine sm_T_nt (u := some (.inl (sm_mx (3 * ((sm_pI (sm_pI Sx10_ 0 ii_ 0 a2_) 0 ii_ 1 vx6_).1 0 ii_ 1) + 2) (sm_mx (Sx10_.1 2 cc_ 1) (Sx10_.1 2 cc_ 3))))) (S1 := sm_pI (sm_pI Sx10_ 0 ii_ 0 a2_) 0 ii_ 1 vx6_) rfl rfl rfl ?_
    have bx28_ := sm_mx_d (3 * ((sm_pI (sm_pI Sx10_ 0 ii_ 0 a2_) 0 ii_ 1 vx6_).1 0 ii_ 1) + 2) (sm_mx (Sx10_.1 2 cc_ 1) (Sx10_.1 2 cc_ 3))
    have hIx29_ : gi (sm_pI (sm_pI (sm_pI Sx10_ 0 ii_ 0 a2_) 0 ii_ 1 vx6_) 0 ii_ 2 (sm_mx (3 * ((sm_pI (sm_pI Sx10_ 0 ii_ 0 a2_) 0 ii_ 1 vx6_).1 0 ii_ 1) + 2) (sm_mx (Sx10_.1 2 cc_ 1) (Sx10_.1 2 cc_ 3)))) := gi_pI hIx21_ (show 0 ≤ (sm_mx (3 * ((sm_pI (sm_pI Sx10_ 0 ii_ 0 a2_) 0 ii_ 1 vx6_).1 0 ii_ 1) + 2) (sm_mx (Sx10_.1 2 cc_ 1) (Sx10_.1 2 cc_ 3))) ∧ (sm_mx (3 * ((sm_pI (sm_pI Sx10_ 0 ii_ 0 a2_) 0 ii_ 1 vx6_).1 0 ii_ 1) + 2) (sm_mx (Sx10_.1 2 cc_ 1) (Sx10_.1 2 cc_ 3))) ≤ 38 from ⟨by omega, by omega⟩)
    have hFx30_ : ai_fr (sx_W vw_20) S0_ (sm_pI (sm_pI (sm_pI Sx10_ 0 ii_ 0 a2_) 0 ii_ 1 vx6_) 0 ii_ 2 (sm_mx (3 * ((sm_pI (sm_pI Sx10_ 0 ii_ 0 a2_) 0 ii_ 1 vx6_).1 0 ii_ 1) + 2) (sm_mx (Sx10_.1 2 cc_ 1) (Sx10_.1 2 cc_ 3)))) := ai_fr_tr hFx22_ (ai_fr_pI rfl)
    have hCx31_ : cdf ii_ S0_ (sm_pI (sm_pI (sm_pI Sx10_ 0 ii_ 0 a2_) 0 ii_ 1 vx6_) 0 ii_ 2 (sm_mx (3 * ((sm_pI (sm_pI Sx10_ 0 ii_ 0 a2_) 0 ii_ 1 vx6_).1 0 ii_ 1) + 2) (sm_mx (Sx10_.1 2 cc_ 1) (Sx10_.1 2 cc_ 3)))) := cdf_pI hCx23_ (Or.inr (by rw [show cof 0 = 0 from rfl] <;> omega))
    refine sm_T_go 3 (c1 := (62, [some (.inr (.inr (some (0, ii_)))), some (.inr (.inr (some (2, cc_)))), some (.inl a2_), some (.inl vx6_)], [.inr (.inr (some (2, cc_))), .inr (.inr (some (0, ii_)))], sm_pI (sm_pI (sm_pI Sx10_ 0 ii_ 0 a2_) 0 ii_ 1 vx6_) 0 ii_ 2 (sm_mx (3 * ((sm_pI (sm_pI Sx10_ 0 ii_ 0 a2_) 0 ii_ 1 vx6_).1 0 ii_ 1) + 2) (sm_mx (Sx10_.1 2 cc_ 1) (Sx10_.1 2 cc_ 3))))) rfl ?_
    refine sm_T_cal (d1 := 2) (Q1 := vq_22 ii_ cc_ (sm_pI (sm_pI (sm_pI Sx10_ 0 ii_ 0 a2_) 0 ii_ 1 vx6_) 0 ii_ 2 (sm_mx (3 * ((sm_pI (sm_pI Sx10_ 0 ii_ 0 a2_) 0 ii_ 1 vx6_).1 0 ii_ 1) + 2) (sm_mx (Sx10_.1 2 cc_ 1) (Sx10_.1 2 cc_ 3))))) rfl rfl (by decide) (vc_22 ii_ cc_ (sm_pI (sm_pI (sm_pI Sx10_ 0 ii_ 0 a2_) 0 ii_ 1 vx6_) 0 ii_ 2 (sm_mx (3 * ((sm_pI (sm_pI Sx10_ 0 ii_ 0 a2_) 0 ii_ 1 vx6_).1 0 ii_ 1) + 2) (sm_mx (Sx10_.1 2 cc_ 1) (Sx10_.1 2 cc_ 3)))) hIx29_ (by exact bpn_fr hb_ hFx30_ rfl rfl rfl rfl) (by (simp only [rf_nt, rf_nk, ne_eq, Nat.reduceEqDiff, not_false_eq_true]; omega))) (fun u_ Sx32_ px35_ => ?_)
    obtain ⟨rfl, hIx33_, hFx34_, px35_⟩ := px35_
    have hFx36_ : ai_fr (sx_W vw_20) S0_ Sx32_ := ai_fr_tr hFx30_ (fr_le hFx34_ rfl)
    obtain ⟨dx38_, px35_⟩ := px35_
    have hCx37_ : cdf ii_ S0_ Sx32_ := cdf_tr hCx31_ (cdf_cg (by omega) dx38_)
    have m62_ := px35_
    have x0_ := hFx34_.1 0 ii_ 0 rfl
    have x1_ := hFx34_.1 0 ii_ 1 rfl
    have x2_ := hFx34_.1 0 ii_ 2 rfl
    have y1_ := hFx34_.1 2 cc_ 1 rfl
    have y2_ := hFx34_.1 2 cc_ 2 rfl
    have y3_ := hFx34_.1 2 cc_ 3 rfl
    have y8_ := hFx34_.1 2 cc_ 8 rfl
    simp only [rf_eq, rf_nt, rf_nk, ne_eq, Nat.reduceEqDiff, not_false_eq_true] at x0_ x1_ x2_ y1_ y2_ y3_ y8_ bx28_
    have z14_ := hFx34_.2.2 14 rfl (0 + ii_)
    have z15_ := hFx34_.2.2 15 rfl (0 + ii_)
    have z16_ := hFx34_.2.2 16 rfl (0 + ii_)
    have bx39_ : 0 ≤ Sx32_.1 0 ii_ 1 ∧ Sx32_.1 0 ii_ 1 ≤ 12 := hIx33_.1 0 ii_ 1 rfl
    refine sm_T_go 2 (c1 := (69, [some (.inr (.inr (some (0, ii_)))), some (.inr (.inr (some (2, cc_)))), some (.inl a2_), some (.inl vx6_)], [.inl (Sx32_.1 0 ii_ 1)], Sx32_)) rfl ?_
    refine sm_T_ri rfl ⟨_, _, rfl, _, rfl, hIx33_, hFx36_, ?_⟩
    refine ⟨hCx37_, ?_⟩
    refine ⟨by omega, ?_, Or.inr m62_⟩
    intro _
    rw [x0_, x1_, x2_, y1_, y2_, y3_, y8_]
    refine ⟨by omega, fun e_ he_ => ?_⟩
    have j9_ := p20j e_ (by omega)
    have k14_ := (z14_ e_).1
    have k15_ := (z15_ e_).1
    have k16_ := (z16_ e_).1
    simp only [rd_fa] at k14_ k15_ k16_
    have k20_ := (s20_ e_).1
    rw [k14_, k15_, k16_, k20_]
    omega
  · have cx9_ : ¬ (vx6_ ≤ 12) := of_decide_eq_false cx9_
    refine sm_T_go 1 (c1 := (15, [some (.inr (.inr (some (0, ii_)))), some (.inr (.inr (some (2, cc_)))), some (.inl a2_), some (.inl vx6_)], [.inl (-1)], Sx1_)) rfl ?_
    refine sm_T_ri rfl ⟨_, _, rfl, _, rfl, hIx2_, hFx5_, ?_⟩
    refine ⟨hCx7_, ?_⟩
    exact ⟨by omega, by rw [p4z]; exact hp_, Or.inl p4z⟩
end
/-! 99.zkab -/
section
/-! Board.moveOne -/
def vw_25 : sx_Wl := ([(0, 11), (0, 16), (4, 0)], [14, 15, 21], [])
def vq_25 (a2_ : Int) (a3_ : Int) (a4_ : Int) (ii_ : Nat) (cc_ : Nat) (S0_ : sm_S) (u_ : Option sm_V) (S1_ : sm_S) : Prop := ∃ v_ : Int, u_ = some (.inl v_) ∧ gi S1_ ∧ ai_fr (sx_W vw_25) S0_ S1_ ∧ (cdf ii_ S0_ S1_ ∧ ((0 ≤ v_ ∧ v_ ≤ 1) ∧ bpl ii_ cc_ S1_ ∧ (S1_ = S0_ ∨ (S1_.1 0 ii_ 11 = 0 ∧ S1_.1 4 (0 + ii_) 0 = 0))))
set_option maxHeartbeats 400000 in
theorem vl_25 {sc_ : Nat × (Nat → Int)} (a2_ : Int) (a3_ : Int) (a4_ : Int) (ii_ : Nat) (cc_ : Nat) (S0_ : sm_S) (h2_ : 0 ≤ a2_ ∧ a2_ < (S0_.1 2 cc_ 2 + S0_.1 2 cc_ 8)) (hb_ : bpn ii_ S0_) (hs_ : S0_.1 2 cc_ 1 + S0_.1 2 cc_ 2 ≤ 12) (hp_ : bpl ii_ cc_ S0_) (hr_ : 0 < S0_.1 0 ii_ 1) : ∀ nn_ : Nat, (∀ (sz_ : Int) (k_ : Int) (S_ : sm_S), gi S_ → ai_fr (sx_W vw_25) S0_ S_ → ((0 ≤ k_ ∧ k_ ≤ 156 ∧ 0 ≤ sz_ ∧ sz_ ≤ 4 ∧ 0 ≤ a3_ ∧ a3_ ≤ S0_.1 0 ii_ 0 - sz_ ∧ 0 ≤ a4_ ∧ a4_ < S0_.1 0 ii_ 1) ∧ (sz_ = S0_.2.2.1 16 (0 + ii_) a2_.toNat) ∧ (S_ = S0_) ∧ (cdf ii_ S0_ S_) ∧ True) → ((1000 - k_).toNat) < nn_ → sm_T (mt_P sc_) 3 25 (42, [some (.inr (.inr (some (0, ii_)))), some (.inr (.inr (some (2, cc_)))), some (.inl a2_), some (.inl a3_), some (.inl a4_), some (.inl sz_), some (.inl k_), none], [], S_) (fun ro9_ => ∃ u_ S1_, ro9_ = (.inl u_, S1_, 0) ∧ vq_25 a2_ a3_ a4_ ii_ cc_ S0_ u_ S1_)) := by
  intro nn_
  induction nn_ with
  | zero => exact fun _ _ _ _ _ _ h_ => absurd h_ (Nat.not_lt_zero _)
  | succ nn_ ih_ =>
    rintro sz_ k_ S_ hI_ hF_ ⟨h0_, hz_, hS_, hC_, -⟩ hm_
    have c2_ : 0 ≤ S_.1 2 cc_ 2 ∧ S_.1 2 cc_ 2 ≤ 6 := hI_.1 2 cc_ 2 rfl
    have c8_ : 0 ≤ S_.1 2 cc_ 8 ∧ S_.1 2 cc_ 8 ≤ 150 := hI_.1 2 cc_ 8 rfl
    have c0_ : 0 ≤ S_.1 0 ii_ 0 ∧ S_.1 0 ii_ 0 ≤ 60 := hI_.1 0 ii_ 0 rfl
    have c1_ : 0 ≤ S_.1 0 ii_ 1 ∧ S_.1 0 ii_ 1 ≤ 12 := hI_.1 0 ii_ 1 rfl
    rw [hS_] at c2_ c8_ c0_ c1_
    refine sm_T_go 2 (c1 := (45, [some (.inr (.inr (some (0, ii_)))), some (.inr (.inr (some (2, cc_)))), some (.inl a2_), some (.inl a3_), some (.inl a4_), some (.inl sz_), some (.inl k_), none], [.inr (.inr (some (2, cc_))), .inl k_], S_)) rfl ?_
    refine sm_T_cal (d1 := 0) (Q1 := vq_56 cc_ S_) rfl rfl (by decide) (vc_56 cc_ S_ hI_ ) (fun u_ Sx1_ px4_ => ?_)
    obtain ⟨rfl, vx6_, rfl, px4_⟩ := px4_
    have n9_ := px4_
    rw [hS_] at n9_
    refine sm_T_br (a := 3) (z := 74) rfl (fun cx7_ => ?_) (fun cx7_ => ?_)
    · have cx7_ : vx6_ ≤ k_ := of_decide_eq_true cx7_
      refine sm_T_go 4 (c1 := (128, [some (.inr (.inr (some (0, ii_)))), some (.inr (.inr (some (2, cc_)))), some (.inl a2_), some (.inl a3_), some (.inl a4_), some (.inl sz_), some (.inl k_), none], [.inl a3_, .inl a2_, .inr (.inr (some (14, (0 + ii_))))], S_)) rfl ?_
      refine sm_T_iast (n := 156) rfl rfl (by omega) (by omega) ?_
      have hIx8_ : gi (sm_aI S_ 14 (0 + ii_) a2_.toNat a3_) := gi_aI hI_ (show 0 ≤ a3_ ∧ a3_ ≤ 60 from ⟨by omega, by omega⟩)
      have hFx9_ : ai_fr (sx_W vw_25) S0_ (sm_aI S_ 14 (0 + ii_) a2_.toNat a3_) := ai_fr_tr hF_ (ai_fr_aI rfl)
      have hCx10_ : cdf ii_ S0_ (sm_aI S_ 14 (0 + ii_) a2_.toNat a3_) := cdf_aI hC_ (Or.inr (by rw [show cof 14 = 0 from rfl] <;> omega))
      refine sm_T_go 4 (c1 := (136, [some (.inr (.inr (some (0, ii_)))), some (.inr (.inr (some (2, cc_)))), some (.inl a2_), some (.inl a3_), some (.inl a4_), some (.inl sz_), some (.inl k_), none], [.inl a4_, .inl a2_, .inr (.inr (some (15, (0 + ii_))))], sm_aI S_ 14 (0 + ii_) a2_.toNat a3_)) rfl ?_
      refine sm_T_iast (n := 156) rfl rfl (by omega) (by omega) ?_
      have hIx11_ : gi (sm_aI (sm_aI S_ 14 (0 + ii_) a2_.toNat a3_) 15 (0 + ii_) a2_.toNat a4_) := gi_aI hIx8_ (show 0 ≤ a4_ ∧ a4_ ≤ 12 from ⟨by omega, by omega⟩)
      have hFx12_ : ai_fr (sx_W vw_25) S0_ (sm_aI (sm_aI S_ 14 (0 + ii_) a2_.toNat a3_) 15 (0 + ii_) a2_.toNat a4_) := ai_fr_tr hFx9_ (ai_fr_aI rfl)
      have hCx13_ : cdf ii_ S0_ (sm_aI (sm_aI S_ 14 (0 + ii_) a2_.toNat a3_) 15 (0 + ii_) a2_.toNat a4_) := cdf_aI hCx10_ (Or.inr (by rw [show cof 15 = 0 from rfl] <;> omega))
      refine sm_T_go 2 (c1 := (139, [some (.inr (.inr (some (0, ii_)))), some (.inr (.inr (some (2, cc_)))), some (.inl a2_), some (.inl a3_), some (.inl a4_), some (.inl sz_), some (.inl k_), none], [.inr (.inr (some (2, cc_))), .inr (.inr (some (0, ii_)))], sm_aI (sm_aI S_ 14 (0 + ii_) a2_.toNat a3_) 15 (0 + ii_) a2_.toNat a4_)) rfl ?_
      refine sm_T_cal (d1 := 2) (Q1 := vq_22 ii_ cc_ (sm_aI (sm_aI S_ 14 (0 + ii_) a2_.toNat a3_) 15 (0 + ii_) a2_.toNat a4_)) rfl rfl (by decide) (vc_22 ii_ cc_ (sm_aI (sm_aI S_ 14 (0 + ii_) a2_.toNat a3_) 15 (0 + ii_) a2_.toNat a4_) hIx11_ (by exact bpn_fr hb_ hFx12_ rfl rfl rfl rfl) (by (simp only [rd_af]; rw [hS_]; exact hs_))) (fun u_ Sx14_ px17_ => ?_)
      obtain ⟨rfl, hIx15_, hFx16_, px17_⟩ := px17_
      have hFx18_ : ai_fr (sx_W vw_25) S0_ Sx14_ := ai_fr_tr hFx12_ (fr_le hFx16_ rfl)
      obtain ⟨dx20_, px17_⟩ := px17_
      have hCx19_ : cdf ii_ S0_ Sx14_ := cdf_tr hCx13_ (cdf_cg (by omega) dx20_)
      have m9_ := px17_
      have f0_ := hFx16_.1 0 ii_ 0 rfl
      have f1_ := hFx16_.1 0 ii_ 1 rfl
      have f2_ := hFx16_.1 0 ii_ 2 rfl
      have f3_ := hFx16_.1 2 cc_ 1 rfl
      have f4_ := hFx16_.1 2 cc_ 2 rfl
      have f5_ := hFx16_.1 2 cc_ 3 rfl
      have f6_ := hFx16_.1 2 cc_ 8 rfl
      simp only [rd_af] at f0_ f1_ f2_ f3_ f4_ f5_ f6_
      rw [hS_] at f0_ f1_ f2_ f3_ f4_ f5_ f6_
      have z14_ := hFx16_.2.2 14 rfl (0 + ii_)
      have z15_ := hFx16_.2.2 15 rfl (0 + ii_)
      have z16_ : Sx14_.2.2.1 16 (0 + ii_) = S0_.2.2.1 16 (0 + ii_) := by (rw [← hS_]; exact funext fun e_ => ((hFx16_.2.2 16 rfl (0 + ii_) e_).1.trans (by rw [rd_ne (by decide), rd_ne (by decide)])))
      refine sm_T_go 1 (c1 := (143, [some (.inr (.inr (some (0, ii_)))), some (.inr (.inr (some (2, cc_)))), some (.inl a2_), some (.inl a3_), some (.inl a4_), some (.inl sz_), some (.inl k_), none], [.inl 1], Sx14_)) rfl ?_
      refine sm_T_rz rfl (by omega) ⟨_, _, rfl, _, rfl, hIx15_, hFx18_, ?_⟩
      refine ⟨hCx19_, ?_⟩
      refine ⟨by omega, ?_, Or.inr m9_⟩
      intro _
      obtain ⟨q1_, q2_⟩ := hp_ hr_
      rw [f0_, f1_, f2_, f3_, f4_, f5_, f6_, z16_]
      refine ⟨q1_, fun e_ he_ => ?_⟩
      have k14_ := (z14_ e_).1
      have k15_ := (z15_ e_).1
      rw [rd_ne (by decide), rd_eq] at k14_
      rw [rd_eq, rd_ne (by decide)] at k15_
      rw [k14_, k15_]
      by_cases y_ : e_ = a2_.toNat
      · rw [if_pos y_, if_pos y_, y_]; omega
      · rw [if_neg y_, if_neg y_, hS_]; exact q2_ e_ he_
    · have cx7_ : ¬ (vx6_ ≤ k_) := of_decide_eq_false cx7_
      refine sm_T_go 2 (c1 := (54, [some (.inr (.inr (some (0, ii_)))), some (.inr (.inr (some (2, cc_)))), some (.inl a2_), some (.inl a3_), some (.inl a4_), some (.inl sz_), some (.inl k_), none], [.inl a2_, .inl k_], S_)) rfl ?_
      refine sm_T_br (a := 0) (z := 48) rfl (fun cx21_ => ?_) (fun cx21_ => ?_)
      · have cx21_ : k_ = a2_ := of_decide_eq_true cx21_
        refine sm_T_go 5 (c1 := (116, [some (.inr (.inr (some (0, ii_)))), some (.inr (.inr (some (2, cc_)))), some (.inl a2_), some (.inl a3_), some (.inl a4_), some (.inl sz_), some (.inl k_), some (.inl 1)], [], S_)) rfl ?_
        refine sm_T_inc (a := 6) (z := 1) (v := k_) (w := k_ + 1) rfl rfl (by omega) (by omega) (by omega) ?_ -- pc_ 116
        refine sm_T_go 1 (c1 := (42, [some (.inr (.inr (some (0, ii_)))), some (.inr (.inr (some (2, cc_)))), some (.inl a2_), some (.inl a3_), some (.inl a4_), some (.inl sz_), some (.inl (k_ + 1)), some (.inl 1)], [], S_)) rfl ?_
        refine sm_T_wk [some (.inr (.inr (some (0, ii_)))), some (.inr (.inr (some (2, cc_)))), some (.inl a2_), some (.inl a3_), some (.inl a4_), some (.inl sz_), some (.inl (k_ + 1)), none] (by exact ⟨rfl, rfl, rfl, rfl, rfl, rfl, rfl, trivial⟩) ?_
        refine ih_ sz_ (k_ + 1) S_ hI_ hF_ ⟨?_, ?_, ?_, ?_, trivial⟩ ?_
        · omega
        · exact hz_
        · exact hS_
        · exact hC_
        · omega
      · have cx21_ : ¬ (k_ = a2_) := of_decide_eq_false cx21_
        refine sm_T_go 3 (c1 := (63, [some (.inr (.inr (some (0, ii_)))), some (.inr (.inr (some (2, cc_)))), some (.inl a2_), some (.inl a3_), some (.inl a4_), some (.inl sz_), some (.inl k_), none], [.inl k_, .inr (.inr (some (15, (0 + ii_))))], S_)) rfl ?_
        refine sm_T_iald (n := 156) rfl rfl (by omega) (by omega) ?_
        have bx22_ : 0 ≤ S_.2.2.1 15 (0 + ii_) k_.toNat ∧ S_.2.2.1 15 (0 + ii_) k_.toNat ≤ 12 := hI_.2 15 (0 + ii_) _
        refine sm_T_go 1 (c1 := (66, [some (.inr (.inr (some (0, ii_)))), some (.inr (.inr (some (2, cc_)))), some (.inl a2_), some (.inl a3_), some (.inl a4_), some (.inl sz_), some (.inl k_), none], [.inl a4_, .inl (S_.2.2.1 15 (0 + ii_) k_.toNat)], S_)) rfl ?_
        refine sm_T_br (a := 1) (z := 36) rfl (fun cx23_ => ?_) (fun cx23_ => ?_)
        · have cx23_ : (S_.2.2.1 15 (0 + ii_) k_.toNat) ≠ a4_ := of_decide_eq_true cx23_
          refine sm_T_go 5 (c1 := (116, [some (.inr (.inr (some (0, ii_)))), some (.inr (.inr (some (2, cc_)))), some (.inl a2_), some (.inl a3_), some (.inl a4_), some (.inl sz_), some (.inl k_), some (.inl 1)], [], S_)) rfl ?_
          refine sm_T_inc (a := 6) (z := 1) (v := k_) (w := k_ + 1) rfl rfl (by omega) (by omega) (by omega) ?_ -- pc_ 116
          refine sm_T_go 1 (c1 := (42, [some (.inr (.inr (some (0, ii_)))), some (.inr (.inr (some (2, cc_)))), some (.inl a2_), some (.inl a3_), some (.inl a4_), some (.inl sz_), some (.inl (k_ + 1)), some (.inl 1)], [], S_)) rfl ?_
          refine sm_T_wk [some (.inr (.inr (some (0, ii_)))), some (.inr (.inr (some (2, cc_)))), some (.inl a2_), some (.inl a3_), some (.inl a4_), some (.inl sz_), some (.inl (k_ + 1)), none] (by exact ⟨rfl, rfl, rfl, rfl, rfl, rfl, rfl, trivial⟩) ?_
          refine ih_ sz_ (k_ + 1) S_ hI_ hF_ ⟨?_, ?_, ?_, ?_, trivial⟩ ?_
          · omega
          · exact hz_
          · exact hS_
          · exact hC_
          · omega
        · have cx23_ : ¬ ((S_.2.2.1 15 (0 + ii_) k_.toNat) ≠ a4_) := of_decide_eq_false cx23_
          refine sm_T_go 3 (c1 := (75, [some (.inr (.inr (some (0, ii_)))), some (.inr (.inr (some (2, cc_)))), some (.inl a2_), some (.inl a3_), some (.inl a4_), some (.inl sz_), some (.inl k_), none], [.inl k_, .inr (.inr (some (14, (0 + ii_))))], S_)) rfl ?_
          refine sm_T_iald (n := 156) rfl rfl (by omega) (by omega) ?_
          have bx24_ : 0 ≤ S_.2.2.1 14 (0 + ii_) k_.toNat ∧ S_.2.2.1 14 (0 + ii_) k_.toNat ≤ 60 := hI_.2 14 (0 + ii_) _
          refine sm_T_go 3 (c1 := (82, [some (.inr (.inr (some (0, ii_)))), some (.inr (.inr (some (2, cc_)))), some (.inl a2_), some (.inl a3_), some (.inl a4_), some (.inl sz_), some (.inl k_), none], [.inl k_, .inr (.inr (some (16, (0 + ii_)))), .inl (S_.2.2.1 14 (0 + ii_) k_.toNat)], S_)) rfl ?_
          refine sm_T_iald (n := 156) rfl rfl (by omega) (by omega) ?_
          have bx25_ : 0 ≤ S_.2.2.1 16 (0 + ii_) k_.toNat ∧ S_.2.2.1 16 (0 + ii_) k_.toNat ≤ 4 := hI_.2 16 (0 + ii_) _
          refine sm_T_bin (w := (S_.2.2.1 14 (0 + ii_) k_.toNat) + (S_.2.2.1 16 (0 + ii_) k_.toNat)) rfl (bi_add (by omega) (by omega) (by omega)) ?_ -- pc_ 83
          refine sm_T_go 1 (c1 := (85, [some (.inr (.inr (some (0, ii_)))), some (.inr (.inr (some (2, cc_)))), some (.inl a2_), some (.inl a3_), some (.inl a4_), some (.inl sz_), some (.inl k_), none], [.inl a3_, .inl ((S_.2.2.1 14 (0 + ii_) k_.toNat) + (S_.2.2.1 16 (0 + ii_) k_.toNat))], S_)) rfl ?_
          refine sm_T_br (a := 5) (z := 17) rfl (fun cx26_ => ?_) (fun cx26_ => ?_)
          · have cx26_ : (S_.2.2.1 14 (0 + ii_) k_.toNat) + (S_.2.2.1 16 (0 + ii_) k_.toNat) ≤ a3_ := of_decide_eq_true cx26_
            refine sm_T_go 5 (c1 := (116, [some (.inr (.inr (some (0, ii_)))), some (.inr (.inr (some (2, cc_)))), some (.inl a2_), some (.inl a3_), some (.inl a4_), some (.inl sz_), some (.inl k_), some (.inl 1)], [], S_)) rfl ?_
            refine sm_T_inc (a := 6) (z := 1) (v := k_) (w := k_ + 1) rfl rfl (by omega) (by omega) (by omega) ?_ -- pc_ 116
            refine sm_T_go 1 (c1 := (42, [some (.inr (.inr (some (0, ii_)))), some (.inr (.inr (some (2, cc_)))), some (.inl a2_), some (.inl a3_), some (.inl a4_), some (.inl sz_), some (.inl (k_ + 1)), some (.inl 1)], [], S_)) rfl ?_
            refine sm_T_wk [some (.inr (.inr (some (0, ii_)))), some (.inr (.inr (some (2, cc_)))), some (.inl a2_), some (.inl a3_), some (.inl a4_), some (.inl sz_), some (.inl (k_ + 1)), none] (by exact ⟨rfl, rfl, rfl, rfl, rfl, rfl, rfl, trivial⟩) ?_
            refine ih_ sz_ (k_ + 1) S_ hI_ hF_ ⟨?_, ?_, ?_, ?_, trivial⟩ ?_
            · omega
            · exact hz_
            · exact hS_
            · exact hC_
            · omega
          · have cx26_ : ¬ ((S_.2.2.1 14 (0 + ii_) k_.toNat) + (S_.2.2.1 16 (0 + ii_) k_.toNat) ≤ a3_) := of_decide_eq_false cx26_
            refine sm_T_go 2 (c1 := (91, [some (.inr (.inr (some (0, ii_)))), some (.inr (.inr (some (2, cc_)))), some (.inl a2_), some (.inl a3_), some (.inl a4_), some (.inl sz_), some (.inl k_), none], [.inl sz_, .inl a3_], S_)) rfl ?_
            refine sm_T_bin (w := a3_ + sz_) rfl (bi_add (by omega) (by omega) (by omega)) ?_ -- pc_ 91
            refine sm_T_go 3 (c1 := (98, [some (.inr (.inr (some (0, ii_)))), some (.inr (.inr (some (2, cc_)))), some (.inl a2_), some (.inl a3_), some (.inl a4_), some (.inl sz_), some (.inl k_), none], [.inl k_, .inr (.inr (some (14, (0 + ii_)))), .inl (a3_ + sz_)], S_)) rfl ?_
            refine sm_T_iald (n := 156) rfl rfl (by omega) (by omega) ?_
            refine sm_T_br (a := 4) (z := 7) rfl (fun cx27_ => ?_) (fun cx27_ => ?_)
            · have cx27_ : (S_.2.2.1 14 (0 + ii_) k_.toNat) < a3_ + sz_ := of_decide_eq_true cx27_
              refine sm_T_go 5 (c1 := (115, [some (.inr (.inr (some (0, ii_)))), some (.inr (.inr (some (2, cc_)))), some (.inl a2_), some (.inl a3_), some (.inl a4_), some (.inl sz_), some (.inl k_), some (.inl 0)], [.inl 0], S_)) rfl ?_
              refine sm_T_rz rfl (by omega) ⟨_, _, rfl, _, rfl, hI_, hF_, ?_⟩
              refine ⟨hC_, ?_⟩
              rw [hS_]
              exact ⟨by omega, hp_, Or.inl rfl⟩
            · have cx27_ : ¬ ((S_.2.2.1 14 (0 + ii_) k_.toNat) < a3_ + sz_) := of_decide_eq_false cx27_
              refine sm_T_go 5 (c1 := (116, [some (.inr (.inr (some (0, ii_)))), some (.inr (.inr (some (2, cc_)))), some (.inl a2_), some (.inl a3_), some (.inl a4_), some (.inl sz_), some (.inl k_), some (.inl 1)], [], S_)) rfl ?_
              refine sm_T_inc (a := 6) (z := 1) (v := k_) (w := k_ + 1) rfl rfl (by omega) (by omega) (by omega) ?_ -- pc_ 116
              refine sm_T_go 1 (c1 := (42, [some (.inr (.inr (some (0, ii_)))), some (.inr (.inr (some (2, cc_)))), some (.inl a2_), some (.inl a3_), some (.inl a4_), some (.inl sz_), some (.inl (k_ + 1)), some (.inl 1)], [], S_)) rfl ?_
              refine sm_T_wk [some (.inr (.inr (some (0, ii_)))), some (.inr (.inr (some (2, cc_)))), some (.inl a2_), some (.inl a3_), some (.inl a4_), some (.inl sz_), some (.inl (k_ + 1)), none] (by exact ⟨rfl, rfl, rfl, rfl, rfl, rfl, rfl, trivial⟩) ?_
              refine ih_ sz_ (k_ + 1) S_ hI_ hF_ ⟨?_, ?_, ?_, ?_, trivial⟩ ?_
              · omega
              · exact hz_
              · exact hS_
              · exact hC_
              · omega
set_option maxHeartbeats 400000 in
theorem vc_25 {sc_ : Nat × (Nat → Int)} (a2_ : Int) (a3_ : Int) (a4_ : Int) (ii_ : Nat) (cc_ : Nat) (S0_ : sm_S) (hI_ : gi S0_) (h2_ : 0 ≤ a2_ ∧ a2_ < (S0_.1 2 cc_ 2 + S0_.1 2 cc_ 8)) (hb_ : bpn ii_ S0_) (hs_ : S0_.1 2 cc_ 1 + S0_.1 2 cc_ 2 ≤ 12) (hp_ : bpl ii_ cc_ S0_) (hr_ : 0 < S0_.1 0 ii_ 1) : sm_T (mt_P sc_) 3 25 (0, [some (.inr (.inr (some (0, ii_)))), some (.inr (.inr (some (2, cc_)))), some (.inl a2_), some (.inl a3_), some (.inl a4_), none, none, none], [], S0_) (fun ro9_ => ∃ u_ S1_, ro9_ = (.inl u_, S1_, 0) ∧ vq_25 a2_ a3_ a4_ ii_ cc_ S0_ u_ S1_) := by
  have hF_ : ai_fr (sx_W vw_25) S0_ S0_ := ai_fr_rf
  have hC_ : cdf ii_ S0_ S0_ := cdf_rf
  have c2_ : 0 ≤ S0_.1 2 cc_ 2 ∧ S0_.1 2 cc_ 2 ≤ 6 := hI_.1 2 cc_ 2 rfl
  have c8_ : 0 ≤ S0_.1 2 cc_ 8 ∧ S0_.1 2 cc_ 8 ≤ 150 := hI_.1 2 cc_ 8 rfl
  refine sm_T_go 3 (c1 := (5, [some (.inr (.inr (some (0, ii_)))), some (.inr (.inr (some (2, cc_)))), some (.inl a2_), some (.inl a3_), some (.inl a4_), none, none, none], [.inl a2_, .inr (.inr (some (16, (0 + ii_))))], S0_)) rfl ?_
  refine sm_T_iald (n := 156) rfl rfl (by omega) (by omega) ?_
  have bx1_ : 0 ≤ S0_.2.2.1 16 (0 + ii_) a2_.toNat ∧ S0_.2.2.1 16 (0 + ii_) a2_.toNat ≤ 4 := hI_.2 16 (0 + ii_) _
  refine sm_T_go 2 (c1 := (10, [some (.inr (.inr (some (0, ii_)))), some (.inr (.inr (some (2, cc_)))), some (.inl a2_), some (.inl a3_), some (.inl a4_), some (.inl (S0_.2.2.1 16 (0 + ii_) a2_.toNat)), none, none], [.inl a4_], S0_)) rfl ?_
  refine sm_T_b0 (a := 2) (z := 27) rfl (fun cx2_ => ?_) (fun cx2_ => ?_)
  · have cx2_ : a4_ < 0 := of_decide_eq_true cx2_
    refine sm_T_go 1 (c1 := (38, [some (.inr (.inr (some (0, ii_)))), some (.inr (.inr (some (2, cc_)))), some (.inl a2_), some (.inl a3_), some (.inl a4_), some (.inl (S0_.2.2.1 16 (0 + ii_) a2_.toNat)), none, none], [.inl 0], S0_)) rfl ?_
    refine sm_T_rz rfl (by omega) ⟨_, _, rfl, _, rfl, hI_, hF_, ?_⟩
    refine ⟨hC_, ?_⟩
    exact ⟨by omega, hp_, Or.inl rfl⟩
  · have cx2_ : ¬ (a4_ < 0) := of_decide_eq_false cx2_
    have bx3_ : 0 ≤ S0_.1 0 ii_ 1 ∧ S0_.1 0 ii_ 1 ≤ 12 := hI_.1 0 ii_ 1 rfl
    refine sm_T_go 3 (c1 := (19, [some (.inr (.inr (some (0, ii_)))), some (.inr (.inr (some (2, cc_)))), some (.inl a2_), some (.inl a3_), some (.inl a4_), some (.inl (S0_.2.2.1 16 (0 + ii_) a2_.toNat)), none, none], [.inl (S0_.1 0 ii_ 1), .inl a4_], S0_)) rfl ?_
    refine sm_T_br (a := 3) (z := 18) rfl (fun cx4_ => ?_) (fun cx4_ => ?_)
    · have cx4_ : (S0_.1 0 ii_ 1) ≤ a4_ := of_decide_eq_true cx4_
      refine sm_T_go 1 (c1 := (38, [some (.inr (.inr (some (0, ii_)))), some (.inr (.inr (some (2, cc_)))), some (.inl a2_), some (.inl a3_), some (.inl a4_), some (.inl (S0_.2.2.1 16 (0 + ii_) a2_.toNat)), none, none], [.inl 0], S0_)) rfl ?_
      refine sm_T_rz rfl (by omega) ⟨_, _, rfl, _, rfl, hI_, hF_, ?_⟩
      refine ⟨hC_, ?_⟩
      exact ⟨by omega, hp_, Or.inl rfl⟩
    · have cx4_ : ¬ ((S0_.1 0 ii_ 1) ≤ a4_) := of_decide_eq_false cx4_
      refine sm_T_go 1 (c1 := (23, [some (.inr (.inr (some (0, ii_)))), some (.inr (.inr (some (2, cc_)))), some (.inl a2_), some (.inl a3_), some (.inl a4_), some (.inl (S0_.2.2.1 16 (0 + ii_) a2_.toNat)), none, none], [.inl a3_], S0_)) rfl ?_
      refine sm_T_b0 (a := 2) (z := 14) rfl (fun cx5_ => ?_) (fun cx5_ => ?_)
      · have cx5_ : a3_ < 0 := of_decide_eq_true cx5_
        refine sm_T_go 1 (c1 := (38, [some (.inr (.inr (some (0, ii_)))), some (.inr (.inr (some (2, cc_)))), some (.inl a2_), some (.inl a3_), some (.inl a4_), some (.inl (S0_.2.2.1 16 (0 + ii_) a2_.toNat)), none, none], [.inl 0], S0_)) rfl ?_
        refine sm_T_rz rfl (by omega) ⟨_, _, rfl, _, rfl, hI_, hF_, ?_⟩
        refine ⟨hC_, ?_⟩
        exact ⟨by omega, hp_, Or.inl rfl⟩
      · have cx5_ : ¬ (a3_ < 0) := of_decide_eq_false cx5_
        have bx6_ : 0 ≤ S0_.1 0 ii_ 0 ∧ S0_.1 0 ii_ 0 ≤ 60 := hI_.1 0 ii_ 0 rfl
        refine sm_T_go 4 (c1 := (33, [some (.inr (.inr (some (0, ii_)))), some (.inr (.inr (some (2, cc_)))), some (.inl a2_), some (.inl a3_), some (.inl a4_), some (.inl (S0_.2.2.1 16 (0 + ii_) a2_.toNat)), none, none], [.inl (S0_.2.2.1 16 (0 + ii_) a2_.toNat), .inl (S0_.1 0 ii_ 0), .inl a3_], S0_)) rfl ?_
        refine sm_T_bin (w := (S0_.1 0 ii_ 0) - (S0_.2.2.1 16 (0 + ii_) a2_.toNat)) rfl (bi_sub (by omega) (by omega) (by omega)) ?_ -- pc_ 33
        refine sm_T_br (a := 5) (z := 5) rfl (fun cx7_ => ?_) (fun cx7_ => ?_)
        · have cx7_ : a3_ ≤ (S0_.1 0 ii_ 0) - (S0_.2.2.1 16 (0 + ii_) a2_.toNat) := of_decide_eq_true cx7_
          refine sm_T_go 2 (c1 := (42, [some (.inr (.inr (some (0, ii_)))), some (.inr (.inr (some (2, cc_)))), some (.inl a2_), some (.inl a3_), some (.inl a4_), some (.inl (S0_.2.2.1 16 (0 + ii_) a2_.toNat)), some (.inl 0), none], [], S0_)) rfl ?_
          refine (vl_25 a2_ a3_ a4_ ii_ cc_ S0_ h2_ hb_ hs_ hp_ hr_ _) (S0_.2.2.1 16 (0 + ii_) a2_.toNat) 0 S0_ hI_ hF_ ⟨?_, ?_, ?_, ?_, trivial⟩ (Nat.lt_succ_self _)
          · omega
          · rfl
          · rfl
          · exact hC_
        · have cx7_ : ¬ (a3_ ≤ (S0_.1 0 ii_ 0) - (S0_.2.2.1 16 (0 + ii_) a2_.toNat)) := of_decide_eq_false cx7_
          refine sm_T_go 1 (c1 := (38, [some (.inr (.inr (some (0, ii_)))), some (.inr (.inr (some (2, cc_)))), some (.inl a2_), some (.inl a3_), some (.inl a4_), some (.inl (S0_.2.2.1 16 (0 + ii_) a2_.toNat)), none, none], [.inl 0], S0_)) rfl ?_
          refine sm_T_rz rfl (by omega) ⟨_, _, rfl, _, rfl, hI_, hF_, ?_⟩
          refine ⟨hC_, ?_⟩
          exact ⟨by omega, hp_, Or.inl rfl⟩
end
/-! 99.zkac -/
section
/-! Board.touchNets -/
def vw_28 : sx_Wl := ([(0, 18)], [25], [])
def vq_28 (a1_ : Int) (ii_ : Nat) (S0_ : sm_S) (u_ : Option sm_V) (S1_ : sm_S) : Prop := u_ = none ∧ gi S1_ ∧ ai_fr (sx_W vw_28) S0_ S1_ ∧ (cdf ii_ S0_ S1_ ∧ (S1_.1 0 ii_ 18 ≤ S0_.1 0 ii_ 18 + 4 ∧ ∀ j_ : Nat, (j_ : Int) < S1_.1 0 ii_ 18 → 0 ≤ S1_.2.2.1 25 (0 + ii_) j_))
set_option maxHeartbeats 400000 in
theorem vl_28 {sc_ : Nat × (Nat → Int)} (a1_ : Int) (ii_ : Nat) (S0_ : sm_S) (h1_ : 0 ≤ a1_ ∧ a1_ ≤ 155) (ht_ : S0_.1 0 ii_ 18 ≤ 4) (hn_ : ∀ j_ : Nat, (j_ : Int) < S0_.1 0 ii_ 18 → 0 ≤ S0_.2.2.1 25 (0 + ii_) j_) : ∀ nn_ : Nat, (∀ (k_ : Int) (S_ : sm_S), gi S_ → ai_fr (sx_W vw_28) S0_ S_ → ((0 ≤ k_ ∧ k_ ≤ 4 ∧ S_.1 0 ii_ 18 ≤ S0_.1 0 ii_ 18 + k_) ∧ (∀ j_ : Nat, (j_ : Int) < S_.1 0 ii_ 18 → 0 ≤ S_.2.2.1 25 (0 + ii_) j_) ∧ (cdf ii_ S0_ S_) ∧ True) → ((100 * (10 - k_) + 50).toNat) < nn_ → sm_T (mt_P sc_) 0 28 (2, [some (.inr (.inr (some (0, ii_)))), some (.inl a1_), some (.inl k_), none, none, none], [], S_) (fun ro9_ => ∃ u_ S1_, ro9_ = (.inl u_, S1_, 0) ∧ vq_28 a1_ ii_ S0_ u_ S1_)) ∧ (∀ (k_ : Int) (nt_ : Int) (fs_ : Int) (i_ : Int) (S_ : sm_S), gi S_ → ai_fr (sx_W vw_28) S0_ S_ → ((0 ≤ k_ ∧ k_ < 4 ∧ S_.1 0 ii_ 18 ≤ S0_.1 0 ii_ 18 + k_ ∧ 0 ≤ i_ ∧ i_ ≤ 8 ∧ -1 ≤ nt_ ∧ nt_ ≤ 161 ∧ 0 ≤ fs_ ∧ fs_ ≤ 1) ∧ (fs_ ≠ 0 → 0 ≤ nt_) ∧ (∀ j_ : Nat, (j_ : Int) < S_.1 0 ii_ 18 → 0 ≤ S_.2.2.1 25 (0 + ii_) j_) ∧ (cdf ii_ S0_ S_) ∧ True) → ((100 * (10 - k_) + 40 - i_).toNat) < nn_ → sm_T (mt_P sc_) 0 28 (38, [some (.inr (.inr (some (0, ii_)))), some (.inl a1_), some (.inl k_), some (.inl nt_), some (.inl fs_), some (.inl i_)], [], S_) (fun ro9_ => ∃ u_ S1_, ro9_ = (.inl u_, S1_, 0) ∧ vq_28 a1_ ii_ S0_ u_ S1_)) := by
  intro nn_
  induction nn_ with
  | zero => exact ⟨fun _ _ _ _ _ h_ => absurd h_ (Nat.not_lt_zero _), fun _ _ _ _ _ _ _ _ h_ => absurd h_ (Nat.not_lt_zero _)⟩
  | succ nn_ ih_ =>
    refine ⟨?_, ?_⟩
    · rintro k_ S_ hI_ hF_ ⟨h0_, hj_, hC_, -⟩ hm_
      refine sm_T_go 4 (c1 := (8, [some (.inr (.inr (some (0, ii_)))), some (.inl a1_), some (.inl k_), none, none, none], [.inl a1_, .inr (.inr (some (16, (0 + ii_)))), .inl k_], S_)) rfl ?_
      refine sm_T_iald (n := 156) rfl rfl (by omega) (by omega) ?_
      have bx1_ : 0 ≤ S_.2.2.1 16 (0 + ii_) a1_.toNat ∧ S_.2.2.1 16 (0 + ii_) a1_.toNat ≤ 4 := hI_.2 16 (0 + ii_) _
      refine sm_T_br (a := 3) (z := 98) rfl (fun cx2_ => ?_) (fun cx2_ => ?_)
      · have cx2_ : (S_.2.2.1 16 (0 + ii_) a1_.toNat) ≤ k_ := of_decide_eq_true cx2_
        refine sm_T_rv rfl ⟨_, _, rfl, rfl, hI_, hF_, ?_⟩
        refine ⟨hC_, ?_⟩
        exact ⟨by omega, hj_⟩
      · have cx2_ : ¬ ((S_.2.2.1 16 (0 + ii_) a1_.toNat) ≤ k_) := of_decide_eq_false cx2_
        refine sm_T_go 4 (c1 := (18, [some (.inr (.inr (some (0, ii_)))), some (.inl a1_), some (.inl k_), none, none, none], [.inl a1_, .inl 4, .inr (.inr (some (17, (0 + ii_))))], S_)) rfl ?_
        refine sm_T_bin (w := 4 * a1_) rfl (bi_mul (by omega) (by omega) (by omega)) ?_ -- pc_ 18
        refine sm_T_go 1 (c1 := (20, [some (.inr (.inr (some (0, ii_)))), some (.inl a1_), some (.inl k_), none, none, none], [.inl k_, .inl (4 * a1_), .inr (.inr (some (17, (0 + ii_))))], S_)) rfl ?_
        refine sm_T_bin (w := 4 * a1_ + k_) rfl (bi_add (by omega) (by omega) (by omega)) ?_ -- pc_ 20
        refine sm_T_iald (n := 652) rfl rfl (by omega) (by omega) ?_
        have bx3_ : (-1) ≤ S_.2.2.1 17 (0 + ii_) (4 * a1_ + k_).toNat ∧ S_.2.2.1 17 (0 + ii_) (4 * a1_ + k_).toNat ≤ 161 := hI_.2 17 (0 + ii_) _
        refine sm_T_go 3 (c1 := (25, [some (.inr (.inr (some (0, ii_)))), some (.inl a1_), some (.inl k_), some (.inl (S_.2.2.1 17 (0 + ii_) (4 * a1_ + k_).toNat)), none, none], [.inl (-1), .inl (S_.2.2.1 17 (0 + ii_) (4 * a1_ + k_).toNat)], S_)) rfl ?_
        refine sm_T_br (a := 0) (z := 7) rfl (fun cx4_ => ?_) (fun cx4_ => ?_)
        · have cx4_ : (S_.2.2.1 17 (0 + ii_) (4 * a1_ + k_).toNat) = (-1) := of_decide_eq_true cx4_
          refine sm_T_go 4 (c1 := (38, [some (.inr (.inr (some (0, ii_)))), some (.inl a1_), some (.inl k_), some (.inl (S_.2.2.1 17 (0 + ii_) (4 * a1_ + k_).toNat)), some (.inl 0), some (.inl 0)], [], S_)) rfl ?_
          refine ih_.2 k_ (S_.2.2.1 17 (0 + ii_) (4 * a1_ + k_).toNat) 0 0 S_ hI_ hF_ ⟨?_, ?_, ?_, ?_, trivial⟩ ?_
          · omega
          · (intro u_; omega)
          · exact hj_
          · exact hC_
          · omega
        · have cx4_ : ¬ ((S_.2.2.1 17 (0 + ii_) (4 * a1_ + k_).toNat) = (-1)) := of_decide_eq_false cx4_
          refine sm_T_go 5 (c1 := (38, [some (.inr (.inr (some (0, ii_)))), some (.inl a1_), some (.inl k_), some (.inl (S_.2.2.1 17 (0 + ii_) (4 * a1_ + k_).toNat)), some (.inl 1), some (.inl 0)], [], S_)) rfl ?_
          refine ih_.2 k_ (S_.2.2.1 17 (0 + ii_) (4 * a1_ + k_).toNat) 1 0 S_ hI_ hF_ ⟨?_, ?_, ?_, ?_, trivial⟩ ?_
          · omega
          · (intro u_; omega)
          · exact hj_
          · exact hC_
          · omega
    · rintro k_ nt_ fs_ i_ S_ hI_ hF_ ⟨h0_, hf_, hj_, hC_, -⟩ hm_
      have bx1_ : 0 ≤ S_.1 0 ii_ 18 ∧ S_.1 0 ii_ 18 ≤ 8 := hI_.1 0 ii_ 18 rfl
      refine sm_T_go 3 (c1 := (44, [some (.inr (.inr (some (0, ii_)))), some (.inl a1_), some (.inl k_), some (.inl nt_), some (.inl fs_), some (.inl i_)], [.inl (S_.1 0 ii_ 18), .inl i_], S_)) rfl ?_
      refine sm_T_br (a := 3) (z := 32) rfl (fun cx2_ => ?_) (fun cx2_ => ?_)
      · have cx2_ : (S_.1 0 ii_ 18) ≤ i_ := of_decide_eq_true cx2_
        refine sm_T_go 1 (c1 := (78, [some (.inr (.inr (some (0, ii_)))), some (.inl a1_), some (.inl k_), some (.inl nt_), some (.inl fs_), some (.inl i_)], [.inl fs_], S_)) rfl ?_
        refine sm_T_b0 (a := 0) (z := 23) rfl (fun cx3_ => ?_) (fun cx3_ => ?_)
        · have cx3_ : fs_ = 0 := of_decide_eq_true cx3_
          refine sm_T_inc (a := 2) (z := 1) (v := k_) (w := k_ + 1) rfl rfl (by omega) (by omega) (by omega) ?_ -- pc_ 101
          refine sm_T_go 1 (c1 := (2, [some (.inr (.inr (some (0, ii_)))), some (.inl a1_), some (.inl (k_ + 1)), some (.inl nt_), some (.inl fs_), some (.inl i_)], [], S_)) rfl ?_
          refine sm_T_wk [some (.inr (.inr (some (0, ii_)))), some (.inl a1_), some (.inl (k_ + 1)), none, none, none] (by exact ⟨rfl, rfl, rfl, trivial⟩) ?_
          refine ih_.1 (k_ + 1) S_ hI_ hF_ ⟨?_, ?_, ?_, trivial⟩ ?_
          · omega
          · exact hj_
          · exact hC_
          · omega
        · have cx3_ : ¬ (fs_ = 0) := of_decide_eq_false cx3_
          have f9_ := hf_ (by omega)
          refine sm_T_go 5 (c1 := (90, [some (.inr (.inr (some (0, ii_)))), some (.inl a1_), some (.inl k_), some (.inl nt_), some (.inl fs_), some (.inl i_)], [.inl nt_, .inl (S_.1 0 ii_ 18), .inr (.inr (some (25, (0 + ii_))))], S_)) rfl ?_
          refine sm_T_iast (n := 8) rfl rfl (by omega) (by omega) ?_
          have hIx4_ : gi (sm_aI S_ 25 (0 + ii_) (S_.1 0 ii_ 18).toNat nt_) := gi_aI hI_ (show (-1) ≤ nt_ ∧ nt_ ≤ 161 from ⟨by omega, by omega⟩)
          have hFx5_ : ai_fr (sx_W vw_28) S0_ (sm_aI S_ 25 (0 + ii_) (S_.1 0 ii_ 18).toNat nt_) := ai_fr_tr hF_ (ai_fr_aI rfl)
          have hCx6_ : cdf ii_ S0_ (sm_aI S_ 25 (0 + ii_) (S_.1 0 ii_ 18).toNat nt_) := cdf_aI hC_ (Or.inr (by rw [show cof 25 = 0 from rfl] <;> omega))
          refine sm_T_go 4 (c1 := (97, [some (.inr (.inr (some (0, ii_)))), some (.inl a1_), some (.inl k_), some (.inl nt_), some (.inl fs_), some (.inl i_)], [.inl 1, .inl (S_.1 0 ii_ 18), .inr (.inr (some (0, ii_)))], sm_aI S_ 25 (0 + ii_) (S_.1 0 ii_ 18).toNat nt_)) rfl ?_
          refine sm_T_bin (w := (S_.1 0 ii_ 18) + 1) rfl (bi_add (by omega) (by omega) (by omega)) ?_ -- pc_ 97
          have hIx7_ : gi (sm_pI (sm_aI S_ 25 (0 + ii_) (S_.1 0 ii_ 18).toNat nt_) 0 ii_ 18 ((S_.1 0 ii_ 18) + 1)) := gi_pI hIx4_ (show 0 ≤ (S_.1 0 ii_ 18) + 1 ∧ (S_.1 0 ii_ 18) + 1 ≤ 8 from ⟨by omega, by omega⟩)
          have hFx8_ : ai_fr (sx_W vw_28) S0_ (sm_pI (sm_aI S_ 25 (0 + ii_) (S_.1 0 ii_ 18).toNat nt_) 0 ii_ 18 ((S_.1 0 ii_ 18) + 1)) := ai_fr_tr hFx5_ (ai_fr_pI rfl)
          have hCx9_ : cdf ii_ S0_ (sm_pI (sm_aI S_ 25 (0 + ii_) (S_.1 0 ii_ 18).toNat nt_) 0 ii_ 18 ((S_.1 0 ii_ 18) + 1)) := cdf_pI hCx6_ (Or.inr (by rw [show cof 0 = 0 from rfl] <;> omega))
          refine sm_T_go 1 (c1 := (101, [some (.inr (.inr (some (0, ii_)))), some (.inl a1_), some (.inl k_), some (.inl nt_), some (.inl fs_), some (.inl i_)], [], sm_pI (sm_aI S_ 25 (0 + ii_) (S_.1 0 ii_ 18).toNat nt_) 0 ii_ 18 ((S_.1 0 ii_ 18) + 1))) rfl ?_
          refine sm_T_inc (a := 2) (z := 1) (v := k_) (w := k_ + 1) rfl rfl (by omega) (by omega) (by omega) ?_ -- pc_ 101
          refine sm_T_go 1 (c1 := (2, [some (.inr (.inr (some (0, ii_)))), some (.inl a1_), some (.inl (k_ + 1)), some (.inl nt_), some (.inl fs_), some (.inl i_)], [], sm_pI (sm_aI S_ 25 (0 + ii_) (S_.1 0 ii_ 18).toNat nt_) 0 ii_ 18 ((S_.1 0 ii_ 18) + 1))) rfl ?_
          refine sm_T_wk [some (.inr (.inr (some (0, ii_)))), some (.inl a1_), some (.inl (k_ + 1)), none, none, none] (by exact ⟨rfl, rfl, rfl, trivial⟩) ?_
          refine ih_.1 (k_ + 1) (sm_pI (sm_aI S_ 25 (0 + ii_) (S_.1 0 ii_ 18).toNat nt_) 0 ii_ 18 ((S_.1 0 ii_ 18) + 1)) hIx7_ hFx8_ ⟨?_, ?_, ?_, trivial⟩ ?_
          · (simp only [rf_eq]; omega)
          · intro j_ hj9_
            simp only [rf_eq, rd_fa, rd_af, rd_eq] at hj9_ ⊢
            by_cases z_ : j_ = (S_.1 0 ii_ 18).toNat
            · rw [if_pos z_]; exact f9_
            · rw [if_neg z_]; exact hj_ j_ (by omega)
          · exact hCx9_
          · omega
      · have cx2_ : ¬ ((S_.1 0 ii_ 18) ≤ i_) := of_decide_eq_false cx2_
        refine sm_T_go 1 (c1 := (49, [some (.inr (.inr (some (0, ii_)))), some (.inl a1_), some (.inl k_), some (.inl nt_), some (.inl fs_), some (.inl i_)], [.inl fs_], S_)) rfl ?_
        refine sm_T_b0 (a := 0) (z := 18) rfl (fun cx10_ => ?_) (fun cx10_ => ?_)
        · have cx10_ : fs_ = 0 := of_decide_eq_true cx10_
          refine sm_T_go 2 (c1 := (70, [some (.inr (.inr (some (0, ii_)))), some (.inl a1_), some (.inl k_), some (.inl nt_), some (.inl 0), some (.inl i_)], [], S_)) rfl ?_
          refine sm_T_inc (a := 5) (z := 1) (v := i_) (w := i_ + 1) rfl rfl (by omega) (by omega) (by omega) ?_ -- pc_ 70
          refine sm_T_go 1 (c1 := (38, [some (.inr (.inr (some (0, ii_)))), some (.inl a1_), some (.inl k_), some (.inl nt_), some (.inl 0), some (.inl (i_ + 1))], [], S_)) rfl ?_
          refine ih_.2 k_ nt_ 0 (i_ + 1) S_ hI_ hF_ ⟨?_, ?_, ?_, ?_, trivial⟩ ?_
          · omega
          · (intro u_; first | exact hf_ (by omega) | omega)
          · exact hj_
          · exact hC_
          · omega
        · have cx10_ : ¬ (fs_ = 0) := of_decide_eq_false cx10_
          refine sm_T_go 3 (c1 := (58, [some (.inr (.inr (some (0, ii_)))), some (.inl a1_), some (.inl k_), some (.inl nt_), some (.inl fs_), some (.inl i_)], [.inl i_, .inr (.inr (some (25, (0 + ii_))))], S_)) rfl ?_
          refine sm_T_iald (n := 8) rfl rfl (by omega) (by omega) ?_
          have bx11_ : (-1) ≤ S_.2.2.1 25 (0 + ii_) i_.toNat ∧ S_.2.2.1 25 (0 + ii_) i_.toNat ≤ 161 := hI_.2 25 (0 + ii_) _
          refine sm_T_go 1 (c1 := (60, [some (.inr (.inr (some (0, ii_)))), some (.inl a1_), some (.inl k_), some (.inl nt_), some (.inl fs_), some (.inl i_)], [.inl nt_, .inl (S_.2.2.1 25 (0 + ii_) i_.toNat)], S_)) rfl ?_
          refine sm_T_br (a := 0) (z := 7) rfl (fun cx12_ => ?_) (fun cx12_ => ?_)
          · have cx12_ : (S_.2.2.1 25 (0 + ii_) i_.toNat) = nt_ := of_decide_eq_true cx12_
            refine sm_T_go 2 (c1 := (70, [some (.inr (.inr (some (0, ii_)))), some (.inl a1_), some (.inl k_), some (.inl nt_), some (.inl 0), some (.inl i_)], [], S_)) rfl ?_
            refine sm_T_inc (a := 5) (z := 1) (v := i_) (w := i_ + 1) rfl rfl (by omega) (by omega) (by omega) ?_ -- pc_ 70
            refine sm_T_go 1 (c1 := (38, [some (.inr (.inr (some (0, ii_)))), some (.inl a1_), some (.inl k_), some (.inl nt_), some (.inl 0), some (.inl (i_ + 1))], [], S_)) rfl ?_
            refine ih_.2 k_ nt_ 0 (i_ + 1) S_ hI_ hF_ ⟨?_, ?_, ?_, ?_, trivial⟩ ?_
            · omega
            · (intro u_; first | exact hf_ (by omega) | omega)
            · exact hj_
            · exact hC_
            · omega
          · have cx12_ : ¬ ((S_.2.2.1 25 (0 + ii_) i_.toNat) = nt_) := of_decide_eq_false cx12_
            refine sm_T_go 3 (c1 := (70, [some (.inr (.inr (some (0, ii_)))), some (.inl a1_), some (.inl k_), some (.inl nt_), some (.inl 1), some (.inl i_)], [], S_)) rfl ?_
            refine sm_T_inc (a := 5) (z := 1) (v := i_) (w := i_ + 1) rfl rfl (by omega) (by omega) (by omega) ?_ -- pc_ 70
            refine sm_T_go 1 (c1 := (38, [some (.inr (.inr (some (0, ii_)))), some (.inl a1_), some (.inl k_), some (.inl nt_), some (.inl 1), some (.inl (i_ + 1))], [], S_)) rfl ?_
            refine ih_.2 k_ nt_ 1 (i_ + 1) S_ hI_ hF_ ⟨?_, ?_, ?_, ?_, trivial⟩ ?_
            · omega
            · (intro u_; first | exact hf_ (by omega) | omega)
            · exact hj_
            · exact hC_
            · omega
set_option maxHeartbeats 400000 in
theorem vc_28 {sc_ : Nat × (Nat → Int)} (a1_ : Int) (ii_ : Nat) (S0_ : sm_S) (hI_ : gi S0_) (h1_ : 0 ≤ a1_ ∧ a1_ ≤ 155) (ht_ : S0_.1 0 ii_ 18 ≤ 4) (hn_ : ∀ j_ : Nat, (j_ : Int) < S0_.1 0 ii_ 18 → 0 ≤ S0_.2.2.1 25 (0 + ii_) j_) : sm_T (mt_P sc_) 0 28 (0, [some (.inr (.inr (some (0, ii_)))), some (.inl a1_), none, none, none, none], [], S0_) (fun ro9_ => ∃ u_ S1_, ro9_ = (.inl u_, S1_, 0) ∧ vq_28 a1_ ii_ S0_ u_ S1_) := by
  have hF_ : ai_fr (sx_W vw_28) S0_ S0_ := ai_fr_rf
  have hC_ : cdf ii_ S0_ S0_ := cdf_rf
  refine sm_T_go 2 (c1 := (2, [some (.inr (.inr (some (0, ii_)))), some (.inl a1_), some (.inl 0), none, none, none], [], S0_)) rfl ?_
  refine (vl_28 a1_ ii_ S0_ h1_ ht_ hn_ _).1 0 S0_ hI_ hF_ ⟨?_, ?_, ?_, trivial⟩ (Nat.lt_succ_self _)
  · omega
  · exact hn_
  · exact hC_
end
/-! 99.zkad -/
section
/-! Board.exchangeIfLess -/
def vw_27 : sx_Wl := ([(0, 18)], [14, 15, 21, 25], [])
def vq_27 (a1_ : Int) (a2_ : Int) (ii_ : Nat) (cc_ : Nat) (S0_ : sm_S) (u_ : Option sm_V) (S1_ : sm_S) : Prop := ∃ v_ : Int, u_ = some (.inl v_) ∧ gi S1_ ∧ ai_fr (sx_W vw_27) S0_ S1_ ∧ (cdf ii_ S0_ S1_ ∧ ((0 ≤ v_ ∧ v_ ≤ 1) ∧ bpl ii_ cc_ S1_))
set_option maxHeartbeats 400000 in
theorem vl_27 {sc_ : Nat × (Nat → Int)} (a1_ : Int) (a2_ : Int) (ii_ : Nat) (cc_ : Nat) (S0_ : sm_S) (h1_ : 0 ≤ a1_ ∧ a1_ ≤ 155 ∧ a1_ < (S0_.1 2 cc_ 2 + S0_.1 2 cc_ 8)) (h2_ : 0 ≤ a2_ ∧ a2_ ≤ 155 ∧ a2_ < (S0_.1 2 cc_ 2 + S0_.1 2 cc_ 8)) (hz_ : S0_.2.2.1 16 (0 + ii_) a1_.toNat = S0_.2.2.1 16 (0 + ii_) a2_.toNat) (hb_ : bpn ii_ S0_) (hp_ : bpl ii_ cc_ S0_) : ∀ nn_ : Nat, (∀ (bf_ : Int) (k_ : Int) (S_ : sm_S), gi S_ → ai_fr (sx_W vw_27) S0_ S_ → ((0 ≤ k_ ∧ k_ ≤ 8 ∧ -9999 * k_ ≤ bf_ ∧ bf_ ≤ 20000 * k_) ∧ (S_.1 0 ii_ 18 ≤ 8 ∧ ∀ j_ : Nat, (j_ : Int) < S_.1 0 ii_ 18 → 0 ≤ S_.2.2.1 25 (0 + ii_) j_) ∧ (S_.2.2.1 14 (0 + ii_) = S0_.2.2.1 14 (0 + ii_) ∧ S_.2.2.1 15 (0 + ii_) = S0_.2.2.1 15 (0 + ii_)) ∧ (cdf ii_ S0_ S_) ∧ True) → ((3000 - k_).toNat) < nn_ → sm_T (mt_P sc_) 2 27 (20, [some (.inr (.inr (some (0, ii_)))), some (.inl a1_), some (.inl a2_), some (.inl bf_), some (.inl k_), none], [], S_) (fun ro9_ => ∃ u_ S1_, ro9_ = (.inl u_, S1_, 0) ∧ vq_27 a1_ a2_ ii_ cc_ S0_ u_ S1_)) ∧ (∀ (bf_ : Int) (af_ : Int) (k_ : Int) (S_ : sm_S), gi S_ → ai_fr (sx_W vw_27) S0_ S_ → ((0 ≤ k_ ∧ k_ ≤ 8 ∧ -9999 * k_ ≤ af_ ∧ af_ ≤ 20000 * k_) ∧ (S_.1 0 ii_ 18 ≤ 8 ∧ ∀ j_ : Nat, (j_ : Int) < S_.1 0 ii_ 18 → 0 ≤ S_.2.2.1 25 (0 + ii_) j_) ∧ (xch ii_ a1_.toNat a2_.toNat S0_ S_) ∧ (cdf ii_ S0_ S_) ∧ True) → ((2000 - k_).toNat) < nn_ → sm_T (mt_P sc_) 2 27 (62, [some (.inr (.inr (some (0, ii_)))), some (.inl a1_), some (.inl a2_), some (.inl bf_), some (.inl af_), some (.inl k_)], [], S_) (fun ro9_ => ∃ u_ S1_, ro9_ = (.inl u_, S1_, 0) ∧ vq_27 a1_ a2_ ii_ cc_ S0_ u_ S1_)) ∧ (∀ (bf_ : Int) (af_ : Int) (k_ : Int) (S_ : sm_S), gi S_ → ai_fr (sx_W vw_27) S0_ S_ → ((0 ≤ k_ ∧ k_ ≤ 8) ∧ (S_.1 0 ii_ 18 ≤ 8 ∧ ∀ j_ : Nat, (j_ : Int) < S_.1 0 ii_ 18 → 0 ≤ S_.2.2.1 25 (0 + ii_) j_) ∧ (xch ii_ a1_.toNat a2_.toNat S0_ S_) ∧ (cdf ii_ S0_ S_) ∧ True) → ((1000 - k_).toNat) < nn_ → sm_T (mt_P sc_) 2 27 (116, [some (.inr (.inr (some (0, ii_)))), some (.inl a1_), some (.inl a2_), some (.inl bf_), some (.inl af_), some (.inl k_)], [], S_) (fun ro9_ => ∃ u_ S1_, ro9_ = (.inl u_, S1_, 0) ∧ vq_27 a1_ a2_ ii_ cc_ S0_ u_ S1_)) := by
  intro nn_
  induction nn_ with
  | zero => exact ⟨fun _ _ _ _ _ _ h_ => absurd h_ (Nat.not_lt_zero _), fun _ _ _ _ _ _ _ h_ => absurd h_ (Nat.not_lt_zero _), fun _ _ _ _ _ _ _ h_ => absurd h_ (Nat.not_lt_zero _)⟩
  | succ nn_ ih_ =>
    refine ⟨?_, ?_, ?_⟩
    · rintro bf_ k_ S_ hI_ hF_ ⟨h0_, hn_, hw_, hC_, -⟩ hm_
      have bx1_ : 0 ≤ S_.1 0 ii_ 18 ∧ S_.1 0 ii_ 18 ≤ 8 := hI_.1 0 ii_ 18 rfl
      refine sm_T_go 3 (c1 := (26, [some (.inr (.inr (some (0, ii_)))), some (.inl a1_), some (.inl a2_), some (.inl bf_), some (.inl k_), none], [.inl (S_.1 0 ii_ 18), .inl k_], S_)) rfl ?_
      refine sm_T_br (a := 3) (z := 24) rfl (fun cx2_ => ?_) (fun cx2_ => ?_)
      · have cx2_ : (S_.1 0 ii_ 18) ≤ k_ := of_decide_eq_true cx2_
        refine sm_T_go 3 (c1 := (53, [some (.inr (.inr (some (0, ii_)))), some (.inl a1_), some (.inl a2_), some (.inl bf_), some (.inl k_), none], [.inl a2_, .inl a1_, .inr (.inr (some (0, ii_)))], S_)) rfl ?_
        refine sm_T_cal (d1 := 0) (Q1 := vq_29 a1_ a2_ ii_ S_) rfl rfl (by decide) (vc_29 a1_ a2_ ii_ S_ hI_ (by omega) (by omega)) (fun u_ Sx3_ px6_ => ?_)
        obtain ⟨rfl, hIx4_, hFx5_, px6_⟩ := px6_
        have hFx7_ : ai_fr (sx_W vw_27) S0_ Sx3_ := ai_fr_tr hF_ (fr_le hFx5_ rfl)
        obtain ⟨dx9_, px6_⟩ := px6_
        have hCx8_ : cdf ii_ S0_ Sx3_ := cdf_tr hC_ (cdf_cg (by omega) dx9_)
        have ex10_ : Sx3_.1 0 ii_ 18 = S_.1 0 ii_ 18 := hFx5_.1 0 ii_ 18 rfl
        have x53_ := px6_
        have u18_ := hFx5_.1 0 ii_ 18 rfl
        have u25_ := hFx5_.2.2 25 rfl (0 + ii_)
        refine sm_T_go 4 (c1 := (62, [some (.inr (.inr (some (0, ii_)))), some (.inl a1_), some (.inl a2_), some (.inl bf_), some (.inl 0), some (.inl 0)], [], Sx3_)) rfl ?_
        refine ih_.2.1 bf_ 0 0 Sx3_ hIx4_ hFx7_ ⟨?_, ?_, ?_, ?_, trivial⟩ ?_
        · omega
        · refine ⟨by omega, fun j_ hj9_ => ?_⟩
          rw [(u25_ j_).1]
          exact hn_.2 j_ (by omega)
        · intro e_
          have y_ := x53_ e_
          rw [hw_.1, hw_.2] at y_
          exact y_
        · exact hCx8_
        · omega
      · have cx2_ : ¬ ((S_.1 0 ii_ 18) ≤ k_) := of_decide_eq_false cx2_
        have n9_ := hn_.2 k_.toNat (by omega)
        refine sm_T_go 6 (c1 := (40, [some (.inr (.inr (some (0, ii_)))), some (.inl a1_), some (.inl a2_), some (.inl bf_), some (.inl k_), none], [.inl k_, .inr (.inr (some (25, (0 + ii_)))), .inr (.inr (some (21, (0 + ii_)))), .inl bf_], S_)) rfl ?_
        refine sm_T_iald (n := 8) rfl rfl (by omega) (by omega) ?_
        have bx11_ : (-1) ≤ S_.2.2.1 25 (0 + ii_) k_.toNat ∧ S_.2.2.1 25 (0 + ii_) k_.toNat ≤ 161 := hI_.2 25 (0 + ii_) _
        refine sm_T_iald (n := 162) rfl rfl (by omega) (by omega) ?_
        have bx12_ : (-9999) ≤ S_.2.2.1 21 (0 + ii_) (S_.2.2.1 25 (0 + ii_) k_.toNat).toNat ∧ S_.2.2.1 21 (0 + ii_) (S_.2.2.1 25 (0 + ii_) k_.toNat).toNat ≤ 20000 := hI_.2 21 (0 + ii_) _
        refine sm_T_bin (w := bf_ + (S_.2.2.1 21 (0 + ii_) (S_.2.2.1 25 (0 + ii_) k_.toNat).toNat)) rfl (bi_add (by omega) (by omega) (by omega)) ?_ -- pc_ 42
        refine sm_T_go 1 (c1 := (44, [some (.inr (.inr (some (0, ii_)))), some (.inl a1_), some (.inl a2_), some (.inl (bf_ + (S_.2.2.1 21 (0 + ii_) (S_.2.2.1 25 (0 + ii_) k_.toNat).toNat))), some (.inl k_), none], [], S_)) rfl ?_
        refine sm_T_inc (a := 4) (z := 1) (v := k_) (w := k_ + 1) rfl rfl (by omega) (by omega) (by omega) ?_ -- pc_ 44
        refine sm_T_go 1 (c1 := (20, [some (.inr (.inr (some (0, ii_)))), some (.inl a1_), some (.inl a2_), some (.inl (bf_ + (S_.2.2.1 21 (0 + ii_) (S_.2.2.1 25 (0 + ii_) k_.toNat).toNat))), some (.inl (k_ + 1)), none], [], S_)) rfl ?_
        refine ih_.1 (bf_ + (S_.2.2.1 21 (0 + ii_) (S_.2.2.1 25 (0 + ii_) k_.toNat).toNat)) (k_ + 1) S_ hI_ hF_ ⟨?_, ?_, ?_, ?_, trivial⟩ ?_
        · omega
        · exact hn_
        · exact hw_
        · exact hC_
        · omega
    · rintro bf_ af_ k_ S_ hI_ hF_ ⟨h0_, hn_, hx_, hC_, -⟩ hm_
      have bx1_ : 0 ≤ S_.1 0 ii_ 18 ∧ S_.1 0 ii_ 18 ≤ 8 := hI_.1 0 ii_ 18 rfl
      refine sm_T_go 3 (c1 := (68, [some (.inr (.inr (some (0, ii_)))), some (.inl a1_), some (.inl a2_), some (.inl bf_), some (.inl af_), some (.inl k_)], [.inl (S_.1 0 ii_ 18), .inl k_], S_)) rfl ?_
      refine sm_T_br (a := 3) (z := 31) rfl (fun cx2_ => ?_) (fun cx2_ => ?_)
      · have cx2_ : (S_.1 0 ii_ 18) ≤ k_ := of_decide_eq_true cx2_
        refine sm_T_go 2 (c1 := (102, [some (.inr (.inr (some (0, ii_)))), some (.inl a1_), some (.inl a2_), some (.inl bf_), some (.inl af_), some (.inl k_)], [.inl bf_, .inl af_], S_)) rfl ?_
        refine sm_T_br (a := 2) (z := 11) rfl (fun cx3_ => ?_) (fun cx3_ => ?_)
        · have cx3_ : af_ < bf_ := of_decide_eq_true cx3_
          refine sm_T_go 2 (c1 := (116, [some (.inr (.inr (some (0, ii_)))), some (.inl a1_), some (.inl a2_), some (.inl bf_), some (.inl af_), some (.inl 0)], [], S_)) rfl ?_
          refine ih_.2.2 bf_ af_ 0 S_ hI_ hF_ ⟨?_, ?_, ?_, ?_, trivial⟩ ?_
          · omega
          · exact hn_
          · exact hx_
          · exact hC_
          · omega
        · have cx3_ : ¬ (af_ < bf_) := of_decide_eq_false cx3_
          refine sm_T_go 3 (c1 := (108, [some (.inr (.inr (some (0, ii_)))), some (.inl a1_), some (.inl a2_), some (.inl bf_), some (.inl af_), some (.inl k_)], [.inl a2_, .inl a1_, .inr (.inr (some (0, ii_)))], S_)) rfl ?_
          refine sm_T_cal (d1 := 0) (Q1 := vq_29 a1_ a2_ ii_ S_) rfl rfl (by decide) (vc_29 a1_ a2_ ii_ S_ hI_ (by omega) (by omega)) (fun u_ Sx4_ px7_ => ?_)
          obtain ⟨rfl, hIx5_, hFx6_, px7_⟩ := px7_
          have hFx8_ : ai_fr (sx_W vw_27) S0_ Sx4_ := ai_fr_tr hF_ (fr_le hFx6_ rfl)
          obtain ⟨dx10_, px7_⟩ := px7_
          have hCx9_ : cdf ii_ S0_ Sx4_ := cdf_tr hC_ (cdf_cg (by omega) dx10_)
          have ex11_ : Sx4_.1 0 ii_ 18 = S_.1 0 ii_ 18 := hFx6_.1 0 ii_ 18 rfl
          have x108_ := px7_
          refine sm_T_go 1 (c1 := (112, [some (.inr (.inr (some (0, ii_)))), some (.inl a1_), some (.inl a2_), some (.inl bf_), some (.inl af_), some (.inl k_)], [.inl 0], Sx4_)) rfl ?_
          refine sm_T_rz rfl (by omega) ⟨_, _, rfl, _, rfl, hIx5_, hFx8_, ?_⟩
          refine ⟨hCx9_, ?_⟩
          refine ⟨by omega, ?_⟩
          exact bpl_sw hp_ (hFx8_.1 0 ii_ 0 rfl) (hFx8_.1 0 ii_ 1 rfl) (hFx8_.1 0 ii_ 2 rfl) (hFx8_.1 2 cc_ 1 rfl) (hFx8_.1 2 cc_ 2 rfl) (hFx8_.1 2 cc_ 3 rfl) (hFx8_.1 2 cc_ 8 rfl) (fr_arr hFx8_ rfl) (fun e_ he_ => ⟨e_, he_, rfl, xch_2 hx_ x108_ e_⟩)
      · have cx2_ : ¬ ((S_.1 0 ii_ 18) ≤ k_) := of_decide_eq_false cx2_
        have n9_ := hn_.2 k_.toNat (by omega)
        refine sm_T_go 2 (c1 := (74, [some (.inr (.inr (some (0, ii_)))), some (.inl a1_), some (.inl a2_), some (.inl bf_), some (.inl af_), some (.inl k_)], [.inl bf_, .inl af_], S_)) rfl ?_
        refine sm_T_br (a := 3) (z := 25) rfl (fun cx12_ => ?_) (fun cx12_ => ?_)
        · have cx12_ : bf_ ≤ af_ := of_decide_eq_true cx12_
          refine sm_T_go 2 (c1 := (102, [some (.inr (.inr (some (0, ii_)))), some (.inl a1_), some (.inl a2_), some (.inl bf_), some (.inl af_), some (.inl k_)], [.inl bf_, .inl af_], S_)) rfl ?_
          refine sm_T_br (a := 2) (z := 11) rfl (fun cx13_ => ?_) (fun cx13_ => ?_)
          · have cx13_ : af_ < bf_ := of_decide_eq_true cx13_
            exfalso; omega
          · have cx13_ : ¬ (af_ < bf_) := of_decide_eq_false cx13_
            refine sm_T_go 3 (c1 := (108, [some (.inr (.inr (some (0, ii_)))), some (.inl a1_), some (.inl a2_), some (.inl bf_), some (.inl af_), some (.inl k_)], [.inl a2_, .inl a1_, .inr (.inr (some (0, ii_)))], S_)) rfl ?_
            refine sm_T_cal (d1 := 0) (Q1 := vq_29 a1_ a2_ ii_ S_) rfl rfl (by decide) (vc_29 a1_ a2_ ii_ S_ hI_ (by omega) (by omega)) (fun u_ Sx14_ px17_ => ?_)
            obtain ⟨rfl, hIx15_, hFx16_, px17_⟩ := px17_
            have hFx18_ : ai_fr (sx_W vw_27) S0_ Sx14_ := ai_fr_tr hF_ (fr_le hFx16_ rfl)
            obtain ⟨dx20_, px17_⟩ := px17_
            have hCx19_ : cdf ii_ S0_ Sx14_ := cdf_tr hC_ (cdf_cg (by omega) dx20_)
            have ex21_ : Sx14_.1 0 ii_ 18 = S_.1 0 ii_ 18 := hFx16_.1 0 ii_ 18 rfl
            have x108_ := px17_
            refine sm_T_go 1 (c1 := (112, [some (.inr (.inr (some (0, ii_)))), some (.inl a1_), some (.inl a2_), some (.inl bf_), some (.inl af_), some (.inl k_)], [.inl 0], Sx14_)) rfl ?_
            refine sm_T_rz rfl (by omega) ⟨_, _, rfl, _, rfl, hIx15_, hFx18_, ?_⟩
            refine ⟨hCx19_, ?_⟩
            refine ⟨by omega, ?_⟩
            exact bpl_sw hp_ (hFx18_.1 0 ii_ 0 rfl) (hFx18_.1 0 ii_ 1 rfl) (hFx18_.1 0 ii_ 2 rfl) (hFx18_.1 2 cc_ 1 rfl) (hFx18_.1 2 cc_ 2 rfl) (hFx18_.1 2 cc_ 3 rfl) (hFx18_.1 2 cc_ 8 rfl) (fr_arr hFx18_ rfl) (fun e_ he_ => ⟨e_, he_, rfl, xch_2 hx_ x108_ e_⟩)
        · have cx12_ : ¬ (bf_ ≤ af_) := of_decide_eq_false cx12_
          refine sm_T_go 5 (c1 := (86, [some (.inr (.inr (some (0, ii_)))), some (.inl a1_), some (.inl a2_), some (.inl bf_), some (.inl af_), some (.inl k_)], [.inl k_, .inr (.inr (some (25, (0 + ii_)))), .inr (.inr (some (0, ii_))), .inl af_], S_)) rfl ?_
          refine sm_T_iald (n := 8) rfl rfl (by omega) (by omega) ?_
          have bx22_ : (-1) ≤ S_.2.2.1 25 (0 + ii_) k_.toNat ∧ S_.2.2.1 25 (0 + ii_) k_.toNat ≤ 161 := hI_.2 25 (0 + ii_) _
          refine sm_T_cal (d1 := 1) (Q1 := vq_23 (S_.2.2.1 25 (0 + ii_) k_.toNat) ii_ S_) rfl rfl (by decide) (vc_23 (S_.2.2.1 25 (0 + ii_) k_.toNat) ii_ S_ hI_ (by omega) (by exact bpn_fr hb_ hF_ rfl rfl rfl rfl)) (fun u_ Sx23_ px26_ => ?_)
          obtain ⟨rfl, vx28_, rfl, px26_⟩ := px26_
          have w9_ := px26_
          refine sm_T_bin (w := af_ + vx28_) rfl (bi_add (by omega) (by omega) (by omega)) ?_ -- pc_ 90
          refine sm_T_go 1 (c1 := (93, [some (.inr (.inr (some (0, ii_)))), some (.inl a1_), some (.inl a2_), some (.inl bf_), some (.inl (af_ + vx28_)), some (.inl k_)], [], S_)) rfl ?_
          refine sm_T_inc (a := 5) (z := 1) (v := k_) (w := k_ + 1) rfl rfl (by omega) (by omega) (by omega) ?_ -- pc_ 93
          refine sm_T_go 1 (c1 := (62, [some (.inr (.inr (some (0, ii_)))), some (.inl a1_), some (.inl a2_), some (.inl bf_), some (.inl (af_ + vx28_)), some (.inl (k_ + 1))], [], S_)) rfl ?_
          refine ih_.2.1 bf_ (af_ + vx28_) (k_ + 1) S_ hI_ hF_ ⟨?_, ?_, ?_, ?_, trivial⟩ ?_
          · omega
          · exact hn_
          · exact hx_
          · exact hC_
          · omega
    · rintro bf_ af_ k_ S_ hI_ hF_ ⟨h0_, hn_, hx_, hC_, -⟩ hm_
      have bx1_ : 0 ≤ S_.1 0 ii_ 18 ∧ S_.1 0 ii_ 18 ≤ 8 := hI_.1 0 ii_ 18 rfl
      refine sm_T_go 3 (c1 := (122, [some (.inr (.inr (some (0, ii_)))), some (.inl a1_), some (.inl a2_), some (.inl bf_), some (.inl af_), some (.inl k_)], [.inl (S_.1 0 ii_ 18), .inl k_], S_)) rfl ?_
      refine sm_T_br (a := 3) (z := 32) rfl (fun cx2_ => ?_) (fun cx2_ => ?_)
      · have cx2_ : (S_.1 0 ii_ 18) ≤ k_ := of_decide_eq_true cx2_
        refine sm_T_go 1 (c1 := (155, [some (.inr (.inr (some (0, ii_)))), some (.inl a1_), some (.inl a2_), some (.inl bf_), some (.inl af_), some (.inl k_)], [.inl 1], S_)) rfl ?_
        refine sm_T_rz rfl (by omega) ⟨_, _, rfl, _, rfl, hI_, hF_, ?_⟩
        refine ⟨hC_, ?_⟩
        refine ⟨by omega, ?_⟩
        exact bpl_xch hp_ hx_ (by omega) (by omega) hz_ (hF_.1 0 ii_ 0 rfl) (hF_.1 0 ii_ 1 rfl) (hF_.1 0 ii_ 2 rfl) (hF_.1 2 cc_ 1 rfl) (hF_.1 2 cc_ 2 rfl) (hF_.1 2 cc_ 3 rfl) (hF_.1 2 cc_ 8 rfl) (fr_arr hF_ rfl)
      · have cx2_ : ¬ ((S_.1 0 ii_ 18) ≤ k_) := of_decide_eq_false cx2_
        have n9_ := hn_.2 k_.toNat (by omega)
        refine sm_T_go 5 (c1 := (135, [some (.inr (.inr (some (0, ii_)))), some (.inl a1_), some (.inl a2_), some (.inl bf_), some (.inl af_), some (.inl k_)], [.inl k_, .inr (.inr (some (25, (0 + ii_)))), .inr (.inr (some (21, (0 + ii_))))], S_)) rfl ?_
        refine sm_T_iald (n := 8) rfl rfl (by omega) (by omega) ?_
        have bx3_ : (-1) ≤ S_.2.2.1 25 (0 + ii_) k_.toNat ∧ S_.2.2.1 25 (0 + ii_) k_.toNat ≤ 161 := hI_.2 25 (0 + ii_) _
        refine sm_T_go 4 (c1 := (143, [some (.inr (.inr (some (0, ii_)))), some (.inl a1_), some (.inl a2_), some (.inl bf_), some (.inl af_), some (.inl k_)], [.inl k_, .inr (.inr (some (25, (0 + ii_)))), .inr (.inr (some (0, ii_))), .inl (S_.2.2.1 25 (0 + ii_) k_.toNat), .inr (.inr (some (21, (0 + ii_))))], S_)) rfl ?_
        refine sm_T_iald (n := 8) rfl rfl (by omega) (by omega) ?_
        refine sm_T_cal (d1 := 1) (Q1 := vq_23 (S_.2.2.1 25 (0 + ii_) k_.toNat) ii_ S_) rfl rfl (by decide) (vc_23 (S_.2.2.1 25 (0 + ii_) k_.toNat) ii_ S_ hI_ (by omega) (by exact bpn_fr hb_ hF_ rfl rfl rfl rfl)) (fun u_ Sx4_ px7_ => ?_)
        obtain ⟨rfl, vx9_, rfl, px7_⟩ := px7_
        have w9_ := px7_
        refine sm_T_iast (n := 162) rfl rfl (by omega) (by omega) ?_
        have hIx10_ : gi (sm_aI S_ 21 (0 + ii_) (S_.2.2.1 25 (0 + ii_) k_.toNat).toNat vx9_) := gi_aI hI_ (show (-9999) ≤ vx9_ ∧ vx9_ ≤ 20000 from ⟨by omega, by omega⟩)
        have hFx11_ : ai_fr (sx_W vw_27) S0_ (sm_aI S_ 21 (0 + ii_) (S_.2.2.1 25 (0 + ii_) k_.toNat).toNat vx9_) := ai_fr_tr hF_ (ai_fr_aI rfl)
        have hCx12_ : cdf ii_ S0_ (sm_aI S_ 21 (0 + ii_) (S_.2.2.1 25 (0 + ii_) k_.toNat).toNat vx9_) := cdf_aI hC_ (Or.inr (by rw [show cof 21 = 0 from rfl] <;> omega))
        refine sm_T_inc (a := 5) (z := 1) (v := k_) (w := k_ + 1) rfl rfl (by omega) (by omega) (by omega) ?_ -- pc_ 148
        refine sm_T_go 1 (c1 := (116, [some (.inr (.inr (some (0, ii_)))), some (.inl a1_), some (.inl a2_), some (.inl bf_), some (.inl af_), some (.inl (k_ + 1))], [], sm_aI S_ 21 (0 + ii_) (S_.2.2.1 25 (0 + ii_) k_.toNat).toNat vx9_)) rfl ?_
        refine ih_.2.2 bf_ af_ (k_ + 1) (sm_aI S_ 21 (0 + ii_) (S_.2.2.1 25 (0 + ii_) k_.toNat).toNat vx9_) hIx10_ hFx11_ ⟨?_, ?_, ?_, ?_, trivial⟩ ?_
        · omega
        · refine ⟨hn_.1, fun j_ hj9_ => ?_⟩
          rw [rd_ne (by decide)]
          exact hn_.2 j_ hj9_
        · intro e_
          rw [rd_ne (by decide), rd_ne (by decide)]
          exact hx_ e_
        · exact hCx12_
        · omega
set_option maxHeartbeats 400000 in
theorem vc_27 {sc_ : Nat × (Nat → Int)} (a1_ : Int) (a2_ : Int) (ii_ : Nat) (cc_ : Nat) (S0_ : sm_S) (hI_ : gi S0_) (h1_ : 0 ≤ a1_ ∧ a1_ ≤ 155 ∧ a1_ < (S0_.1 2 cc_ 2 + S0_.1 2 cc_ 8)) (h2_ : 0 ≤ a2_ ∧ a2_ ≤ 155 ∧ a2_ < (S0_.1 2 cc_ 2 + S0_.1 2 cc_ 8)) (hz_ : S0_.2.2.1 16 (0 + ii_) a1_.toNat = S0_.2.2.1 16 (0 + ii_) a2_.toNat) (hb_ : bpn ii_ S0_) (hp_ : bpl ii_ cc_ S0_) : sm_T (mt_P sc_) 2 27 (0, [some (.inr (.inr (some (0, ii_)))), some (.inl a1_), some (.inl a2_), none, none, none], [], S0_) (fun ro9_ => ∃ u_ S1_, ro9_ = (.inl u_, S1_, 0) ∧ vq_27 a1_ a2_ ii_ cc_ S0_ u_ S1_) := by
  have hF_ : ai_fr (sx_W vw_27) S0_ S0_ := ai_fr_rf
  have hC_ : cdf ii_ S0_ S0_ := cdf_rf
  have hIx1_ : gi (sm_pI S0_ 0 ii_ 18 0) := gi_pI hI_ (show 0 ≤ 0 ∧ 0 ≤ 8 from ⟨by omega, by omega⟩)
  have hFx2_ : ai_fr (sx_W vw_27) S0_ (sm_pI S0_ 0 ii_ 18 0) := ai_fr_tr hF_ (ai_fr_pI rfl)
  have hCx3_ : cdf ii_ S0_ (sm_pI S0_ 0 ii_ 18 0) := cdf_pI hC_ (Or.inr (by rw [show cof 0 = 0 from rfl] <;> omega))
  refine sm_T_go 5 (c1 := (7, [some (.inr (.inr (some (0, ii_)))), some (.inl a1_), some (.inl a2_), none, none, none], [.inl a1_, .inr (.inr (some (0, ii_)))], sm_pI S0_ 0 ii_ 18 0)) rfl ?_
  refine sm_T_cal (d1 := 0) (Q1 := vq_28 a1_ ii_ (sm_pI S0_ 0 ii_ 18 0)) rfl rfl (by decide) (vc_28 a1_ ii_ (sm_pI S0_ 0 ii_ 18 0) hIx1_ (by omega) (by (rw [rf_eq]; decide)) (by (intro j_ hj9_; rw [rf_eq] at hj9_; exfalso; omega))) (fun u_ Sx4_ px7_ => ?_)
  obtain ⟨rfl, hIx5_, hFx6_, px7_⟩ := px7_
  have hFx8_ : ai_fr (sx_W vw_27) S0_ Sx4_ := ai_fr_tr hFx2_ (fr_le hFx6_ rfl)
  obtain ⟨dx10_, px7_⟩ := px7_
  have hCx9_ : cdf ii_ S0_ Sx4_ := cdf_tr hCx3_ (cdf_cg (by omega) dx10_)
  have t7_ := px7_
  rw [rf_eq] at t7_
  have q14_ := hFx6_.2.2 14 rfl (0 + ii_)
  have q15_ := hFx6_.2.2 15 rfl (0 + ii_)
  refine sm_T_go 2 (c1 := (12, [some (.inr (.inr (some (0, ii_)))), some (.inl a1_), some (.inl a2_), none, none, none], [.inl a2_, .inr (.inr (some (0, ii_)))], Sx4_)) rfl ?_
  refine sm_T_cal (d1 := 0) (Q1 := vq_28 a2_ ii_ Sx4_) rfl rfl (by decide) (vc_28 a2_ ii_ Sx4_ hIx5_ (by omega) (by omega) (by exact t7_.2)) (fun u_ Sx11_ px14_ => ?_)
  obtain ⟨rfl, hIx12_, hFx13_, px14_⟩ := px14_
  have hFx15_ : ai_fr (sx_W vw_27) S0_ Sx11_ := ai_fr_tr hFx8_ (fr_le hFx13_ rfl)
  obtain ⟨dx17_, px14_⟩ := px14_
  have hCx16_ : cdf ii_ S0_ Sx11_ := cdf_tr hCx9_ (cdf_cg (by omega) dx17_)
  have t12_ := px14_
  have r14_ := hFx13_.2.2 14 rfl (0 + ii_)
  have r15_ := hFx13_.2.2 15 rfl (0 + ii_)
  refine sm_T_go 4 (c1 := (20, [some (.inr (.inr (some (0, ii_)))), some (.inl a1_), some (.inl a2_), some (.inl 0), some (.inl 0), none], [], Sx11_)) rfl ?_
  refine (vl_27 a1_ a2_ ii_ cc_ S0_ h1_ h2_ hz_ hb_ hp_ _).1 0 0 Sx11_ hIx12_ hFx15_ ⟨?_, ?_, ?_, ?_, trivial⟩ (Nat.lt_succ_self _)
  · omega
  · exact ⟨by omega, t12_.2⟩
  · constructor
    · exact funext fun e_ => (r14_ e_).1.trans (q14_ e_).1
    · exact funext fun e_ => (r15_ e_).1.trans (q15_ e_).1
  · exact hCx16_
end
/-! 99.zkae -/
section
/-! Board.exchangeAll -/
def vw_26 : sx_Wl := ([(0, 11), (0, 16), (0, 18), (4, 0)], [14, 15, 21, 25], [])
def vq_26 (a2_ : Int) (ii_ : Nat) (cc_ : Nat) (S0_ : sm_S) (u_ : Option sm_V) (S1_ : sm_S) : Prop := u_ = none ∧ gi S1_ ∧ ai_fr (sx_W vw_26) S0_ S1_ ∧ (cdf ii_ S0_ S1_ ∧ (bpl ii_ cc_ S1_ ∧ (S1_.1 0 ii_ 11 = 0 ∨ S1_.1 0 ii_ 11 = S0_.1 0 ii_ 11)))
set_option maxHeartbeats 400000 in
theorem vl_26 {sc_ : Nat × (Nat → Int)} (a2_ : Int) (ii_ : Nat) (cc_ : Nat) (S0_ : sm_S) (h1_ : 1 ≤ a2_ ∧ a2_ ≤ 4) (hb_ : bpn ii_ S0_) (hp_ : bpl ii_ cc_ S0_) : ∀ nn_ : Nat, (∀ (cg : Int) (ev : Int) (ps_ : Int) (S_ : sm_S), gi S_ → ai_fr (sx_W vw_26) S0_ S_ → ((0 ≤ ps_ ∧ ps_ ≤ 4 ∧ 0 ≤ cg ∧ cg ≤ 1 ∧ 0 ≤ ev ∧ ev ≤ 1) ∧ (bpl ii_ cc_ S_) ∧ (S_.1 0 ii_ 11 = S0_.1 0 ii_ 11) ∧ (cdf ii_ S0_ S_) ∧ True) → ((1000000 * (10 - ps_) + 900000).toNat) < nn_ → sm_T (mt_P sc_) 3 26 (8, [some (.inr (.inr (some (0, ii_)))), some (.inr (.inr (some (2, cc_)))), some (.inl a2_), some (.inl cg), some (.inl ev), some (.inl ps_), none, none], [], S_) (fun ro9_ => ∃ u_ S1_, ro9_ = (.inl u_, S1_, 0) ∧ vq_26 a2_ ii_ cc_ S0_ u_ S1_)) ∧ (∀ (cg : Int) (ev : Int) (ps_ : Int) (i_ : Int) (S_ : sm_S), gi S_ → ai_fr (sx_W vw_26) S0_ S_ → ((0 ≤ ps_ ∧ ps_ < 4 ∧ 0 ≤ cg ∧ cg ≤ 1 ∧ 0 ≤ ev ∧ ev ≤ 1 ∧ 0 ≤ i_ ∧ i_ ≤ 156) ∧ (bpl ii_ cc_ S_) ∧ (S_.1 0 ii_ 11 = S0_.1 0 ii_ 11) ∧ (cdf ii_ S0_ S_) ∧ True) → ((1000000 * (10 - ps_) + 1000 * (200 - i_) + 900).toNat) < nn_ → sm_T (mt_P sc_) 3 26 (23, [some (.inr (.inr (some (0, ii_)))), some (.inr (.inr (some (2, cc_)))), some (.inl a2_), some (.inl cg), some (.inl ev), some (.inl ps_), some (.inl i_), none], [], S_) (fun ro9_ => ∃ u_ S1_, ro9_ = (.inl u_, S1_, 0) ∧ vq_26 a2_ ii_ cc_ S0_ u_ S1_)) ∧ (∀ (cg : Int) (ev : Int) (ps_ : Int) (i_ : Int) (j_ : Int) (S_ : sm_S), gi S_ → ai_fr (sx_W vw_26) S0_ S_ → ((0 ≤ ps_ ∧ ps_ < 4 ∧ 0 ≤ cg ∧ cg ≤ 1 ∧ 0 ≤ ev ∧ ev ≤ 1 ∧ 0 ≤ i_ ∧ i_ < 156 ∧ i_ < j_ ∧ j_ ≤ 156) ∧ (bpl ii_ cc_ S_) ∧ (S_.1 0 ii_ 11 = S0_.1 0 ii_ 11) ∧ (cdf ii_ S0_ S_) ∧ True) → ((1000000 * (10 - ps_) + 1000 * (200 - i_) + 800 - j_).toNat) < nn_ → sm_T (mt_P sc_) 3 26 (38, [some (.inr (.inr (some (0, ii_)))), some (.inr (.inr (some (2, cc_)))), some (.inl a2_), some (.inl cg), some (.inl ev), some (.inl ps_), some (.inl i_), some (.inl j_)], [], S_) (fun ro9_ => ∃ u_ S1_, ro9_ = (.inl u_, S1_, 0) ∧ vq_26 a2_ ii_ cc_ S0_ u_ S1_)) := by
  intro nn_
  induction nn_ with
  | zero => exact ⟨fun _ _ _ _ _ _ _ h_ => absurd h_ (Nat.not_lt_zero _), fun _ _ _ _ _ _ _ _ h_ => absurd h_ (Nat.not_lt_zero _), fun _ _ _ _ _ _ _ _ _ h_ => absurd h_ (Nat.not_lt_zero _)⟩
  | succ nn_ ih_ =>
    refine ⟨?_, ?_, ?_⟩
    · rintro cg ev ps_ S_ hI_ hF_ ⟨h0_, hl_, hrt_, hC_, -⟩ hm_
      refine sm_T_go 2 (c1 := (11, [some (.inr (.inr (some (0, ii_)))), some (.inr (.inr (some (2, cc_)))), some (.inl a2_), some (.inl cg), some (.inl ev), some (.inl ps_), none, none], [.inl a2_, .inl ps_], S_)) rfl ?_
      refine sm_T_br (a := 3) (z := 87) rfl (fun cx1_ => ?_) (fun cx1_ => ?_)
      · have cx1_ : a2_ ≤ ps_ := of_decide_eq_true cx1_
        refine sm_T_go 1 (c1 := (100, [some (.inr (.inr (some (0, ii_)))), some (.inr (.inr (some (2, cc_)))), some (.inl a2_), some (.inl cg), some (.inl ev), some (.inl ps_), none, none], [.inl ev], S_)) rfl ?_
        refine sm_T_b0 (a := 0) (z := 17) rfl (fun cx2_ => ?_) (fun cx2_ => ?_)
        · have cx2_ : ev = 0 := of_decide_eq_true cx2_
          refine sm_T_rv rfl ⟨_, _, rfl, rfl, hI_, hF_, ?_⟩
          refine ⟨hC_, ?_⟩
          first | exact ⟨hl_, Or.inr hrt_⟩ | (refine ⟨?_, Or.inl ((rf_nk (by decide)).trans z104_.1)⟩; exact bpl_sw l9_ (rf_nk (by decide)) (rf_nk (by decide)) (rf_nk (by decide)) (rf_nt (by decide)) (rf_nt (by decide)) (rf_nt (by decide)) (rf_nt (by decide)) rfl (fun e_ he_ => ⟨e_, by first | exact he_ | (rw [rf_nt (by decide), rf_nt (by decide)] at he_; exact he_), rfl, rfl, rfl⟩))
        · have cx2_ : ¬ (ev = 0) := of_decide_eq_false cx2_
          refine sm_T_go 1 (c1 := (104, [some (.inr (.inr (some (0, ii_)))), some (.inr (.inr (some (2, cc_)))), some (.inl a2_), some (.inl cg), some (.inl ev), some (.inl ps_), none, none], [.inr (.inr (some (0, ii_)))], S_)) rfl ?_
          refine sm_T_cal (d1 := 0) (Q1 := vq_15 ii_ S_) rfl rfl (by decide) (vc_15 ii_ S_ hI_ ) (fun u_ Sx3_ px6_ => ?_)
          obtain ⟨rfl, hIx4_, hFx5_, px6_⟩ := px6_
          have hFx7_ : ai_fr (sx_W vw_26) S0_ Sx3_ := ai_fr_tr hF_ (fr_le hFx5_ rfl)
          obtain ⟨dx9_, px6_⟩ := px6_
          have hCx8_ : cdf ii_ S0_ Sx3_ := cdf_tr hC_ (cdf_cg (by omega) dx9_)
          have z104_ := px6_
          have l9_ := bpl_fr hl_ hFx5_ rfl rfl rfl rfl rfl rfl rfl rfl rfl rfl
          have bx10_ : (-2147483648) ≤ Sx3_.1 0 ii_ 16 ∧ Sx3_.1 0 ii_ 16 ≤ 2147483647 := hIx4_.1 0 ii_ 16 rfl
          refine sm_T_go 4 (c1 := (113, [some (.inr (.inr (some (0, ii_)))), some (.inr (.inr (some (2, cc_)))), some (.inl a2_), some (.inl cg), some (.inl ev), some (.inl ps_), none, none], [.inl 1, .inl (Sx3_.1 0 ii_ 16), .inr (.inr (some (0, ii_)))], Sx3_)) rfl ?_
          refine sm_T_bin (w := (i_add (Sx3_.1 0 ii_ 16) 1)) rfl rfl ?_ -- pc_ 113
          have bx11_ := i_add_r (Sx3_.1 0 ii_ 16) 1
          have hIx12_ : gi (sm_pI Sx3_ 0 ii_ 16 (i_add (Sx3_.1 0 ii_ 16) 1)) := gi_pI hIx4_ (show (-2147483648) ≤ (i_add (Sx3_.1 0 ii_ 16) 1) ∧ (i_add (Sx3_.1 0 ii_ 16) 1) ≤ 2147483647 from ⟨by omega, by omega⟩)
          have hFx13_ : ai_fr (sx_W vw_26) S0_ (sm_pI Sx3_ 0 ii_ 16 (i_add (Sx3_.1 0 ii_ 16) 1)) := ai_fr_tr hFx7_ (ai_fr_pI rfl)
          have hCx14_ : cdf ii_ S0_ (sm_pI Sx3_ 0 ii_ 16 (i_add (Sx3_.1 0 ii_ 16) 1)) := cdf_pI hCx8_ (Or.inr (by rw [show cof 0 = 0 from rfl] <;> omega))
          refine sm_T_go 1 (c1 := (117, [some (.inr (.inr (some (0, ii_)))), some (.inr (.inr (some (2, cc_)))), some (.inl a2_), some (.inl cg), some (.inl ev), some (.inl ps_), none, none], [], sm_pI Sx3_ 0 ii_ 16 (i_add (Sx3_.1 0 ii_ 16) 1))) rfl ?_
          refine sm_T_rv rfl ⟨_, _, rfl, rfl, hIx12_, hFx13_, ?_⟩
          refine ⟨hCx14_, ?_⟩
          first | exact ⟨hl_, Or.inr hrt_⟩ | (refine ⟨?_, Or.inl ((rf_nk (by decide)).trans z104_.1)⟩; exact bpl_sw l9_ (rf_nk (by decide)) (rf_nk (by decide)) (rf_nk (by decide)) (rf_nt (by decide)) (rf_nt (by decide)) (rf_nt (by decide)) (rf_nt (by decide)) rfl (fun e_ he_ => ⟨e_, by first | exact he_ | (rw [rf_nt (by decide), rf_nt (by decide)] at he_; exact he_), rfl, rfl, rfl⟩))
      · have cx1_ : ¬ (a2_ ≤ ps_) := of_decide_eq_false cx1_
        refine sm_T_go 1 (c1 := (15, [some (.inr (.inr (some (0, ii_)))), some (.inr (.inr (some (2, cc_)))), some (.inl a2_), some (.inl cg), some (.inl ev), some (.inl ps_), none, none], [.inl cg], S_)) rfl ?_
        refine sm_T_b0 (a := 0) (z := 83) rfl (fun cx15_ => ?_) (fun cx15_ => ?_)
        · have cx15_ : cg = 0 := of_decide_eq_true cx15_
          refine sm_T_go 1 (c1 := (100, [some (.inr (.inr (some (0, ii_)))), some (.inr (.inr (some (2, cc_)))), some (.inl a2_), some (.inl cg), some (.inl ev), some (.inl ps_), none, none], [.inl ev], S_)) rfl ?_
          refine sm_T_b0 (a := 0) (z := 17) rfl (fun cx16_ => ?_) (fun cx16_ => ?_)
          · have cx16_ : ev = 0 := of_decide_eq_true cx16_
            refine sm_T_rv rfl ⟨_, _, rfl, rfl, hI_, hF_, ?_⟩
            refine ⟨hC_, ?_⟩
            first | exact ⟨hl_, Or.inr hrt_⟩ | (refine ⟨?_, Or.inl ((rf_nk (by decide)).trans z104_.1)⟩; exact bpl_sw l9_ (rf_nk (by decide)) (rf_nk (by decide)) (rf_nk (by decide)) (rf_nt (by decide)) (rf_nt (by decide)) (rf_nt (by decide)) (rf_nt (by decide)) rfl (fun e_ he_ => ⟨e_, by first | exact he_ | (rw [rf_nt (by decide), rf_nt (by decide)] at he_; exact he_), rfl, rfl, rfl⟩))
          · have cx16_ : ¬ (ev = 0) := of_decide_eq_false cx16_
            refine sm_T_go 1 (c1 := (104, [some (.inr (.inr (some (0, ii_)))), some (.inr (.inr (some (2, cc_)))), some (.inl a2_), some (.inl cg), some (.inl ev), some (.inl ps_), none, none], [.inr (.inr (some (0, ii_)))], S_)) rfl ?_
            refine sm_T_cal (d1 := 0) (Q1 := vq_15 ii_ S_) rfl rfl (by decide) (vc_15 ii_ S_ hI_ ) (fun u_ Sx17_ px20_ => ?_)
            obtain ⟨rfl, hIx18_, hFx19_, px20_⟩ := px20_
            have hFx21_ : ai_fr (sx_W vw_26) S0_ Sx17_ := ai_fr_tr hF_ (fr_le hFx19_ rfl)
            obtain ⟨dx23_, px20_⟩ := px20_
            have hCx22_ : cdf ii_ S0_ Sx17_ := cdf_tr hC_ (cdf_cg (by omega) dx23_)
            have z104_ := px20_
            have l9_ := bpl_fr hl_ hFx19_ rfl rfl rfl rfl rfl rfl rfl rfl rfl rfl
            have bx24_ : (-2147483648) ≤ Sx17_.1 0 ii_ 16 ∧ Sx17_.1 0 ii_ 16 ≤ 2147483647 := hIx18_.1 0 ii_ 16 rfl
            refine sm_T_go 4 (c1 := (113, [some (.inr (.inr (some (0, ii_)))), some (.inr (.inr (some (2, cc_)))), some (.inl a2_), some (.inl cg), some (.inl ev), some (.inl ps_), none, none], [.inl 1, .inl (Sx17_.1 0 ii_ 16), .inr (.inr (some (0, ii_)))], Sx17_)) rfl ?_
            refine sm_T_bin (w := (i_add (Sx17_.1 0 ii_ 16) 1)) rfl rfl ?_ -- pc_ 113
            have bx25_ := i_add_r (Sx17_.1 0 ii_ 16) 1
            have hIx26_ : gi (sm_pI Sx17_ 0 ii_ 16 (i_add (Sx17_.1 0 ii_ 16) 1)) := gi_pI hIx18_ (show (-2147483648) ≤ (i_add (Sx17_.1 0 ii_ 16) 1) ∧ (i_add (Sx17_.1 0 ii_ 16) 1) ≤ 2147483647 from ⟨by omega, by omega⟩)
            have hFx27_ : ai_fr (sx_W vw_26) S0_ (sm_pI Sx17_ 0 ii_ 16 (i_add (Sx17_.1 0 ii_ 16) 1)) := ai_fr_tr hFx21_ (ai_fr_pI rfl)
            have hCx28_ : cdf ii_ S0_ (sm_pI Sx17_ 0 ii_ 16 (i_add (Sx17_.1 0 ii_ 16) 1)) := cdf_pI hCx22_ (Or.inr (by rw [show cof 0 = 0 from rfl] <;> omega))
            refine sm_T_go 1 (c1 := (117, [some (.inr (.inr (some (0, ii_)))), some (.inr (.inr (some (2, cc_)))), some (.inl a2_), some (.inl cg), some (.inl ev), some (.inl ps_), none, none], [], sm_pI Sx17_ 0 ii_ 16 (i_add (Sx17_.1 0 ii_ 16) 1))) rfl ?_
            refine sm_T_rv rfl ⟨_, _, rfl, rfl, hIx26_, hFx27_, ?_⟩
            refine ⟨hCx28_, ?_⟩
            first | exact ⟨hl_, Or.inr hrt_⟩ | (refine ⟨?_, Or.inl ((rf_nk (by decide)).trans z104_.1)⟩; exact bpl_sw l9_ (rf_nk (by decide)) (rf_nk (by decide)) (rf_nk (by decide)) (rf_nt (by decide)) (rf_nt (by decide)) (rf_nt (by decide)) (rf_nt (by decide)) rfl (fun e_ he_ => ⟨e_, by first | exact he_ | (rw [rf_nt (by decide), rf_nt (by decide)] at he_; exact he_), rfl, rfl, rfl⟩))
        · have cx15_ : ¬ (cg = 0) := of_decide_eq_false cx15_
          refine sm_T_go 4 (c1 := (23, [some (.inr (.inr (some (0, ii_)))), some (.inr (.inr (some (2, cc_)))), some (.inl a2_), some (.inl 0), some (.inl ev), some (.inl ps_), some (.inl 0), none], [], S_)) rfl ?_
          refine ih_.2.1 0 ev ps_ 0 S_ hI_ hF_ ⟨?_, ?_, ?_, ?_, trivial⟩ ?_
          · omega
          · exact hl_
          · exact hrt_
          · exact hC_
          · omega
    · rintro cg ev ps_ i_ S_ hI_ hF_ ⟨h0_, hl_, hrt_, hC_, -⟩ hm_
      have c2_ : 0 ≤ S_.1 2 cc_ 2 ∧ S_.1 2 cc_ 2 ≤ 6 := hI_.1 2 cc_ 2 rfl
      have c8_ : 0 ≤ S_.1 2 cc_ 8 ∧ S_.1 2 cc_ 8 ≤ 150 := hI_.1 2 cc_ 8 rfl
      have e2_ : S_.1 2 cc_ 2 = S0_.1 2 cc_ 2 := hF_.1 2 cc_ 2 rfl
      have e8_ : S_.1 2 cc_ 8 = S0_.1 2 cc_ 8 := hF_.1 2 cc_ 8 rfl
      refine sm_T_go 2 (c1 := (26, [some (.inr (.inr (some (0, ii_)))), some (.inr (.inr (some (2, cc_)))), some (.inl a2_), some (.inl cg), some (.inl ev), some (.inl ps_), some (.inl i_), none], [.inr (.inr (some (2, cc_))), .inl i_], S_)) rfl ?_
      refine sm_T_cal (d1 := 0) (Q1 := vq_56 cc_ S_) rfl rfl (by decide) (vc_56 cc_ S_ hI_ ) (fun u_ Sx1_ px4_ => ?_)
      obtain ⟨rfl, vx6_, rfl, px4_⟩ := px4_
      have n9_ := px4_
      refine sm_T_br (a := 3) (z := 63) rfl (fun cx7_ => ?_) (fun cx7_ => ?_)
      · have cx7_ : vx6_ ≤ i_ := of_decide_eq_true cx7_
        refine sm_T_inc (a := 5) (z := 1) (v := ps_) (w := ps_ + 1) rfl rfl (by omega) (by omega) (by omega) ?_ -- pc_ 92
        refine sm_T_go 1 (c1 := (8, [some (.inr (.inr (some (0, ii_)))), some (.inr (.inr (some (2, cc_)))), some (.inl a2_), some (.inl cg), some (.inl ev), some (.inl (ps_ + 1)), some (.inl i_), none], [], S_)) rfl ?_
        refine sm_T_wk [some (.inr (.inr (some (0, ii_)))), some (.inr (.inr (some (2, cc_)))), some (.inl a2_), some (.inl cg), some (.inl ev), some (.inl (ps_ + 1)), none, none] (by exact ⟨rfl, rfl, rfl, rfl, rfl, rfl, trivial⟩) ?_
        refine ih_.1 cg ev (ps_ + 1) S_ hI_ hF_ ⟨?_, ?_, ?_, ?_, trivial⟩ ?_
        · omega
        · exact hl_
        · exact hrt_
        · exact hC_
        · omega
      · have cx7_ : ¬ (vx6_ ≤ i_) := of_decide_eq_false cx7_
        refine sm_T_go 2 (c1 := (35, [some (.inr (.inr (some (0, ii_)))), some (.inr (.inr (some (2, cc_)))), some (.inl a2_), some (.inl cg), some (.inl ev), some (.inl ps_), some (.inl i_), none], [.inl 1, .inl i_], S_)) rfl ?_
        refine sm_T_bin (w := i_ + 1) rfl (bi_add (by omega) (by omega) (by omega)) ?_ -- pc_ 35
        refine sm_T_go 1 (c1 := (38, [some (.inr (.inr (some (0, ii_)))), some (.inr (.inr (some (2, cc_)))), some (.inl a2_), some (.inl cg), some (.inl ev), some (.inl ps_), some (.inl i_), some (.inl (i_ + 1))], [], S_)) rfl ?_
        refine ih_.2.2 cg ev ps_ i_ (i_ + 1) S_ hI_ hF_ ⟨?_, ?_, ?_, ?_, trivial⟩ ?_
        · omega
        · exact hl_
        · exact hrt_
        · exact hC_
        · omega
    · rintro cg ev ps_ i_ j_ S_ hI_ hF_ ⟨h0_, hl_, hrt_, hC_, -⟩ hm_
      have c2_ : 0 ≤ S_.1 2 cc_ 2 ∧ S_.1 2 cc_ 2 ≤ 6 := hI_.1 2 cc_ 2 rfl
      have c8_ : 0 ≤ S_.1 2 cc_ 8 ∧ S_.1 2 cc_ 8 ≤ 150 := hI_.1 2 cc_ 8 rfl
      have e2_ : S_.1 2 cc_ 2 = S0_.1 2 cc_ 2 := hF_.1 2 cc_ 2 rfl
      have e8_ : S_.1 2 cc_ 8 = S0_.1 2 cc_ 8 := hF_.1 2 cc_ 8 rfl
      refine sm_T_go 2 (c1 := (41, [some (.inr (.inr (some (0, ii_)))), some (.inr (.inr (some (2, cc_)))), some (.inl a2_), some (.inl cg), some (.inl ev), some (.inl ps_), some (.inl i_), some (.inl j_)], [.inr (.inr (some (2, cc_))), .inl j_], S_)) rfl ?_
      refine sm_T_cal (d1 := 0) (Q1 := vq_56 cc_ S_) rfl rfl (by decide) (vc_56 cc_ S_ hI_ ) (fun u_ Sx1_ px4_ => ?_)
      obtain ⟨rfl, vx6_, rfl, px4_⟩ := px4_
      have n9_ := px4_
      refine sm_T_br (a := 3) (z := 42) rfl (fun cx7_ => ?_) (fun cx7_ => ?_)
      · have cx7_ : vx6_ ≤ j_ := of_decide_eq_true cx7_
        refine sm_T_inc (a := 6) (z := 1) (v := i_) (w := i_ + 1) rfl rfl (by omega) (by omega) (by omega) ?_ -- pc_ 86
        refine sm_T_go 1 (c1 := (23, [some (.inr (.inr (some (0, ii_)))), some (.inr (.inr (some (2, cc_)))), some (.inl a2_), some (.inl cg), some (.inl ev), some (.inl ps_), some (.inl (i_ + 1)), some (.inl j_)], [], S_)) rfl ?_
        refine sm_T_wk [some (.inr (.inr (some (0, ii_)))), some (.inr (.inr (some (2, cc_)))), some (.inl a2_), some (.inl cg), some (.inl ev), some (.inl ps_), some (.inl (i_ + 1)), none] (by exact ⟨rfl, rfl, rfl, rfl, rfl, rfl, rfl, trivial⟩) ?_
        refine ih_.2.1 cg ev ps_ (i_ + 1) S_ hI_ hF_ ⟨?_, ?_, ?_, ?_, trivial⟩ ?_
        · omega
        · exact hl_
        · exact hrt_
        · exact hC_
        · omega
      · have cx7_ : ¬ (vx6_ ≤ j_) := of_decide_eq_false cx7_
        refine sm_T_go 3 (c1 := (53, [some (.inr (.inr (some (0, ii_)))), some (.inr (.inr (some (2, cc_)))), some (.inl a2_), some (.inl cg), some (.inl ev), some (.inl ps_), some (.inl i_), some (.inl j_)], [.inl i_, .inr (.inr (some (16, (0 + ii_))))], S_)) rfl ?_
        refine sm_T_iald (n := 156) rfl rfl (by omega) (by omega) ?_
        have bx8_ : 0 ≤ S_.2.2.1 16 (0 + ii_) i_.toNat ∧ S_.2.2.1 16 (0 + ii_) i_.toNat ≤ 4 := hI_.2 16 (0 + ii_) _
        refine sm_T_go 3 (c1 := (60, [some (.inr (.inr (some (0, ii_)))), some (.inr (.inr (some (2, cc_)))), some (.inl a2_), some (.inl cg), some (.inl ev), some (.inl ps_), some (.inl i_), some (.inl j_)], [.inl j_, .inr (.inr (some (16, (0 + ii_)))), .inl (S_.2.2.1 16 (0 + ii_) i_.toNat)], S_)) rfl ?_
        refine sm_T_iald (n := 156) rfl rfl (by omega) (by omega) ?_
        have bx9_ : 0 ≤ S_.2.2.1 16 (0 + ii_) j_.toNat ∧ S_.2.2.1 16 (0 + ii_) j_.toNat ≤ 4 := hI_.2 16 (0 + ii_) _
        refine sm_T_br (a := 1) (z := 19) rfl (fun cx10_ => ?_) (fun cx10_ => ?_)
        · have cx10_ : (S_.2.2.1 16 (0 + ii_) i_.toNat) ≠ (S_.2.2.1 16 (0 + ii_) j_.toNat) := of_decide_eq_true cx10_
          refine sm_T_inc (a := 7) (z := 1) (v := j_) (w := j_ + 1) rfl rfl (by omega) (by omega) (by omega) ?_ -- pc_ 80
          refine sm_T_go 1 (c1 := (38, [some (.inr (.inr (some (0, ii_)))), some (.inr (.inr (some (2, cc_)))), some (.inl a2_), some (.inl cg), some (.inl ev), some (.inl ps_), some (.inl i_), some (.inl (j_ + 1))], [], S_)) rfl ?_
          refine ih_.2.2 cg ev ps_ i_ (j_ + 1) S_ hI_ hF_ ⟨?_, ?_, ?_, ?_, trivial⟩ ?_
          · omega
          · first | exact hl_ | exact x69_.2
          · first | exact hrt_ | exact y69_.trans hrt_
          · exact hC_
          · omega
        · have cx10_ : ¬ ((S_.2.2.1 16 (0 + ii_) i_.toNat) ≠ (S_.2.2.1 16 (0 + ii_) j_.toNat)) := of_decide_eq_false cx10_
          refine sm_T_go 3 (c1 := (69, [some (.inr (.inr (some (0, ii_)))), some (.inr (.inr (some (2, cc_)))), some (.inl a2_), some (.inl cg), some (.inl ev), some (.inl ps_), some (.inl i_), some (.inl j_)], [.inl j_, .inl i_, .inr (.inr (some (0, ii_)))], S_)) rfl ?_
          refine sm_T_cal (d1 := 2) (Q1 := vq_27 i_ j_ ii_ cc_ S_) rfl rfl (by decide) (vc_27 i_ j_ ii_ cc_ S_ hI_ (by omega) (by omega) (by omega) (by exact bpn_fr hb_ hF_ rfl rfl rfl rfl) (by exact hl_)) (fun u_ Sx11_ px14_ => ?_)
          obtain ⟨vx16_, rfl, hIx12_, hFx13_, px14_⟩ := px14_
          have hFx15_ : ai_fr (sx_W vw_26) S0_ Sx11_ := ai_fr_tr hF_ (fr_le hFx13_ rfl)
          obtain ⟨dx18_, px14_⟩ := px14_
          have hCx17_ : cdf ii_ S0_ Sx11_ := cdf_tr hC_ (cdf_cg (by omega) dx18_)
          have x69_ := px14_
          have y69_ : Sx11_.1 0 ii_ 11 = S_.1 0 ii_ 11 := hFx13_.1 0 ii_ 11 rfl
          refine sm_T_b0 (a := 0) (z := 8) rfl (fun cx19_ => ?_) (fun cx19_ => ?_)
          · have cx19_ : vx16_ = 0 := of_decide_eq_true cx19_
            refine sm_T_inc (a := 7) (z := 1) (v := j_) (w := j_ + 1) rfl rfl (by omega) (by omega) (by omega) ?_ -- pc_ 80
            refine sm_T_go 1 (c1 := (38, [some (.inr (.inr (some (0, ii_)))), some (.inr (.inr (some (2, cc_)))), some (.inl a2_), some (.inl cg), some (.inl ev), some (.inl ps_), some (.inl i_), some (.inl (j_ + 1))], [], Sx11_)) rfl ?_
            refine ih_.2.2 cg ev ps_ i_ (j_ + 1) Sx11_ hIx12_ hFx15_ ⟨?_, ?_, ?_, ?_, trivial⟩ ?_
            · omega
            · first | exact hl_ | exact x69_.2
            · first | exact hrt_ | exact y69_.trans hrt_
            · exact hCx17_
            · omega
          · have cx19_ : ¬ (vx16_ = 0) := of_decide_eq_false cx19_
            refine sm_T_go 4 (c1 := (80, [some (.inr (.inr (some (0, ii_)))), some (.inr (.inr (some (2, cc_)))), some (.inl a2_), some (.inl 1), some (.inl 1), some (.inl ps_), some (.inl i_), some (.inl j_)], [], Sx11_)) rfl ?_
            refine sm_T_inc (a := 7) (z := 1) (v := j_) (w := j_ + 1) rfl rfl (by omega) (by omega) (by omega) ?_ -- pc_ 80
            refine sm_T_go 1 (c1 := (38, [some (.inr (.inr (some (0, ii_)))), some (.inr (.inr (some (2, cc_)))), some (.inl a2_), some (.inl 1), some (.inl 1), some (.inl ps_), some (.inl i_), some (.inl (j_ + 1))], [], Sx11_)) rfl ?_
            refine ih_.2.2 1 1 ps_ i_ (j_ + 1) Sx11_ hIx12_ hFx15_ ⟨?_, ?_, ?_, ?_, trivial⟩ ?_
            · omega
            · first | exact hl_ | exact x69_.2
            · first | exact hrt_ | exact y69_.trans hrt_
            · exact hCx17_
            · omega
set_option maxHeartbeats 400000 in
theorem vc_26 {sc_ : Nat × (Nat → Int)} (a2_ : Int) (ii_ : Nat) (cc_ : Nat) (S0_ : sm_S) (hI_ : gi S0_) (h1_ : 1 ≤ a2_ ∧ a2_ ≤ 4) (hb_ : bpn ii_ S0_) (hp_ : bpl ii_ cc_ S0_) : sm_T (mt_P sc_) 3 26 (0, [some (.inr (.inr (some (0, ii_)))), some (.inr (.inr (some (2, cc_)))), some (.inl a2_), none, none, none, none, none], [], S0_) (fun ro9_ => ∃ u_ S1_, ro9_ = (.inl u_, S1_, 0) ∧ vq_26 a2_ ii_ cc_ S0_ u_ S1_) := by
  have hF_ : ai_fr (sx_W vw_26) S0_ S0_ := ai_fr_rf
  have hC_ : cdf ii_ S0_ S0_ := cdf_rf
  refine sm_T_go 6 (c1 := (8, [some (.inr (.inr (some (0, ii_)))), some (.inr (.inr (some (2, cc_)))), some (.inl a2_), some (.inl 1), some (.inl 0), some (.inl 0), none, none], [], S0_)) rfl ?_
  refine (vl_26 a2_ ii_ cc_ S0_ h1_ hb_ hp_ _).1 1 0 0 S0_ hI_ hF_ ⟨?_, ?_, ?_, ?_, trivial⟩ (Nat.lt_succ_self _)
  · omega
  · exact hp_
  · rfl
  · exact hC_
end
/-! 99.zkaf -/
section
/-! java/lang/Integer.bitCount -/
def vw_7 : sx_Wl := ([], [], [])
def vq_7 (a0_ : Int) (S0_ : sm_S) (u_ : Option sm_V) (S1_ : sm_S) : Prop := S0_ = S1_ ∧ ∃ v_ : Int, u_ = some (.inl v_) ∧ ((0 ≤ v_ ∧ v_ ≤ 63) ∧ (v_ = ((i_add (i_add (i_and (i_add (i_add (i_and (i_sub a0_ (i_and (i_ushr a0_ 1) 1431655765)) 858993459) (i_and (i_ushr (i_sub a0_ (i_and (i_ushr a0_ 1) 1431655765)) 2) 858993459)) (i_ushr (i_add (i_and (i_sub a0_ (i_and (i_ushr a0_ 1) 1431655765)) 858993459) (i_and (i_ushr (i_sub a0_ (i_and (i_ushr a0_ 1) 1431655765)) 2) 858993459)) 4)) 252645135) (i_ushr (i_and (i_add (i_add (i_and (i_sub a0_ (i_and (i_ushr a0_ 1) 1431655765)) 858993459) (i_and (i_ushr (i_sub a0_ (i_and (i_ushr a0_ 1) 1431655765)) 2) 858993459)) (i_ushr (i_add (i_and (i_sub a0_ (i_and (i_ushr a0_ 1) 1431655765)) 858993459) (i_and (i_ushr (i_sub a0_ (i_and (i_ushr a0_ 1) 1431655765)) 2) 858993459)) 4)) 252645135) 8)) (i_ushr (i_add (i_and (i_add (i_add (i_and (i_sub a0_ (i_and (i_ushr a0_ 1) 1431655765)) 858993459) (i_and (i_ushr (i_sub a0_ (i_and (i_ushr a0_ 1) 1431655765)) 2) 858993459)) (i_ushr (i_add (i_and (i_sub a0_ (i_and (i_ushr a0_ 1) 1431655765)) 858993459) (i_and (i_ushr (i_sub a0_ (i_and (i_ushr a0_ 1) 1431655765)) 2) 858993459)) 4)) 252645135) (i_ushr (i_and (i_add (i_add (i_and (i_sub a0_ (i_and (i_ushr a0_ 1) 1431655765)) 858993459) (i_and (i_ushr (i_sub a0_ (i_and (i_ushr a0_ 1) 1431655765)) 2) 858993459)) (i_ushr (i_add (i_and (i_sub a0_ (i_and (i_ushr a0_ 1) 1431655765)) 858993459) (i_and (i_ushr (i_sub a0_ (i_and (i_ushr a0_ 1) 1431655765)) 2) 858993459)) 4)) 252645135) 8)) 16)) % 64)))
set_option maxHeartbeats 400000 in
theorem vc_7 {sc_ : Nat × (Nat → Int)} (a0_ : Int) (S0_ : sm_S) (hI_ : gi S0_) (ha0_ : 0 ≤ a0_ ∧ a0_ ≤ 7) : sm_T (mt_P sc_) 0 7 (0, [some (.inl a0_)], [], S0_) (fun ro9_ => ∃ u_ S1_, ro9_ = (.inl u_, S1_, 0) ∧ vq_7 a0_ S0_ u_ S1_) := by
  have hF_ : ai_fr (sx_W vw_7) S0_ S0_ := ai_fr_rf
  refine sm_T_go 3 (c1 := (3, [some (.inl a0_)], [.inl 1, .inl a0_, .inl a0_], S0_)) rfl ?_
  refine sm_T_bin (w := (i_ushr a0_ 1)) rfl rfl ?_ -- pc_ 3
  have bx1_ := i_ushr_n a0_ 1
  refine sm_T_nt (u := some (.inl 1431655765)) (S1 := S0_) rfl rfl rfl ?_
  refine sm_T_bin (w := (i_and (i_ushr a0_ 1) 1431655765)) rfl rfl ?_ -- pc_ 7
  first | have bx2_ := i_and_p (x_ := (i_ushr a0_ 1)) (y_ := 1431655765) (by omega) (by omega) | have bx2_ := i_and_y (i_ushr a0_ 1) (y_ := 1431655765) (by omega) | have bx2_ := i_and_x (x_ := (i_ushr a0_ 1)) 1431655765 (by omega) | have bx2_ := i_and_n (i_ushr a0_ 1) 1431655765
  refine sm_T_bin (w := (i_sub a0_ (i_and (i_ushr a0_ 1) 1431655765))) rfl rfl ?_ -- pc_ 8
  have bx3_ := i_sub_r a0_ (i_and (i_ushr a0_ 1) 1431655765)
  refine sm_T_go 2 (c1 := (11, [some (.inl (i_sub a0_ (i_and (i_ushr a0_ 1) 1431655765)))], [.inl (i_sub a0_ (i_and (i_ushr a0_ 1) 1431655765))], S0_)) rfl ?_
  refine sm_T_nt (u := some (.inl 858993459)) (S1 := S0_) rfl rfl rfl ?_
  refine sm_T_bin (w := (i_and (i_sub a0_ (i_and (i_ushr a0_ 1) 1431655765)) 858993459)) rfl rfl ?_ -- pc_ 14
  first | have bx4_ := i_and_p (x_ := (i_sub a0_ (i_and (i_ushr a0_ 1) 1431655765))) (y_ := 858993459) (by omega) (by omega) | have bx4_ := i_and_y (i_sub a0_ (i_and (i_ushr a0_ 1) 1431655765)) (y_ := 858993459) (by omega) | have bx4_ := i_and_x (x_ := (i_sub a0_ (i_and (i_ushr a0_ 1) 1431655765))) 858993459 (by omega) | have bx4_ := i_and_n (i_sub a0_ (i_and (i_ushr a0_ 1) 1431655765)) 858993459
  refine sm_T_go 2 (c1 := (17, [some (.inl (i_sub a0_ (i_and (i_ushr a0_ 1) 1431655765)))], [.inl 2, .inl (i_sub a0_ (i_and (i_ushr a0_ 1) 1431655765)), .inl (i_and (i_sub a0_ (i_and (i_ushr a0_ 1) 1431655765)) 858993459)], S0_)) rfl ?_
  refine sm_T_bin (w := (i_ushr (i_sub a0_ (i_and (i_ushr a0_ 1) 1431655765)) 2)) rfl rfl ?_ -- pc_ 17
  have bx5_ := i_ushr_n (i_sub a0_ (i_and (i_ushr a0_ 1) 1431655765)) 2
  refine sm_T_nt (u := some (.inl 858993459)) (S1 := S0_) rfl rfl rfl ?_
  refine sm_T_bin (w := (i_and (i_ushr (i_sub a0_ (i_and (i_ushr a0_ 1) 1431655765)) 2) 858993459)) rfl rfl ?_ -- pc_ 21
  first | have bx6_ := i_and_p (x_ := (i_ushr (i_sub a0_ (i_and (i_ushr a0_ 1) 1431655765)) 2)) (y_ := 858993459) (by omega) (by omega) | have bx6_ := i_and_y (i_ushr (i_sub a0_ (i_and (i_ushr a0_ 1) 1431655765)) 2) (y_ := 858993459) (by omega) | have bx6_ := i_and_x (x_ := (i_ushr (i_sub a0_ (i_and (i_ushr a0_ 1) 1431655765)) 2)) 858993459 (by omega) | have bx6_ := i_and_n (i_ushr (i_sub a0_ (i_and (i_ushr a0_ 1) 1431655765)) 2) 858993459
  refine sm_T_bin (w := (i_add (i_and (i_sub a0_ (i_and (i_ushr a0_ 1) 1431655765)) 858993459) (i_and (i_ushr (i_sub a0_ (i_and (i_ushr a0_ 1) 1431655765)) 2) 858993459))) rfl rfl ?_ -- pc_ 22
  have bx7_ := i_add_r (i_and (i_sub a0_ (i_and (i_ushr a0_ 1) 1431655765)) 858993459) (i_and (i_ushr (i_sub a0_ (i_and (i_ushr a0_ 1) 1431655765)) 2) 858993459)
  refine sm_T_go 4 (c1 := (27, [some (.inl (i_add (i_and (i_sub a0_ (i_and (i_ushr a0_ 1) 1431655765)) 858993459) (i_and (i_ushr (i_sub a0_ (i_and (i_ushr a0_ 1) 1431655765)) 2) 858993459)))], [.inl 4, .inl (i_add (i_and (i_sub a0_ (i_and (i_ushr a0_ 1) 1431655765)) 858993459) (i_and (i_ushr (i_sub a0_ (i_and (i_ushr a0_ 1) 1431655765)) 2) 858993459)), .inl (i_add (i_and (i_sub a0_ (i_and (i_ushr a0_ 1) 1431655765)) 858993459) (i_and (i_ushr (i_sub a0_ (i_and (i_ushr a0_ 1) 1431655765)) 2) 858993459))], S0_)) rfl ?_
  refine sm_T_bin (w := (i_ushr (i_add (i_and (i_sub a0_ (i_and (i_ushr a0_ 1) 1431655765)) 858993459) (i_and (i_ushr (i_sub a0_ (i_and (i_ushr a0_ 1) 1431655765)) 2) 858993459)) 4)) rfl rfl ?_ -- pc_ 27
  have bx8_ := i_ushr_n (i_add (i_and (i_sub a0_ (i_and (i_ushr a0_ 1) 1431655765)) 858993459) (i_and (i_ushr (i_sub a0_ (i_and (i_ushr a0_ 1) 1431655765)) 2) 858993459)) 4
  refine sm_T_bin (w := (i_add (i_add (i_and (i_sub a0_ (i_and (i_ushr a0_ 1) 1431655765)) 858993459) (i_and (i_ushr (i_sub a0_ (i_and (i_ushr a0_ 1) 1431655765)) 2) 858993459)) (i_ushr (i_add (i_and (i_sub a0_ (i_and (i_ushr a0_ 1) 1431655765)) 858993459) (i_and (i_ushr (i_sub a0_ (i_and (i_ushr a0_ 1) 1431655765)) 2) 858993459)) 4))) rfl rfl ?_ -- pc_ 28
  have bx9_ := i_add_r (i_add (i_and (i_sub a0_ (i_and (i_ushr a0_ 1) 1431655765)) 858993459) (i_and (i_ushr (i_sub a0_ (i_and (i_ushr a0_ 1) 1431655765)) 2) 858993459)) (i_ushr (i_add (i_and (i_sub a0_ (i_and (i_ushr a0_ 1) 1431655765)) 858993459) (i_and (i_ushr (i_sub a0_ (i_and (i_ushr a0_ 1) 1431655765)) 2) 858993459)) 4)
  refine sm_T_nt (u := some (.inl 252645135)) (S1 := S0_) rfl rfl rfl ?_
  refine sm_T_bin (w := (i_and (i_add (i_add (i_and (i_sub a0_ (i_and (i_ushr a0_ 1) 1431655765)) 858993459) (i_and (i_ushr (i_sub a0_ (i_and (i_ushr a0_ 1) 1431655765)) 2) 858993459)) (i_ushr (i_add (i_and (i_sub a0_ (i_and (i_ushr a0_ 1) 1431655765)) 858993459) (i_and (i_ushr (i_sub a0_ (i_and (i_ushr a0_ 1) 1431655765)) 2) 858993459)) 4)) 252645135)) rfl rfl ?_ -- pc_ 32
  first | have bx10_ := i_and_p (x_ := (i_add (i_add (i_and (i_sub a0_ (i_and (i_ushr a0_ 1) 1431655765)) 858993459) (i_and (i_ushr (i_sub a0_ (i_and (i_ushr a0_ 1) 1431655765)) 2) 858993459)) (i_ushr (i_add (i_and (i_sub a0_ (i_and (i_ushr a0_ 1) 1431655765)) 858993459) (i_and (i_ushr (i_sub a0_ (i_and (i_ushr a0_ 1) 1431655765)) 2) 858993459)) 4))) (y_ := 252645135) (by omega) (by omega) | have bx10_ := i_and_y (i_add (i_add (i_and (i_sub a0_ (i_and (i_ushr a0_ 1) 1431655765)) 858993459) (i_and (i_ushr (i_sub a0_ (i_and (i_ushr a0_ 1) 1431655765)) 2) 858993459)) (i_ushr (i_add (i_and (i_sub a0_ (i_and (i_ushr a0_ 1) 1431655765)) 858993459) (i_and (i_ushr (i_sub a0_ (i_and (i_ushr a0_ 1) 1431655765)) 2) 858993459)) 4)) (y_ := 252645135) (by omega) | have bx10_ := i_and_x (x_ := (i_add (i_add (i_and (i_sub a0_ (i_and (i_ushr a0_ 1) 1431655765)) 858993459) (i_and (i_ushr (i_sub a0_ (i_and (i_ushr a0_ 1) 1431655765)) 2) 858993459)) (i_ushr (i_add (i_and (i_sub a0_ (i_and (i_ushr a0_ 1) 1431655765)) 858993459) (i_and (i_ushr (i_sub a0_ (i_and (i_ushr a0_ 1) 1431655765)) 2) 858993459)) 4))) 252645135 (by omega) | have bx10_ := i_and_n (i_add (i_add (i_and (i_sub a0_ (i_and (i_ushr a0_ 1) 1431655765)) 858993459) (i_and (i_ushr (i_sub a0_ (i_and (i_ushr a0_ 1) 1431655765)) 2) 858993459)) (i_ushr (i_add (i_and (i_sub a0_ (i_and (i_ushr a0_ 1) 1431655765)) 858993459) (i_and (i_ushr (i_sub a0_ (i_and (i_ushr a0_ 1) 1431655765)) 2) 858993459)) 4)) 252645135
  refine sm_T_go 4 (c1 := (38, [some (.inl (i_and (i_add (i_add (i_and (i_sub a0_ (i_and (i_ushr a0_ 1) 1431655765)) 858993459) (i_and (i_ushr (i_sub a0_ (i_and (i_ushr a0_ 1) 1431655765)) 2) 858993459)) (i_ushr (i_add (i_and (i_sub a0_ (i_and (i_ushr a0_ 1) 1431655765)) 858993459) (i_and (i_ushr (i_sub a0_ (i_and (i_ushr a0_ 1) 1431655765)) 2) 858993459)) 4)) 252645135))], [.inl 8, .inl (i_and (i_add (i_add (i_and (i_sub a0_ (i_and (i_ushr a0_ 1) 1431655765)) 858993459) (i_and (i_ushr (i_sub a0_ (i_and (i_ushr a0_ 1) 1431655765)) 2) 858993459)) (i_ushr (i_add (i_and (i_sub a0_ (i_and (i_ushr a0_ 1) 1431655765)) 858993459) (i_and (i_ushr (i_sub a0_ (i_and (i_ushr a0_ 1) 1431655765)) 2) 858993459)) 4)) 252645135), .inl (i_and (i_add (i_add (i_and (i_sub a0_ (i_and (i_ushr a0_ 1) 1431655765)) 858993459) (i_and (i_ushr (i_sub a0_ (i_and (i_ushr a0_ 1) 1431655765)) 2) 858993459)) (i_ushr (i_add (i_and (i_sub a0_ (i_and (i_ushr a0_ 1) 1431655765)) 858993459) (i_and (i_ushr (i_sub a0_ (i_and (i_ushr a0_ 1) 1431655765)) 2) 858993459)) 4)) 252645135)], S0_)) rfl ?_
  refine sm_T_bin (w := (i_ushr (i_and (i_add (i_add (i_and (i_sub a0_ (i_and (i_ushr a0_ 1) 1431655765)) 858993459) (i_and (i_ushr (i_sub a0_ (i_and (i_ushr a0_ 1) 1431655765)) 2) 858993459)) (i_ushr (i_add (i_and (i_sub a0_ (i_and (i_ushr a0_ 1) 1431655765)) 858993459) (i_and (i_ushr (i_sub a0_ (i_and (i_ushr a0_ 1) 1431655765)) 2) 858993459)) 4)) 252645135) 8)) rfl rfl ?_ -- pc_ 38
  have bx11_ := i_ushr_n (i_and (i_add (i_add (i_and (i_sub a0_ (i_and (i_ushr a0_ 1) 1431655765)) 858993459) (i_and (i_ushr (i_sub a0_ (i_and (i_ushr a0_ 1) 1431655765)) 2) 858993459)) (i_ushr (i_add (i_and (i_sub a0_ (i_and (i_ushr a0_ 1) 1431655765)) 858993459) (i_and (i_ushr (i_sub a0_ (i_and (i_ushr a0_ 1) 1431655765)) 2) 858993459)) 4)) 252645135) 8
  refine sm_T_bin (w := (i_add (i_and (i_add (i_add (i_and (i_sub a0_ (i_and (i_ushr a0_ 1) 1431655765)) 858993459) (i_and (i_ushr (i_sub a0_ (i_and (i_ushr a0_ 1) 1431655765)) 2) 858993459)) (i_ushr (i_add (i_and (i_sub a0_ (i_and (i_ushr a0_ 1) 1431655765)) 858993459) (i_and (i_ushr (i_sub a0_ (i_and (i_ushr a0_ 1) 1431655765)) 2) 858993459)) 4)) 252645135) (i_ushr (i_and (i_add (i_add (i_and (i_sub a0_ (i_and (i_ushr a0_ 1) 1431655765)) 858993459) (i_and (i_ushr (i_sub a0_ (i_and (i_ushr a0_ 1) 1431655765)) 2) 858993459)) (i_ushr (i_add (i_and (i_sub a0_ (i_and (i_ushr a0_ 1) 1431655765)) 858993459) (i_and (i_ushr (i_sub a0_ (i_and (i_ushr a0_ 1) 1431655765)) 2) 858993459)) 4)) 252645135) 8))) rfl rfl ?_ -- pc_ 39
  have bx12_ := i_add_r (i_and (i_add (i_add (i_and (i_sub a0_ (i_and (i_ushr a0_ 1) 1431655765)) 858993459) (i_and (i_ushr (i_sub a0_ (i_and (i_ushr a0_ 1) 1431655765)) 2) 858993459)) (i_ushr (i_add (i_and (i_sub a0_ (i_and (i_ushr a0_ 1) 1431655765)) 858993459) (i_and (i_ushr (i_sub a0_ (i_and (i_ushr a0_ 1) 1431655765)) 2) 858993459)) 4)) 252645135) (i_ushr (i_and (i_add (i_add (i_and (i_sub a0_ (i_and (i_ushr a0_ 1) 1431655765)) 858993459) (i_and (i_ushr (i_sub a0_ (i_and (i_ushr a0_ 1) 1431655765)) 2) 858993459)) (i_ushr (i_add (i_and (i_sub a0_ (i_and (i_ushr a0_ 1) 1431655765)) 858993459) (i_and (i_ushr (i_sub a0_ (i_and (i_ushr a0_ 1) 1431655765)) 2) 858993459)) 4)) 252645135) 8)
  refine sm_T_go 4 (c1 := (45, [some (.inl (i_add (i_and (i_add (i_add (i_and (i_sub a0_ (i_and (i_ushr a0_ 1) 1431655765)) 858993459) (i_and (i_ushr (i_sub a0_ (i_and (i_ushr a0_ 1) 1431655765)) 2) 858993459)) (i_ushr (i_add (i_and (i_sub a0_ (i_and (i_ushr a0_ 1) 1431655765)) 858993459) (i_and (i_ushr (i_sub a0_ (i_and (i_ushr a0_ 1) 1431655765)) 2) 858993459)) 4)) 252645135) (i_ushr (i_and (i_add (i_add (i_and (i_sub a0_ (i_and (i_ushr a0_ 1) 1431655765)) 858993459) (i_and (i_ushr (i_sub a0_ (i_and (i_ushr a0_ 1) 1431655765)) 2) 858993459)) (i_ushr (i_add (i_and (i_sub a0_ (i_and (i_ushr a0_ 1) 1431655765)) 858993459) (i_and (i_ushr (i_sub a0_ (i_and (i_ushr a0_ 1) 1431655765)) 2) 858993459)) 4)) 252645135) 8)))], [.inl 16, .inl (i_add (i_and (i_add (i_add (i_and (i_sub a0_ (i_and (i_ushr a0_ 1) 1431655765)) 858993459) (i_and (i_ushr (i_sub a0_ (i_and (i_ushr a0_ 1) 1431655765)) 2) 858993459)) (i_ushr (i_add (i_and (i_sub a0_ (i_and (i_ushr a0_ 1) 1431655765)) 858993459) (i_and (i_ushr (i_sub a0_ (i_and (i_ushr a0_ 1) 1431655765)) 2) 858993459)) 4)) 252645135) (i_ushr (i_and (i_add (i_add (i_and (i_sub a0_ (i_and (i_ushr a0_ 1) 1431655765)) 858993459) (i_and (i_ushr (i_sub a0_ (i_and (i_ushr a0_ 1) 1431655765)) 2) 858993459)) (i_ushr (i_add (i_and (i_sub a0_ (i_and (i_ushr a0_ 1) 1431655765)) 858993459) (i_and (i_ushr (i_sub a0_ (i_and (i_ushr a0_ 1) 1431655765)) 2) 858993459)) 4)) 252645135) 8)), .inl (i_add (i_and (i_add (i_add (i_and (i_sub a0_ (i_and (i_ushr a0_ 1) 1431655765)) 858993459) (i_and (i_ushr (i_sub a0_ (i_and (i_ushr a0_ 1) 1431655765)) 2) 858993459)) (i_ushr (i_add (i_and (i_sub a0_ (i_and (i_ushr a0_ 1) 1431655765)) 858993459) (i_and (i_ushr (i_sub a0_ (i_and (i_ushr a0_ 1) 1431655765)) 2) 858993459)) 4)) 252645135) (i_ushr (i_and (i_add (i_add (i_and (i_sub a0_ (i_and (i_ushr a0_ 1) 1431655765)) 858993459) (i_and (i_ushr (i_sub a0_ (i_and (i_ushr a0_ 1) 1431655765)) 2) 858993459)) (i_ushr (i_add (i_and (i_sub a0_ (i_and (i_ushr a0_ 1) 1431655765)) 858993459) (i_and (i_ushr (i_sub a0_ (i_and (i_ushr a0_ 1) 1431655765)) 2) 858993459)) 4)) 252645135) 8))], S0_)) rfl ?_
  refine sm_T_bin (w := (i_ushr (i_add (i_and (i_add (i_add (i_and (i_sub a0_ (i_and (i_ushr a0_ 1) 1431655765)) 858993459) (i_and (i_ushr (i_sub a0_ (i_and (i_ushr a0_ 1) 1431655765)) 2) 858993459)) (i_ushr (i_add (i_and (i_sub a0_ (i_and (i_ushr a0_ 1) 1431655765)) 858993459) (i_and (i_ushr (i_sub a0_ (i_and (i_ushr a0_ 1) 1431655765)) 2) 858993459)) 4)) 252645135) (i_ushr (i_and (i_add (i_add (i_and (i_sub a0_ (i_and (i_ushr a0_ 1) 1431655765)) 858993459) (i_and (i_ushr (i_sub a0_ (i_and (i_ushr a0_ 1) 1431655765)) 2) 858993459)) (i_ushr (i_add (i_and (i_sub a0_ (i_and (i_ushr a0_ 1) 1431655765)) 858993459) (i_and (i_ushr (i_sub a0_ (i_and (i_ushr a0_ 1) 1431655765)) 2) 858993459)) 4)) 252645135) 8)) 16)) rfl rfl ?_ -- pc_ 45
  have bx13_ := i_ushr_n (i_add (i_and (i_add (i_add (i_and (i_sub a0_ (i_and (i_ushr a0_ 1) 1431655765)) 858993459) (i_and (i_ushr (i_sub a0_ (i_and (i_ushr a0_ 1) 1431655765)) 2) 858993459)) (i_ushr (i_add (i_and (i_sub a0_ (i_and (i_ushr a0_ 1) 1431655765)) 858993459) (i_and (i_ushr (i_sub a0_ (i_and (i_ushr a0_ 1) 1431655765)) 2) 858993459)) 4)) 252645135) (i_ushr (i_and (i_add (i_add (i_and (i_sub a0_ (i_and (i_ushr a0_ 1) 1431655765)) 858993459) (i_and (i_ushr (i_sub a0_ (i_and (i_ushr a0_ 1) 1431655765)) 2) 858993459)) (i_ushr (i_add (i_and (i_sub a0_ (i_and (i_ushr a0_ 1) 1431655765)) 858993459) (i_and (i_ushr (i_sub a0_ (i_and (i_ushr a0_ 1) 1431655765)) 2) 858993459)) 4)) 252645135) 8)) 16
  refine sm_T_bin (w := (i_add (i_add (i_and (i_add (i_add (i_and (i_sub a0_ (i_and (i_ushr a0_ 1) 1431655765)) 858993459) (i_and (i_ushr (i_sub a0_ (i_and (i_ushr a0_ 1) 1431655765)) 2) 858993459)) (i_ushr (i_add (i_and (i_sub a0_ (i_and (i_ushr a0_ 1) 1431655765)) 858993459) (i_and (i_ushr (i_sub a0_ (i_and (i_ushr a0_ 1) 1431655765)) 2) 858993459)) 4)) 252645135) (i_ushr (i_and (i_add (i_add (i_and (i_sub a0_ (i_and (i_ushr a0_ 1) 1431655765)) 858993459) (i_and (i_ushr (i_sub a0_ (i_and (i_ushr a0_ 1) 1431655765)) 2) 858993459)) (i_ushr (i_add (i_and (i_sub a0_ (i_and (i_ushr a0_ 1) 1431655765)) 858993459) (i_and (i_ushr (i_sub a0_ (i_and (i_ushr a0_ 1) 1431655765)) 2) 858993459)) 4)) 252645135) 8)) (i_ushr (i_add (i_and (i_add (i_add (i_and (i_sub a0_ (i_and (i_ushr a0_ 1) 1431655765)) 858993459) (i_and (i_ushr (i_sub a0_ (i_and (i_ushr a0_ 1) 1431655765)) 2) 858993459)) (i_ushr (i_add (i_and (i_sub a0_ (i_and (i_ushr a0_ 1) 1431655765)) 858993459) (i_and (i_ushr (i_sub a0_ (i_and (i_ushr a0_ 1) 1431655765)) 2) 858993459)) 4)) 252645135) (i_ushr (i_and (i_add (i_add (i_and (i_sub a0_ (i_and (i_ushr a0_ 1) 1431655765)) 858993459) (i_and (i_ushr (i_sub a0_ (i_and (i_ushr a0_ 1) 1431655765)) 2) 858993459)) (i_ushr (i_add (i_and (i_sub a0_ (i_and (i_ushr a0_ 1) 1431655765)) 858993459) (i_and (i_ushr (i_sub a0_ (i_and (i_ushr a0_ 1) 1431655765)) 2) 858993459)) 4)) 252645135) 8)) 16))) rfl rfl ?_ -- pc_ 46
  have bx14_ := i_add_r (i_add (i_and (i_add (i_add (i_and (i_sub a0_ (i_and (i_ushr a0_ 1) 1431655765)) 858993459) (i_and (i_ushr (i_sub a0_ (i_and (i_ushr a0_ 1) 1431655765)) 2) 858993459)) (i_ushr (i_add (i_and (i_sub a0_ (i_and (i_ushr a0_ 1) 1431655765)) 858993459) (i_and (i_ushr (i_sub a0_ (i_and (i_ushr a0_ 1) 1431655765)) 2) 858993459)) 4)) 252645135) (i_ushr (i_and (i_add (i_add (i_and (i_sub a0_ (i_and (i_ushr a0_ 1) 1431655765)) 858993459) (i_and (i_ushr (i_sub a0_ (i_and (i_ushr a0_ 1) 1431655765)) 2) 858993459)) (i_ushr (i_add (i_and (i_sub a0_ (i_and (i_ushr a0_ 1) 1431655765)) 858993459) (i_and (i_ushr (i_sub a0_ (i_and (i_ushr a0_ 1) 1431655765)) 2) 858993459)) 4)) 252645135) 8)) (i_ushr (i_add (i_and (i_add (i_add (i_and (i_sub a0_ (i_and (i_ushr a0_ 1) 1431655765)) 858993459) (i_and (i_ushr (i_sub a0_ (i_and (i_ushr a0_ 1) 1431655765)) 2) 858993459)) (i_ushr (i_add (i_and (i_sub a0_ (i_and (i_ushr a0_ 1) 1431655765)) 858993459) (i_and (i_ushr (i_sub a0_ (i_and (i_ushr a0_ 1) 1431655765)) 2) 858993459)) 4)) 252645135) (i_ushr (i_and (i_add (i_add (i_and (i_sub a0_ (i_and (i_ushr a0_ 1) 1431655765)) 858993459) (i_and (i_ushr (i_sub a0_ (i_and (i_ushr a0_ 1) 1431655765)) 2) 858993459)) (i_ushr (i_add (i_and (i_sub a0_ (i_and (i_ushr a0_ 1) 1431655765)) 858993459) (i_and (i_ushr (i_sub a0_ (i_and (i_ushr a0_ 1) 1431655765)) 2) 858993459)) 4)) 252645135) 8)) 16)
  refine sm_T_go 3 (c1 := (51, [some (.inl (i_add (i_add (i_and (i_add (i_add (i_and (i_sub a0_ (i_and (i_ushr a0_ 1) 1431655765)) 858993459) (i_and (i_ushr (i_sub a0_ (i_and (i_ushr a0_ 1) 1431655765)) 2) 858993459)) (i_ushr (i_add (i_and (i_sub a0_ (i_and (i_ushr a0_ 1) 1431655765)) 858993459) (i_and (i_ushr (i_sub a0_ (i_and (i_ushr a0_ 1) 1431655765)) 2) 858993459)) 4)) 252645135) (i_ushr (i_and (i_add (i_add (i_and (i_sub a0_ (i_and (i_ushr a0_ 1) 1431655765)) 858993459) (i_and (i_ushr (i_sub a0_ (i_and (i_ushr a0_ 1) 1431655765)) 2) 858993459)) (i_ushr (i_add (i_and (i_sub a0_ (i_and (i_ushr a0_ 1) 1431655765)) 858993459) (i_and (i_ushr (i_sub a0_ (i_and (i_ushr a0_ 1) 1431655765)) 2) 858993459)) 4)) 252645135) 8)) (i_ushr (i_add (i_and (i_add (i_add (i_and (i_sub a0_ (i_and (i_ushr a0_ 1) 1431655765)) 858993459) (i_and (i_ushr (i_sub a0_ (i_and (i_ushr a0_ 1) 1431655765)) 2) 858993459)) (i_ushr (i_add (i_and (i_sub a0_ (i_and (i_ushr a0_ 1) 1431655765)) 858993459) (i_and (i_ushr (i_sub a0_ (i_and (i_ushr a0_ 1) 1431655765)) 2) 858993459)) 4)) 252645135) (i_ushr (i_and (i_add (i_add (i_and (i_sub a0_ (i_and (i_ushr a0_ 1) 1431655765)) 858993459) (i_and (i_ushr (i_sub a0_ (i_and (i_ushr a0_ 1) 1431655765)) 2) 858993459)) (i_ushr (i_add (i_and (i_sub a0_ (i_and (i_ushr a0_ 1) 1431655765)) 858993459) (i_and (i_ushr (i_sub a0_ (i_and (i_ushr a0_ 1) 1431655765)) 2) 858993459)) 4)) 252645135) 8)) 16)))], [.inl 63, .inl (i_add (i_add (i_and (i_add (i_add (i_and (i_sub a0_ (i_and (i_ushr a0_ 1) 1431655765)) 858993459) (i_and (i_ushr (i_sub a0_ (i_and (i_ushr a0_ 1) 1431655765)) 2) 858993459)) (i_ushr (i_add (i_and (i_sub a0_ (i_and (i_ushr a0_ 1) 1431655765)) 858993459) (i_and (i_ushr (i_sub a0_ (i_and (i_ushr a0_ 1) 1431655765)) 2) 858993459)) 4)) 252645135) (i_ushr (i_and (i_add (i_add (i_and (i_sub a0_ (i_and (i_ushr a0_ 1) 1431655765)) 858993459) (i_and (i_ushr (i_sub a0_ (i_and (i_ushr a0_ 1) 1431655765)) 2) 858993459)) (i_ushr (i_add (i_and (i_sub a0_ (i_and (i_ushr a0_ 1) 1431655765)) 858993459) (i_and (i_ushr (i_sub a0_ (i_and (i_ushr a0_ 1) 1431655765)) 2) 858993459)) 4)) 252645135) 8)) (i_ushr (i_add (i_and (i_add (i_add (i_and (i_sub a0_ (i_and (i_ushr a0_ 1) 1431655765)) 858993459) (i_and (i_ushr (i_sub a0_ (i_and (i_ushr a0_ 1) 1431655765)) 2) 858993459)) (i_ushr (i_add (i_and (i_sub a0_ (i_and (i_ushr a0_ 1) 1431655765)) 858993459) (i_and (i_ushr (i_sub a0_ (i_and (i_ushr a0_ 1) 1431655765)) 2) 858993459)) 4)) 252645135) (i_ushr (i_and (i_add (i_add (i_and (i_sub a0_ (i_and (i_ushr a0_ 1) 1431655765)) 858993459) (i_and (i_ushr (i_sub a0_ (i_and (i_ushr a0_ 1) 1431655765)) 2) 858993459)) (i_ushr (i_add (i_and (i_sub a0_ (i_and (i_ushr a0_ 1) 1431655765)) 858993459) (i_and (i_ushr (i_sub a0_ (i_and (i_ushr a0_ 1) 1431655765)) 2) 858993459)) 4)) 252645135) 8)) 16))], S0_)) rfl ?_
  refine sm_T_bin (w := ((i_add (i_add (i_and (i_add (i_add (i_and (i_sub a0_ (i_and (i_ushr a0_ 1) 1431655765)) 858993459) (i_and (i_ushr (i_sub a0_ (i_and (i_ushr a0_ 1) 1431655765)) 2) 858993459)) (i_ushr (i_add (i_and (i_sub a0_ (i_and (i_ushr a0_ 1) 1431655765)) 858993459) (i_and (i_ushr (i_sub a0_ (i_and (i_ushr a0_ 1) 1431655765)) 2) 858993459)) 4)) 252645135) (i_ushr (i_and (i_add (i_add (i_and (i_sub a0_ (i_and (i_ushr a0_ 1) 1431655765)) 858993459) (i_and (i_ushr (i_sub a0_ (i_and (i_ushr a0_ 1) 1431655765)) 2) 858993459)) (i_ushr (i_add (i_and (i_sub a0_ (i_and (i_ushr a0_ 1) 1431655765)) 858993459) (i_and (i_ushr (i_sub a0_ (i_and (i_ushr a0_ 1) 1431655765)) 2) 858993459)) 4)) 252645135) 8)) (i_ushr (i_add (i_and (i_add (i_add (i_and (i_sub a0_ (i_and (i_ushr a0_ 1) 1431655765)) 858993459) (i_and (i_ushr (i_sub a0_ (i_and (i_ushr a0_ 1) 1431655765)) 2) 858993459)) (i_ushr (i_add (i_and (i_sub a0_ (i_and (i_ushr a0_ 1) 1431655765)) 858993459) (i_and (i_ushr (i_sub a0_ (i_and (i_ushr a0_ 1) 1431655765)) 2) 858993459)) 4)) 252645135) (i_ushr (i_and (i_add (i_add (i_and (i_sub a0_ (i_and (i_ushr a0_ 1) 1431655765)) 858993459) (i_and (i_ushr (i_sub a0_ (i_and (i_ushr a0_ 1) 1431655765)) 2) 858993459)) (i_ushr (i_add (i_and (i_sub a0_ (i_and (i_ushr a0_ 1) 1431655765)) 858993459) (i_and (i_ushr (i_sub a0_ (i_and (i_ushr a0_ 1) 1431655765)) 2) 858993459)) 4)) 252645135) 8)) 16)) % 64)) rfl (bi_msk (k := 6) (by decide)) ?_ -- pc_ 51
  refine sm_T_ri rfl ⟨_, _, rfl, rfl, _, rfl, ?_⟩
  first | (refine ⟨⟨?_, ?_⟩, rfl⟩ <;> omega) | omega | (refine ⟨by omega, ?_⟩; omega)
end
/-! 99.zkag -/
section
/-! Board.countWire -/
def vw_30 : sx_Wl := ([], [], [])
def vq_30 (a1_ : Int) (a2_ : Int) (ii_ : Nat) (S0_ : sm_S) (u_ : Option sm_V) (S1_ : sm_S) : Prop := S0_ = S1_ ∧ ∃ v_ : Int, u_ = some (.inl v_) ∧ (True)
set_option maxHeartbeats 400000 in
theorem vl_30 {sc_ : Nat × (Nat → Int)} (a1_ : Int) (a2_ : Int) (ii_ : Nat) (S0_ : sm_S) (h2_ : 0 ≤ a2_ ∧ a2_ ≤ 2) : ∀ nn_ : Nat, (∀ (ct : Int) (k_ : Int) (S_ : sm_S), gi S_ → ai_fr (sx_W vw_30) S0_ S_ → ((0 ≤ k_ ∧ k_ ≤ 4712 ∧ 0 ≤ ct ∧ ct ≤ 63 * k_) ∧ (S_ = S0_) ∧ True) → ((5000 - k_).toNat) < nn_ → sm_T (mt_P sc_) 1 30 (5, [some (.inr (.inr (some (0, ii_)))), some (.inl a1_), some (.inl a2_), some (.inl ct), some (.inl k_)], [], S_) (fun ro9_ => ∃ u_ S1_, ro9_ = (.inl u_, S1_, 0) ∧ vq_30 a1_ a2_ ii_ S0_ u_ S1_)) := by
  intro nn_
  induction nn_ with
  | zero => exact fun _ _ _ _ _ _ h_ => absurd h_ (Nat.not_lt_zero _)
  | succ nn_ ih_ =>
    rintro ct k_ S_ hI_ hF_ ⟨h0_, hS_, -⟩ hm_
    refine sm_T_go 2 (c1 := (8, [some (.inr (.inr (some (0, ii_)))), some (.inl a1_), some (.inl a2_), some (.inl ct), some (.inl k_)], [.inr (.inr (some (0, ii_))), .inl k_], S_)) rfl ?_
    refine sm_T_cal (d1 := 0) (Q1 := vq_16 ii_ S_) rfl rfl (by decide) (vc_16 ii_ S_ hI_ ) (fun u_ Sx1_ px4_ => ?_)
    obtain ⟨rfl, vx6_, rfl, px4_⟩ := px4_
    have p9_ := px4_
    refine sm_T_br (a := 3) (z := 58) rfl (fun cx7_ => ?_) (fun cx7_ => ?_)
    · have cx7_ : vx6_ ≤ k_ := of_decide_eq_true cx7_
      refine sm_T_go 1 (c1 := (70, [some (.inr (.inr (some (0, ii_)))), some (.inl a1_), some (.inl a2_), some (.inl ct), some (.inl k_)], [.inl ct], S_)) rfl ?_
      refine sm_T_ri rfl ⟨_, _, rfl, (by first | rfl | exact hS_.symm), _, rfl, ?_⟩
      trivial
    · have cx7_ : ¬ (vx6_ ≤ k_) := of_decide_eq_false cx7_
      refine sm_T_go 3 (c1 := (20, [some (.inr (.inr (some (0, ii_)))), some (.inl a1_), some (.inl a2_), some (.inl ct), some (.inl k_)], [.inl k_, .inr (.inr (some (22, (0 + ii_))))], S_)) rfl ?_
      refine sm_T_iald (n := 4712) rfl rfl (by omega) (by omega) ?_
      have bx8_ : (-1) ≤ S_.2.2.1 22 (0 + ii_) k_.toNat ∧ S_.2.2.1 22 (0 + ii_) k_.toNat ≤ 161 := hI_.2 22 (0 + ii_) _
      refine sm_T_go 1 (c1 := (22, [some (.inr (.inr (some (0, ii_)))), some (.inl a1_), some (.inl a2_), some (.inl ct), some (.inl k_)], [.inl a1_, .inl (S_.2.2.1 22 (0 + ii_) k_.toNat)], S_)) rfl ?_
      refine sm_T_br (a := 1) (z := 41) rfl (fun cx9_ => ?_) (fun cx9_ => ?_)
      · have cx9_ : (S_.2.2.1 22 (0 + ii_) k_.toNat) ≠ a1_ := of_decide_eq_true cx9_
        refine sm_T_inc (a := 4) (z := 1) (v := k_) (w := k_ + 1) rfl rfl (by omega) (by omega) (by omega) ?_ -- pc_ 63
        refine sm_T_go 1 (c1 := (5, [some (.inr (.inr (some (0, ii_)))), some (.inl a1_), some (.inl a2_), some (.inl ct), some (.inl (k_ + 1))], [], S_)) rfl ?_
        refine ih_ ct (k_ + 1) S_ hI_ hF_ ⟨?_, ?_, trivial⟩ ?_
        · omega
        · first | rfl | exact hS_
        · omega
      · have cx9_ : ¬ ((S_.2.2.1 22 (0 + ii_) k_.toNat) ≠ a1_) := of_decide_eq_false cx9_
        refine sm_T_go 2 (c1 := (27, [some (.inr (.inr (some (0, ii_)))), some (.inl a1_), some (.inl a2_), some (.inl ct), some (.inl k_)], [.inl a2_, .inl ct], S_)) rfl ?_
        refine sm_T_b0 (a := 1) (z := 7) rfl (fun cx10_ => ?_) (fun cx10_ => ?_)
        · have cx10_ : a2_ ≠ 0 := of_decide_eq_true cx10_
          refine sm_T_go 2 (c1 := (36, [some (.inr (.inr (some (0, ii_)))), some (.inl a1_), some (.inl a2_), some (.inl ct), some (.inl k_)], [.inl 1, .inl a2_, .inl ct], S_)) rfl ?_
          refine sm_T_br (a := 1) (z := 13) rfl (fun cx11_ => ?_) (fun cx11_ => ?_)
          · have cx11_ : a2_ ≠ 1 := of_decide_eq_true cx11_
            refine sm_T_go 3 (c1 := (55, [some (.inr (.inr (some (0, ii_)))), some (.inl a1_), some (.inl a2_), some (.inl ct), some (.inl k_)], [.inl k_, .inr (.inr (some (23, (0 + ii_)))), .inl ct], S_)) rfl ?_
            refine sm_T_iald (n := 4712) rfl rfl (by omega) (by omega) ?_
            have bx12_ : 0 ≤ S_.2.2.1 23 (0 + ii_) k_.toNat ∧ S_.2.2.1 23 (0 + ii_) k_.toNat ≤ 7 := hI_.2 23 (0 + ii_) _
            refine sm_T_go 1 (c1 := (57, [some (.inr (.inr (some (0, ii_)))), some (.inl a1_), some (.inl a2_), some (.inl ct), some (.inl k_)], [.inl 4, .inl (S_.2.2.1 23 (0 + ii_) k_.toNat), .inl ct], S_)) rfl ?_
            refine sm_T_bin (w := (i_and (S_.2.2.1 23 (0 + ii_) k_.toNat) 4)) rfl rfl ?_ -- pc_ 57
            first | have bx13_ := i_and_p (x_ := (S_.2.2.1 23 (0 + ii_) k_.toNat)) (y_ := 4) (by omega) (by omega) | have bx13_ := i_and_y (S_.2.2.1 23 (0 + ii_) k_.toNat) (y_ := 4) (by omega) | have bx13_ := i_and_x (x_ := (S_.2.2.1 23 (0 + ii_) k_.toNat)) 4 (by omega) | have bx13_ := i_and_n (S_.2.2.1 23 (0 + ii_) k_.toNat) 4
            refine sm_T_cal (d1 := 0) (Q1 := vq_7 (i_and (S_.2.2.1 23 (0 + ii_) k_.toNat) 4) S_) rfl rfl (by decide) (vc_7 (i_and (S_.2.2.1 23 (0 + ii_) k_.toNat) 4) S_ hI_ (by omega)) (fun u_ Sx14_ px17_ => ?_)
            obtain ⟨rfl, vx19_, rfl, px17_⟩ := px17_
            have b9_ := px17_
            refine sm_T_bin (w := ct + vx19_) rfl (bi_add (by omega) (by omega) (by omega)) ?_ -- pc_ 61
            refine sm_T_go 1 (c1 := (63, [some (.inr (.inr (some (0, ii_)))), some (.inl a1_), some (.inl a2_), some (.inl (ct + vx19_)), some (.inl k_)], [], S_)) rfl ?_
            refine sm_T_inc (a := 4) (z := 1) (v := k_) (w := k_ + 1) rfl rfl (by omega) (by omega) (by omega) ?_ -- pc_ 63
            refine sm_T_go 1 (c1 := (5, [some (.inr (.inr (some (0, ii_)))), some (.inl a1_), some (.inl a2_), some (.inl (ct + vx19_)), some (.inl (k_ + 1))], [], S_)) rfl ?_
            refine ih_ (ct + vx19_) (k_ + 1) S_ hI_ hF_ ⟨?_, ?_, trivial⟩ ?_
            · omega
            · first | rfl | exact hS_
            · omega
          · have cx11_ : ¬ (a2_ ≠ 1) := of_decide_eq_false cx11_
            refine sm_T_go 3 (c1 := (45, [some (.inr (.inr (some (0, ii_)))), some (.inl a1_), some (.inl a2_), some (.inl ct), some (.inl k_)], [.inl k_, .inr (.inr (some (23, (0 + ii_)))), .inl ct], S_)) rfl ?_
            refine sm_T_iald (n := 4712) rfl rfl (by omega) (by omega) ?_
            have bx20_ : 0 ≤ S_.2.2.1 23 (0 + ii_) k_.toNat ∧ S_.2.2.1 23 (0 + ii_) k_.toNat ≤ 7 := hI_.2 23 (0 + ii_) _
            refine sm_T_go 1 (c1 := (58, [some (.inr (.inr (some (0, ii_)))), some (.inl a1_), some (.inl a2_), some (.inl ct), some (.inl k_)], [.inl (S_.2.2.1 23 (0 + ii_) k_.toNat), .inl ct], S_)) rfl ?_
            refine sm_T_cal (d1 := 0) (Q1 := vq_7 (S_.2.2.1 23 (0 + ii_) k_.toNat) S_) rfl rfl (by decide) (vc_7 (S_.2.2.1 23 (0 + ii_) k_.toNat) S_ hI_ (by omega)) (fun u_ Sx21_ px24_ => ?_)
            obtain ⟨rfl, vx26_, rfl, px24_⟩ := px24_
            have b9_ := px24_
            refine sm_T_bin (w := ct + vx26_) rfl (bi_add (by omega) (by omega) (by omega)) ?_ -- pc_ 61
            refine sm_T_go 1 (c1 := (63, [some (.inr (.inr (some (0, ii_)))), some (.inl a1_), some (.inl a2_), some (.inl (ct + vx26_)), some (.inl k_)], [], S_)) rfl ?_
            refine sm_T_inc (a := 4) (z := 1) (v := k_) (w := k_ + 1) rfl rfl (by omega) (by omega) (by omega) ?_ -- pc_ 63
            refine sm_T_go 1 (c1 := (5, [some (.inr (.inr (some (0, ii_)))), some (.inl a1_), some (.inl a2_), some (.inl (ct + vx26_)), some (.inl (k_ + 1))], [], S_)) rfl ?_
            refine ih_ (ct + vx26_) (k_ + 1) S_ hI_ hF_ ⟨?_, ?_, trivial⟩ ?_
            · omega
            · first | rfl | exact hS_
            · omega
        · have cx10_ : ¬ (a2_ ≠ 0) := of_decide_eq_false cx10_
          refine sm_T_go 2 (c1 := (61, [some (.inr (.inr (some (0, ii_)))), some (.inl a1_), some (.inl a2_), some (.inl ct), some (.inl k_)], [.inl 1, .inl ct], S_)) rfl ?_
          refine sm_T_bin (w := ct + 1) rfl (bi_add (by omega) (by omega) (by omega)) ?_ -- pc_ 61
          refine sm_T_go 1 (c1 := (63, [some (.inr (.inr (some (0, ii_)))), some (.inl a1_), some (.inl a2_), some (.inl (ct + 1)), some (.inl k_)], [], S_)) rfl ?_
          refine sm_T_inc (a := 4) (z := 1) (v := k_) (w := k_ + 1) rfl rfl (by omega) (by omega) (by omega) ?_ -- pc_ 63
          refine sm_T_go 1 (c1 := (5, [some (.inr (.inr (some (0, ii_)))), some (.inl a1_), some (.inl a2_), some (.inl (ct + 1)), some (.inl (k_ + 1))], [], S_)) rfl ?_
          refine ih_ (ct + 1) (k_ + 1) S_ hI_ hF_ ⟨?_, ?_, trivial⟩ ?_
          · omega
          · first | rfl | exact hS_
          · omega
set_option maxHeartbeats 400000 in
theorem vc_30 {sc_ : Nat × (Nat → Int)} (a1_ : Int) (a2_ : Int) (ii_ : Nat) (S0_ : sm_S) (hI_ : gi S0_) (h2_ : 0 ≤ a2_ ∧ a2_ ≤ 2) : sm_T (mt_P sc_) 1 30 (0, [some (.inr (.inr (some (0, ii_)))), some (.inl a1_), some (.inl a2_), none, none], [], S0_) (fun ro9_ => ∃ u_ S1_, ro9_ = (.inl u_, S1_, 0) ∧ vq_30 a1_ a2_ ii_ S0_ u_ S1_) := by
  have hF_ : ai_fr (sx_W vw_30) S0_ S0_ := ai_fr_rf
  refine sm_T_go 4 (c1 := (5, [some (.inr (.inr (some (0, ii_)))), some (.inl a1_), some (.inl a2_), some (.inl 0), some (.inl 0)], [], S0_)) rfl ?_
  refine (vl_30 a1_ a2_ ii_ S0_ h2_ _) 0 0 S0_ hI_ hF_ ⟨?_, ?_, trivial⟩ (Nat.lt_succ_self _)
  · omega
  · first | rfl | exact hS_
end
/-! 99.zkba -/
section
/-! chips and boards begun; written by wip/p55/gen/vg -/
/-! Library.copyOf -/
def vw_90 : sx_Wl := ([(5, 1), (5, 2)], [55, 56, 57, 58], [])
def vq_90 (ii_ : Nat) (ll_ : Nat) (S0_ : sm_S) (u_ : Option sm_V) (S1_ : sm_S) : Prop := u_ = none ∧ gi S1_ ∧ ai_fr (sx_W vw_90) S0_ S1_ ∧ (cdf ii_ S0_ S1_ ∧ (True))
set_option maxHeartbeats 400000 in
theorem vc_90 {sc_ : Nat × (Nat → Int)} (ii_ : Nat) (ll_ : Nat) (S0_ : sm_S) (hI_ : gi S0_)  : sm_T (mt_P sc_) 0 90 (0, [some (.inr (.inr (some (5, (3 + ii_))))), some (.inr (.inr (some (5, ll_))))], [], S0_) (fun ro9_ => ∃ u_ S1_, ro9_ = (.inl u_, S1_, 0) ∧ vq_90 ii_ ll_ S0_ u_ S1_) := by
  have hF_ : ai_fr (sx_W vw_90) S0_ S0_ := ai_fr_rf
  have hC_ : cdf ii_ S0_ S0_ := cdf_rf
  have bx1_ : 0 ≤ S0_.1 5 ll_ 1 ∧ S0_.1 5 ll_ 1 ≤ 12 := hI_.1 5 ll_ 1 rfl
  have hIx2_ : gi (sm_pI S0_ 5 (3 + ii_) 1 (S0_.1 5 ll_ 1)) := gi_pI hI_ (show 0 ≤ (S0_.1 5 ll_ 1) ∧ (S0_.1 5 ll_ 1) ≤ 12 from ⟨by omega, by omega⟩)
  have hFx3_ : ai_fr (sx_W vw_90) S0_ (sm_pI S0_ 5 (3 + ii_) 1 (S0_.1 5 ll_ 1)) := ai_fr_tr hF_ (ai_fr_pI rfl)
  have hCx4_ : cdf ii_ S0_ (sm_pI S0_ 5 (3 + ii_) 1 (S0_.1 5 ll_ 1)) := cdf_pI hC_ (Or.inr (by rw [show cof 5 = 3 from rfl] <;> omega))
  have bx5_ : (-1) ≤ S0_.1 5 ll_ 2 ∧ S0_.1 5 ll_ 2 ≤ 11 := hI_.1 5 ll_ 2 rfl
  have ex6_ : (sm_pI S0_ 5 (3 + ii_) 1 (S0_.1 5 ll_ 1)).1 5 ll_ 2 = (S0_.1 5 ll_ 2) := by (try simp only [rf_eq, rf_nk, rf_nt, rd_fa, rd_af, ne_eq, Nat.reduceEqDiff, not_false_eq_true])
  have hIx7_ : gi (sm_pI (sm_pI S0_ 5 (3 + ii_) 1 (S0_.1 5 ll_ 1)) 5 (3 + ii_) 2 ((sm_pI S0_ 5 (3 + ii_) 1 (S0_.1 5 ll_ 1)).1 5 ll_ 2)) := gi_pI hIx2_ (show (-1) ≤ ((sm_pI S0_ 5 (3 + ii_) 1 (S0_.1 5 ll_ 1)).1 5 ll_ 2) ∧ ((sm_pI S0_ 5 (3 + ii_) 1 (S0_.1 5 ll_ 1)).1 5 ll_ 2) ≤ 11 from ⟨by omega, by omega⟩)
  have hFx8_ : ai_fr (sx_W vw_90) S0_ (sm_pI (sm_pI S0_ 5 (3 + ii_) 1 (S0_.1 5 ll_ 1)) 5 (3 + ii_) 2 ((sm_pI S0_ 5 (3 + ii_) 1 (S0_.1 5 ll_ 1)).1 5 ll_ 2)) := ai_fr_tr hFx3_ (ai_fr_pI rfl)
  have hCx9_ : cdf ii_ S0_ (sm_pI (sm_pI S0_ 5 (3 + ii_) 1 (S0_.1 5 ll_ 1)) 5 (3 + ii_) 2 ((sm_pI S0_ 5 (3 + ii_) 1 (S0_.1 5 ll_ 1)).1 5 ll_ 2)) := cdf_pI hCx4_ (Or.inr (by rw [show cof 5 = 3 from rfl] <;> omega))
  refine sm_T_go 15 (c1 := (28, [some (.inr (.inr (some (5, (3 + ii_))))), some (.inr (.inr (some (5, ll_))))], [.inl 12, .inl 0, .inr (.inr (some (55, (0 + (3 + ii_))))), .inl 0, .inr (.inr (some (55, (0 + ll_))))], sm_pI (sm_pI S0_ 5 (3 + ii_) 1 (S0_.1 5 ll_ 1)) 5 (3 + ii_) 2 ((sm_pI S0_ 5 (3 + ii_) 1 (S0_.1 5 ll_ 1)).1 5 ll_ 2))) rfl ?_
  refine sm_T_nt (u := none) (S1 := sm_acI (sm_pI (sm_pI S0_ 5 (3 + ii_) 1 (S0_.1 5 ll_ 1)) 5 (3 + ii_) 2 ((sm_pI S0_ 5 (3 + ii_) 1 (S0_.1 5 ll_ 1)).1 5 ll_ 2)) 55 (0 + ll_) 55 (0 + (3 + ii_)) (0 : Int).toNat (0 : Int).toNat (12 : Int).toNat) rfl rfl (nt_acI (sc := sc_) (t := 55) (i := (0 + ll_)) (t' := 55) (i' := (0 + (3 + ii_))) (x := 0) (y := 0) (m := 12) (n := 12) (n1 := 12) rfl rfl (by omega) (by omega) (by omega) (by omega) (by omega)) ?_
  have hIx10_ : gi (sm_acI (sm_pI (sm_pI S0_ 5 (3 + ii_) 1 (S0_.1 5 ll_ 1)) 5 (3 + ii_) 2 ((sm_pI S0_ 5 (3 + ii_) 1 (S0_.1 5 ll_ 1)).1 5 ll_ 2)) 55 (0 + ll_) 55 (0 + (3 + ii_)) (0 : Int).toNat (0 : Int).toNat (12 : Int).toNat) := gi_ac hIx7_ (by decide) (by decide)
  have hFx11_ : ai_fr (sx_W vw_90) S0_ (sm_acI (sm_pI (sm_pI S0_ 5 (3 + ii_) 1 (S0_.1 5 ll_ 1)) 5 (3 + ii_) 2 ((sm_pI S0_ 5 (3 + ii_) 1 (S0_.1 5 ll_ 1)).1 5 ll_ 2)) 55 (0 + ll_) 55 (0 + (3 + ii_)) (0 : Int).toNat (0 : Int).toNat (12 : Int).toNat) := ai_fr_tr hFx8_ (fr_ac rfl)
  have hCx12_ : cdf ii_ S0_ (sm_acI (sm_pI (sm_pI S0_ 5 (3 + ii_) 1 (S0_.1 5 ll_ 1)) 5 (3 + ii_) 2 ((sm_pI S0_ 5 (3 + ii_) 1 (S0_.1 5 ll_ 1)).1 5 ll_ 2)) 55 (0 + ll_) 55 (0 + (3 + ii_)) (0 : Int).toNat (0 : Int).toNat (12 : Int).toNat) := cdf_ac hCx9_ (Or.inr (by rw [show cof 55 = 3 from rfl] <;> omega))
  refine sm_T_go 7 (c1 := (43, [some (.inr (.inr (some (5, (3 + ii_))))), some (.inr (.inr (some (5, ll_))))], [.inl 12, .inl 0, .inr (.inr (some (56, (0 + (3 + ii_))))), .inl 0, .inr (.inr (some (56, (0 + ll_))))], sm_acI (sm_pI (sm_pI S0_ 5 (3 + ii_) 1 (S0_.1 5 ll_ 1)) 5 (3 + ii_) 2 ((sm_pI S0_ 5 (3 + ii_) 1 (S0_.1 5 ll_ 1)).1 5 ll_ 2)) 55 (0 + ll_) 55 (0 + (3 + ii_)) (0 : Int).toNat (0 : Int).toNat (12 : Int).toNat)) rfl ?_
  refine sm_T_nt (u := none) (S1 := sm_acI (sm_acI (sm_pI (sm_pI S0_ 5 (3 + ii_) 1 (S0_.1 5 ll_ 1)) 5 (3 + ii_) 2 ((sm_pI S0_ 5 (3 + ii_) 1 (S0_.1 5 ll_ 1)).1 5 ll_ 2)) 55 (0 + ll_) 55 (0 + (3 + ii_)) (0 : Int).toNat (0 : Int).toNat (12 : Int).toNat) 56 (0 + ll_) 56 (0 + (3 + ii_)) (0 : Int).toNat (0 : Int).toNat (12 : Int).toNat) rfl rfl (nt_acI (sc := sc_) (t := 56) (i := (0 + ll_)) (t' := 56) (i' := (0 + (3 + ii_))) (x := 0) (y := 0) (m := 12) (n := 12) (n1 := 12) rfl rfl (by omega) (by omega) (by omega) (by omega) (by omega)) ?_
  have hIx13_ : gi (sm_acI (sm_acI (sm_pI (sm_pI S0_ 5 (3 + ii_) 1 (S0_.1 5 ll_ 1)) 5 (3 + ii_) 2 ((sm_pI S0_ 5 (3 + ii_) 1 (S0_.1 5 ll_ 1)).1 5 ll_ 2)) 55 (0 + ll_) 55 (0 + (3 + ii_)) (0 : Int).toNat (0 : Int).toNat (12 : Int).toNat) 56 (0 + ll_) 56 (0 + (3 + ii_)) (0 : Int).toNat (0 : Int).toNat (12 : Int).toNat) := gi_ac hIx10_ (by decide) (by decide)
  have hFx14_ : ai_fr (sx_W vw_90) S0_ (sm_acI (sm_acI (sm_pI (sm_pI S0_ 5 (3 + ii_) 1 (S0_.1 5 ll_ 1)) 5 (3 + ii_) 2 ((sm_pI S0_ 5 (3 + ii_) 1 (S0_.1 5 ll_ 1)).1 5 ll_ 2)) 55 (0 + ll_) 55 (0 + (3 + ii_)) (0 : Int).toNat (0 : Int).toNat (12 : Int).toNat) 56 (0 + ll_) 56 (0 + (3 + ii_)) (0 : Int).toNat (0 : Int).toNat (12 : Int).toNat) := ai_fr_tr hFx11_ (fr_ac rfl)
  have hCx15_ : cdf ii_ S0_ (sm_acI (sm_acI (sm_pI (sm_pI S0_ 5 (3 + ii_) 1 (S0_.1 5 ll_ 1)) 5 (3 + ii_) 2 ((sm_pI S0_ 5 (3 + ii_) 1 (S0_.1 5 ll_ 1)).1 5 ll_ 2)) 55 (0 + ll_) 55 (0 + (3 + ii_)) (0 : Int).toNat (0 : Int).toNat (12 : Int).toNat) 56 (0 + ll_) 56 (0 + (3 + ii_)) (0 : Int).toNat (0 : Int).toNat (12 : Int).toNat) := cdf_ac hCx12_ (Or.inr (by rw [show cof 56 = 3 from rfl] <;> omega))
  refine sm_T_go 7 (c1 := (58, [some (.inr (.inr (some (5, (3 + ii_))))), some (.inr (.inr (some (5, ll_))))], [.inl 12, .inl 0, .inr (.inr (some (57, (0 + (3 + ii_))))), .inl 0, .inr (.inr (some (57, (0 + ll_))))], sm_acI (sm_acI (sm_pI (sm_pI S0_ 5 (3 + ii_) 1 (S0_.1 5 ll_ 1)) 5 (3 + ii_) 2 ((sm_pI S0_ 5 (3 + ii_) 1 (S0_.1 5 ll_ 1)).1 5 ll_ 2)) 55 (0 + ll_) 55 (0 + (3 + ii_)) (0 : Int).toNat (0 : Int).toNat (12 : Int).toNat) 56 (0 + ll_) 56 (0 + (3 + ii_)) (0 : Int).toNat (0 : Int).toNat (12 : Int).toNat)) rfl ?_
  refine sm_T_nt (u := none) (S1 := sm_acI (sm_acI (sm_acI (sm_pI (sm_pI S0_ 5 (3 + ii_) 1 (S0_.1 5 ll_ 1)) 5 (3 + ii_) 2 ((sm_pI S0_ 5 (3 + ii_) 1 (S0_.1 5 ll_ 1)).1 5 ll_ 2)) 55 (0 + ll_) 55 (0 + (3 + ii_)) (0 : Int).toNat (0 : Int).toNat (12 : Int).toNat) 56 (0 + ll_) 56 (0 + (3 + ii_)) (0 : Int).toNat (0 : Int).toNat (12 : Int).toNat) 57 (0 + ll_) 57 (0 + (3 + ii_)) (0 : Int).toNat (0 : Int).toNat (12 : Int).toNat) rfl rfl (nt_acI (sc := sc_) (t := 57) (i := (0 + ll_)) (t' := 57) (i' := (0 + (3 + ii_))) (x := 0) (y := 0) (m := 12) (n := 12) (n1 := 12) rfl rfl (by omega) (by omega) (by omega) (by omega) (by omega)) ?_
  have hIx16_ : gi (sm_acI (sm_acI (sm_acI (sm_pI (sm_pI S0_ 5 (3 + ii_) 1 (S0_.1 5 ll_ 1)) 5 (3 + ii_) 2 ((sm_pI S0_ 5 (3 + ii_) 1 (S0_.1 5 ll_ 1)).1 5 ll_ 2)) 55 (0 + ll_) 55 (0 + (3 + ii_)) (0 : Int).toNat (0 : Int).toNat (12 : Int).toNat) 56 (0 + ll_) 56 (0 + (3 + ii_)) (0 : Int).toNat (0 : Int).toNat (12 : Int).toNat) 57 (0 + ll_) 57 (0 + (3 + ii_)) (0 : Int).toNat (0 : Int).toNat (12 : Int).toNat) := gi_ac hIx13_ (by decide) (by decide)
  have hFx17_ : ai_fr (sx_W vw_90) S0_ (sm_acI (sm_acI (sm_acI (sm_pI (sm_pI S0_ 5 (3 + ii_) 1 (S0_.1 5 ll_ 1)) 5 (3 + ii_) 2 ((sm_pI S0_ 5 (3 + ii_) 1 (S0_.1 5 ll_ 1)).1 5 ll_ 2)) 55 (0 + ll_) 55 (0 + (3 + ii_)) (0 : Int).toNat (0 : Int).toNat (12 : Int).toNat) 56 (0 + ll_) 56 (0 + (3 + ii_)) (0 : Int).toNat (0 : Int).toNat (12 : Int).toNat) 57 (0 + ll_) 57 (0 + (3 + ii_)) (0 : Int).toNat (0 : Int).toNat (12 : Int).toNat) := ai_fr_tr hFx14_ (fr_ac rfl)
  have hCx18_ : cdf ii_ S0_ (sm_acI (sm_acI (sm_acI (sm_pI (sm_pI S0_ 5 (3 + ii_) 1 (S0_.1 5 ll_ 1)) 5 (3 + ii_) 2 ((sm_pI S0_ 5 (3 + ii_) 1 (S0_.1 5 ll_ 1)).1 5 ll_ 2)) 55 (0 + ll_) 55 (0 + (3 + ii_)) (0 : Int).toNat (0 : Int).toNat (12 : Int).toNat) 56 (0 + ll_) 56 (0 + (3 + ii_)) (0 : Int).toNat (0 : Int).toNat (12 : Int).toNat) 57 (0 + ll_) 57 (0 + (3 + ii_)) (0 : Int).toNat (0 : Int).toNat (12 : Int).toNat) := cdf_ac hCx15_ (Or.inr (by rw [show cof 57 = 3 from rfl] <;> omega))
  refine sm_T_go 7 (c1 := (73, [some (.inr (.inr (some (5, (3 + ii_))))), some (.inr (.inr (some (5, ll_))))], [.inl 12, .inl 0, .inr (.inr (some (58, (0 + (3 + ii_))))), .inl 0, .inr (.inr (some (58, (0 + ll_))))], sm_acI (sm_acI (sm_acI (sm_pI (sm_pI S0_ 5 (3 + ii_) 1 (S0_.1 5 ll_ 1)) 5 (3 + ii_) 2 ((sm_pI S0_ 5 (3 + ii_) 1 (S0_.1 5 ll_ 1)).1 5 ll_ 2)) 55 (0 + ll_) 55 (0 + (3 + ii_)) (0 : Int).toNat (0 : Int).toNat (12 : Int).toNat) 56 (0 + ll_) 56 (0 + (3 + ii_)) (0 : Int).toNat (0 : Int).toNat (12 : Int).toNat) 57 (0 + ll_) 57 (0 + (3 + ii_)) (0 : Int).toNat (0 : Int).toNat (12 : Int).toNat)) rfl ?_
  refine sm_T_nt (u := none) (S1 := sm_acI (sm_acI (sm_acI (sm_acI (sm_pI (sm_pI S0_ 5 (3 + ii_) 1 (S0_.1 5 ll_ 1)) 5 (3 + ii_) 2 ((sm_pI S0_ 5 (3 + ii_) 1 (S0_.1 5 ll_ 1)).1 5 ll_ 2)) 55 (0 + ll_) 55 (0 + (3 + ii_)) (0 : Int).toNat (0 : Int).toNat (12 : Int).toNat) 56 (0 + ll_) 56 (0 + (3 + ii_)) (0 : Int).toNat (0 : Int).toNat (12 : Int).toNat) 57 (0 + ll_) 57 (0 + (3 + ii_)) (0 : Int).toNat (0 : Int).toNat (12 : Int).toNat) 58 (0 + ll_) 58 (0 + (3 + ii_)) (0 : Int).toNat (0 : Int).toNat (12 : Int).toNat) rfl rfl (nt_acI (sc := sc_) (t := 58) (i := (0 + ll_)) (t' := 58) (i' := (0 + (3 + ii_))) (x := 0) (y := 0) (m := 12) (n := 12) (n1 := 12) rfl rfl (by omega) (by omega) (by omega) (by omega) (by omega)) ?_
  have hIx19_ : gi (sm_acI (sm_acI (sm_acI (sm_acI (sm_pI (sm_pI S0_ 5 (3 + ii_) 1 (S0_.1 5 ll_ 1)) 5 (3 + ii_) 2 ((sm_pI S0_ 5 (3 + ii_) 1 (S0_.1 5 ll_ 1)).1 5 ll_ 2)) 55 (0 + ll_) 55 (0 + (3 + ii_)) (0 : Int).toNat (0 : Int).toNat (12 : Int).toNat) 56 (0 + ll_) 56 (0 + (3 + ii_)) (0 : Int).toNat (0 : Int).toNat (12 : Int).toNat) 57 (0 + ll_) 57 (0 + (3 + ii_)) (0 : Int).toNat (0 : Int).toNat (12 : Int).toNat) 58 (0 + ll_) 58 (0 + (3 + ii_)) (0 : Int).toNat (0 : Int).toNat (12 : Int).toNat) := gi_ac hIx16_ (by decide) (by decide)
  have hFx20_ : ai_fr (sx_W vw_90) S0_ (sm_acI (sm_acI (sm_acI (sm_acI (sm_pI (sm_pI S0_ 5 (3 + ii_) 1 (S0_.1 5 ll_ 1)) 5 (3 + ii_) 2 ((sm_pI S0_ 5 (3 + ii_) 1 (S0_.1 5 ll_ 1)).1 5 ll_ 2)) 55 (0 + ll_) 55 (0 + (3 + ii_)) (0 : Int).toNat (0 : Int).toNat (12 : Int).toNat) 56 (0 + ll_) 56 (0 + (3 + ii_)) (0 : Int).toNat (0 : Int).toNat (12 : Int).toNat) 57 (0 + ll_) 57 (0 + (3 + ii_)) (0 : Int).toNat (0 : Int).toNat (12 : Int).toNat) 58 (0 + ll_) 58 (0 + (3 + ii_)) (0 : Int).toNat (0 : Int).toNat (12 : Int).toNat) := ai_fr_tr hFx17_ (fr_ac rfl)
  have hCx21_ : cdf ii_ S0_ (sm_acI (sm_acI (sm_acI (sm_acI (sm_pI (sm_pI S0_ 5 (3 + ii_) 1 (S0_.1 5 ll_ 1)) 5 (3 + ii_) 2 ((sm_pI S0_ 5 (3 + ii_) 1 (S0_.1 5 ll_ 1)).1 5 ll_ 2)) 55 (0 + ll_) 55 (0 + (3 + ii_)) (0 : Int).toNat (0 : Int).toNat (12 : Int).toNat) 56 (0 + ll_) 56 (0 + (3 + ii_)) (0 : Int).toNat (0 : Int).toNat (12 : Int).toNat) 57 (0 + ll_) 57 (0 + (3 + ii_)) (0 : Int).toNat (0 : Int).toNat (12 : Int).toNat) 58 (0 + ll_) 58 (0 + (3 + ii_)) (0 : Int).toNat (0 : Int).toNat (12 : Int).toNat) := cdf_ac hCx18_ (Or.inr (by rw [show cof 58 = 3 from rfl] <;> omega))
  refine sm_T_rv rfl ⟨_, _, rfl, rfl, hIx19_, hFx20_, ?_⟩
  refine ⟨hCx21_, ?_⟩
  trivial
end
/-! 99.zkbb -/
section
/-! java/util/Arrays.fill -/
def vw_2e9 : sx_Wl := ([], [39], [])
def vq_2e9 (v0_ : Int) (ii_ : Nat) (S0_ : sm_S) (u_ : Option sm_V) (S1_ : sm_S) : Prop := u_ = none ∧ gi S1_ ∧ ai_fr (sx_W vw_2e9) S0_ S1_ ∧ (cdf ii_ S0_ S1_ ∧ (∀ j_, j_ < 12 → S1_.2.2.1 39 (0 + ii_) j_ = v0_))
set_option maxHeartbeats 400000 in
theorem vl_2e9 {sc_ : Nat × (Nat → Int)} (v0_ : Int) (ii_ : Nat) (S0_ : sm_S) (hv_ : 0 ≤ v0_ ∧ v0_ ≤ 4194303) : ∀ nn_ : Nat, (∀ (k_ : Int) (S_ : sm_S), gi S_ → ai_fr (sx_W vw_2e9) S0_ S_ → ((0 ≤ k_ ∧ k_ ≤ 12) ∧ (∀ j_, j_ < k_.toNat → S_.2.2.1 39 (0 + ii_) j_ = v0_) ∧ (cdf ii_ S0_ S_) ∧ True) → ((12 - k_).toNat) < nn_ → sm_T (mt_P sc_) 0 2 (5, [some (.inr (.inr (some (39, (0 + ii_))))), some (.inl v0_), some (.inl k_), some (.inl 12)], [], S_) (fun ro9_ => ∃ u_ S1_, ro9_ = (.inl u_, S1_, 0) ∧ vq_2e9 v0_ ii_ S0_ u_ S1_)) := by
  intro nn_
  induction nn_ with
  | zero => exact fun _ _ _ _ _ h_ => absurd h_ (Nat.not_lt_zero _)
  | succ nn_ ih_ =>
    rintro k_ S_ hI_ hF_ ⟨h0_, h1_, hC_, -⟩ hm_
    refine sm_T_go 2 (c1 := (7, [some (.inr (.inr (some (39, (0 + ii_))))), some (.inl v0_), some (.inl k_), some (.inl 12)], [.inl 12, .inl k_], S_)) rfl ?_
    refine sm_T_br (a := 3) (z := 13) rfl (fun cx1_ => ?_) (fun cx1_ => ?_)
    · have cx1_ : 12 ≤ k_ := of_decide_eq_true cx1_
      refine sm_T_rv rfl ⟨_, _, rfl, rfl, hI_, hF_, ?_⟩
      refine ⟨hC_, ?_⟩
      exact fun j_ hj_ => h1_ j_ (by omega)
    · have cx1_ : ¬ (12 ≤ k_) := of_decide_eq_false cx1_
      refine sm_T_go 3 (c1 := (13, [some (.inr (.inr (some (39, (0 + ii_))))), some (.inl v0_), some (.inl k_), some (.inl 12)], [.inl v0_, .inl k_, .inr (.inr (some (39, (0 + ii_))))], S_)) rfl ?_
      refine sm_T_iast (n := 12) rfl rfl (by omega) (by omega) ?_
      have hIx2_ : gi (sm_aI S_ 39 (0 + ii_) k_.toNat v0_) := gi_aI hI_ (show 0 ≤ v0_ ∧ v0_ ≤ 4194303 from ⟨by omega, by omega⟩)
      have hFx3_ : ai_fr (sx_W vw_2e9) S0_ (sm_aI S_ 39 (0 + ii_) k_.toNat v0_) := ai_fr_tr hF_ (ai_fr_aI rfl)
      have hCx4_ : cdf ii_ S0_ (sm_aI S_ 39 (0 + ii_) k_.toNat v0_) := cdf_aI hC_ (Or.inr (by rw [show cof 39 = 0 from rfl] <;> omega))
      refine sm_T_inc (a := 2) (z := 1) (v := k_) (w := k_ + 1) rfl rfl (by omega) (by omega) (by omega) ?_ -- pc_ 14
      refine sm_T_go 1 (c1 := (5, [some (.inr (.inr (some (39, (0 + ii_))))), some (.inl v0_), some (.inl (k_ + 1)), some (.inl 12)], [], sm_aI S_ 39 (0 + ii_) k_.toNat v0_)) rfl ?_
      refine ih_ (k_ + 1) (sm_aI S_ 39 (0 + ii_) k_.toNat v0_) hIx2_ hFx3_ ⟨?_, ?_, ?_, trivial⟩ ?_
      · omega
      · intro j_ hj_
        rw [rd_eq]
        by_cases z_ : j_ = k_.toNat
        · rw [if_pos z_]
        · rw [if_neg z_]; exact h1_ j_ (by omega)
      · exact hCx4_
      · omega
set_option maxHeartbeats 400000 in
theorem vc_2e9 {sc_ : Nat × (Nat → Int)} (v0_ : Int) (ii_ : Nat) (S0_ : sm_S) (hI_ : gi S0_) (hv_ : 0 ≤ v0_ ∧ v0_ ≤ 4194303) : sm_T (mt_P sc_) 0 2 (0, [some (.inr (.inr (some (39, (0 + ii_))))), some (.inl v0_), none, none], [], S0_) (fun ro9_ => ∃ u_ S1_, ro9_ = (.inl u_, S1_, 0) ∧ vq_2e9 v0_ ii_ S0_ u_ S1_) := by
  have hF_ : ai_fr (sx_W vw_2e9) S0_ S0_ := ai_fr_rf
  have hC_ : cdf ii_ S0_ S0_ := cdf_rf
  refine sm_T_go 5 (c1 := (5, [some (.inr (.inr (some (39, (0 + ii_))))), some (.inl v0_), some (.inl 0), some (.inl 12)], [], S0_)) rfl ?_
  refine (vl_2e9 v0_ ii_ S0_ hv_ _) 0 S0_ hI_ hF_ ⟨?_, ?_, ?_, trivial⟩ (Nat.lt_succ_self _)
  · omega
  · (intro j_ hj_; exact absurd hj_ (Nat.not_lt_zero _))
  · exact hC_
end
/-! 99.zkbc -/
section
/-! Chip.start -/
def vw_53 : sx_Wl := ([(2, 1), (2, 2), (2, 3), (2, 4), (2, 5), (2, 8), (2, 14), (2, 15), (2, 19), (5, 1), (5, 2)], [39, 55, 56, 57, 58], [])
def vq_53 (ii_ : Nat) (dd_ : Nat) (ll_ : Nat) (S0_ : sm_S) (u_ : Option sm_V) (S1_ : sm_S) : Prop := u_ = none ∧ gi S1_ ∧ ai_fr (sx_W vw_53) S0_ S1_ ∧ (cdf ii_ S0_ S1_ ∧ (S1_.1 2 ii_ 1 = S0_.1 3 dd_ 1 ∧ S1_.1 2 ii_ 2 = S0_.1 3 dd_ 2 ∧ S1_.1 2 ii_ 3 = S0_.1 3 dd_ 3 ∧ S1_.1 2 ii_ 4 = S0_.1 3 dd_ 5 ∧ S1_.1 2 ii_ 5 = S0_.1 3 dd_ 5 ∧ S1_.1 2 ii_ 8 = 0))
set_option maxHeartbeats 400000 in
theorem vc_53 {sc_ : Nat × (Nat → Int)} (ii_ : Nat) (dd_ : Nat) (ll_ : Nat) (S0_ : sm_S) (hI_ : gi S0_) (hd_ : dOk dd_ S0_) : sm_T (mt_P sc_) 1 53 (0, [some (.inr (.inr (some (2, ii_)))), some (.inr (.inr (some (3, dd_)))), some (.inr (.inr (some (5, ll_))))], [], S0_) (fun ro9_ => ∃ u_ S1_, ro9_ = (.inl u_, S1_, 0) ∧ vq_53 ii_ dd_ ll_ S0_ u_ S1_) := by
  have hF_ : ai_fr (sx_W vw_53) S0_ S0_ := ai_fr_rf
  have hC_ : cdf ii_ S0_ S0_ := cdf_rf
  have J9_ := dOk_b hd_
  have J9a := J9_.1
  have J9b := J9_.2.1
  have J9c := J9_.2.2.1
  have pw9_ := pw_le (n := (S0_.1 3 dd_ 2).toNat) (m := 6) (by omega)
  have bx1_ : 0 ≤ S0_.1 3 dd_ 1 ∧ S0_.1 3 dd_ 1 ≤ 320 := hI_.1 3 dd_ 1 rfl
  have hIx2_ : gi (sm_pI S0_ 2 ii_ 1 (S0_.1 3 dd_ 1)) := gi_pI hI_ (show 0 ≤ (S0_.1 3 dd_ 1) ∧ (S0_.1 3 dd_ 1) ≤ 12 from ⟨by omega, by omega⟩)
  have hFx3_ : ai_fr (sx_W vw_53) S0_ (sm_pI S0_ 2 ii_ 1 (S0_.1 3 dd_ 1)) := ai_fr_tr hF_ (ai_fr_pI rfl)
  have hCx4_ : cdf ii_ S0_ (sm_pI S0_ 2 ii_ 1 (S0_.1 3 dd_ 1)) := cdf_pI hC_ (Or.inr (by rw [show cof 2 = 0 from rfl] <;> omega))
  have bx5_ : 0 ≤ S0_.1 3 dd_ 2 ∧ S0_.1 3 dd_ 2 ≤ 100000 := hI_.1 3 dd_ 2 rfl
  have hIx6_ : gi (sm_pI (sm_pI S0_ 2 ii_ 1 (S0_.1 3 dd_ 1)) 2 ii_ 2 (S0_.1 3 dd_ 2)) := gi_pI hIx2_ (show 0 ≤ (S0_.1 3 dd_ 2) ∧ (S0_.1 3 dd_ 2) ≤ 6 from ⟨by omega, by omega⟩)
  have hFx7_ : ai_fr (sx_W vw_53) S0_ (sm_pI (sm_pI S0_ 2 ii_ 1 (S0_.1 3 dd_ 1)) 2 ii_ 2 (S0_.1 3 dd_ 2)) := ai_fr_tr hFx3_ (ai_fr_pI rfl)
  have hCx8_ : cdf ii_ S0_ (sm_pI (sm_pI S0_ 2 ii_ 1 (S0_.1 3 dd_ 1)) 2 ii_ 2 (S0_.1 3 dd_ 2)) := cdf_pI hCx4_ (Or.inr (by rw [show cof 2 = 0 from rfl] <;> omega))
  have bx9_ : 0 ≤ S0_.1 3 dd_ 3 ∧ S0_.1 3 dd_ 3 ≤ 320 := hI_.1 3 dd_ 3 rfl
  have hIx10_ : gi (sm_pI (sm_pI (sm_pI S0_ 2 ii_ 1 (S0_.1 3 dd_ 1)) 2 ii_ 2 (S0_.1 3 dd_ 2)) 2 ii_ 3 (S0_.1 3 dd_ 3)) := gi_pI hIx6_ (show 0 ≤ (S0_.1 3 dd_ 3) ∧ (S0_.1 3 dd_ 3) ≤ 16 from ⟨by omega, by omega⟩)
  have hFx11_ : ai_fr (sx_W vw_53) S0_ (sm_pI (sm_pI (sm_pI S0_ 2 ii_ 1 (S0_.1 3 dd_ 1)) 2 ii_ 2 (S0_.1 3 dd_ 2)) 2 ii_ 3 (S0_.1 3 dd_ 3)) := ai_fr_tr hFx7_ (ai_fr_pI rfl)
  have hCx12_ : cdf ii_ S0_ (sm_pI (sm_pI (sm_pI S0_ 2 ii_ 1 (S0_.1 3 dd_ 1)) 2 ii_ 2 (S0_.1 3 dd_ 2)) 2 ii_ 3 (S0_.1 3 dd_ 3)) := cdf_pI hCx8_ (Or.inr (by rw [show cof 2 = 0 from rfl] <;> omega))
  have bx13_ : 0 ≤ S0_.1 3 dd_ 5 ∧ S0_.1 3 dd_ 5 ≤ 63 := hI_.1 3 dd_ 5 rfl
  have hIx14_ : gi (sm_pI (sm_pI (sm_pI (sm_pI S0_ 2 ii_ 1 (S0_.1 3 dd_ 1)) 2 ii_ 2 (S0_.1 3 dd_ 2)) 2 ii_ 3 (S0_.1 3 dd_ 3)) 2 ii_ 4 (S0_.1 3 dd_ 5)) := gi_pI hIx10_ (show 0 ≤ (S0_.1 3 dd_ 5) ∧ (S0_.1 3 dd_ 5) ≤ 63 from ⟨by omega, by omega⟩)
  have hFx15_ : ai_fr (sx_W vw_53) S0_ (sm_pI (sm_pI (sm_pI (sm_pI S0_ 2 ii_ 1 (S0_.1 3 dd_ 1)) 2 ii_ 2 (S0_.1 3 dd_ 2)) 2 ii_ 3 (S0_.1 3 dd_ 3)) 2 ii_ 4 (S0_.1 3 dd_ 5)) := ai_fr_tr hFx11_ (ai_fr_pI rfl)
  have hCx16_ : cdf ii_ S0_ (sm_pI (sm_pI (sm_pI (sm_pI S0_ 2 ii_ 1 (S0_.1 3 dd_ 1)) 2 ii_ 2 (S0_.1 3 dd_ 2)) 2 ii_ 3 (S0_.1 3 dd_ 3)) 2 ii_ 4 (S0_.1 3 dd_ 5)) := cdf_pI hCx12_ (Or.inr (by rw [show cof 2 = 0 from rfl] <;> omega))
  have hIx17_ : gi (sm_pI (sm_pI (sm_pI (sm_pI (sm_pI S0_ 2 ii_ 1 (S0_.1 3 dd_ 1)) 2 ii_ 2 (S0_.1 3 dd_ 2)) 2 ii_ 3 (S0_.1 3 dd_ 3)) 2 ii_ 4 (S0_.1 3 dd_ 5)) 2 ii_ 5 (S0_.1 3 dd_ 5)) := gi_pI hIx14_ (show 0 ≤ (S0_.1 3 dd_ 5) ∧ (S0_.1 3 dd_ 5) ≤ 63 from ⟨by omega, by omega⟩)
  have hFx18_ : ai_fr (sx_W vw_53) S0_ (sm_pI (sm_pI (sm_pI (sm_pI (sm_pI S0_ 2 ii_ 1 (S0_.1 3 dd_ 1)) 2 ii_ 2 (S0_.1 3 dd_ 2)) 2 ii_ 3 (S0_.1 3 dd_ 3)) 2 ii_ 4 (S0_.1 3 dd_ 5)) 2 ii_ 5 (S0_.1 3 dd_ 5)) := ai_fr_tr hFx15_ (ai_fr_pI rfl)
  have hCx19_ : cdf ii_ S0_ (sm_pI (sm_pI (sm_pI (sm_pI (sm_pI S0_ 2 ii_ 1 (S0_.1 3 dd_ 1)) 2 ii_ 2 (S0_.1 3 dd_ 2)) 2 ii_ 3 (S0_.1 3 dd_ 3)) 2 ii_ 4 (S0_.1 3 dd_ 5)) 2 ii_ 5 (S0_.1 3 dd_ 5)) := cdf_pI hCx16_ (Or.inr (by rw [show cof 2 = 0 from rfl] <;> omega))
  refine sm_T_go 23 (c1 := (45, [some (.inr (.inr (some (2, ii_)))), some (.inr (.inr (some (3, dd_)))), some (.inr (.inr (some (5, ll_))))], [.inr (.inr (some (5, ll_))), .inr (.inr (some (5, (3 + ii_))))], sm_pI (sm_pI (sm_pI (sm_pI (sm_pI S0_ 2 ii_ 1 (S0_.1 3 dd_ 1)) 2 ii_ 2 (S0_.1 3 dd_ 2)) 2 ii_ 3 (S0_.1 3 dd_ 3)) 2 ii_ 4 (S0_.1 3 dd_ 5)) 2 ii_ 5 (S0_.1 3 dd_ 5))) rfl ?_
  refine sm_T_cal (d1 := 0) (Q1 := vq_90 ii_ ll_ (sm_pI (sm_pI (sm_pI (sm_pI (sm_pI S0_ 2 ii_ 1 (S0_.1 3 dd_ 1)) 2 ii_ 2 (S0_.1 3 dd_ 2)) 2 ii_ 3 (S0_.1 3 dd_ 3)) 2 ii_ 4 (S0_.1 3 dd_ 5)) 2 ii_ 5 (S0_.1 3 dd_ 5))) rfl rfl (by decide) (vc_90 ii_ ll_ (sm_pI (sm_pI (sm_pI (sm_pI (sm_pI S0_ 2 ii_ 1 (S0_.1 3 dd_ 1)) 2 ii_ 2 (S0_.1 3 dd_ 2)) 2 ii_ 3 (S0_.1 3 dd_ 3)) 2 ii_ 4 (S0_.1 3 dd_ 5)) 2 ii_ 5 (S0_.1 3 dd_ 5)) hIx17_ ) (fun u_ Sx20_ px23_ => ?_)
  obtain ⟨rfl, hIx21_, hFx22_, px23_⟩ := px23_
  have hFx24_ : ai_fr (sx_W vw_53) S0_ Sx20_ := ai_fr_tr hFx18_ (fr_le hFx22_ rfl)
  obtain ⟨dx26_, px23_⟩ := px23_
  have hCx25_ : cdf ii_ S0_ Sx20_ := cdf_tr hCx19_ (cdf_cg (by omega) dx26_)
  have u1_ := hFx22_.1 2 ii_ 1 rfl
  have u2_ := hFx22_.1 2 ii_ 2 rfl
  have u3_ := hFx22_.1 2 ii_ 3 rfl
  have u4_ := hFx22_.1 2 ii_ 4 rfl
  have u5_ := hFx22_.1 2 ii_ 5 rfl
  simp only [rf_eq, rf_nt, rf_nk, rd_fa, rd_af, ne_eq, Nat.reduceEqDiff, not_false_eq_true] at u1_ u2_ u3_ u4_ u5_
  have hIx27_ : gi (sm_pI Sx20_ 2 ii_ 8 0) := gi_pI hIx21_ (show 0 ≤ 0 ∧ 0 ≤ 150 from ⟨by omega, by omega⟩)
  have hFx28_ : ai_fr (sx_W vw_53) S0_ (sm_pI Sx20_ 2 ii_ 8 0) := ai_fr_tr hFx24_ (ai_fr_pI rfl)
  have hCx29_ : cdf ii_ S0_ (sm_pI Sx20_ 2 ii_ 8 0) := cdf_pI hCx25_ (Or.inr (by rw [show cof 2 = 0 from rfl] <;> omega))
  refine sm_T_go 6 (c1 := (58, [some (.inr (.inr (some (2, ii_)))), some (.inr (.inr (some (3, dd_)))), some (.inr (.inr (some (5, ll_))))], [.inl 0, .inr (.inr (some (39, (0 + ii_))))], sm_pI Sx20_ 2 ii_ 8 0)) rfl ?_
  refine sm_T_cal (d1 := 0) (Q1 := vq_2e9 0 ii_ (sm_pI Sx20_ 2 ii_ 8 0)) rfl rfl (by decide) (vc_2e9 0 ii_ (sm_pI Sx20_ 2 ii_ 8 0) hIx27_ (by decide)) (fun u_ Sx30_ px33_ => ?_)
  obtain ⟨rfl, hIx31_, hFx32_, px33_⟩ := px33_
  have hFx34_ : ai_fr (sx_W vw_53) S0_ Sx30_ := ai_fr_tr hFx28_ (fr_le hFx32_ rfl)
  obtain ⟨dx36_, px33_⟩ := px33_
  have hCx35_ : cdf ii_ S0_ Sx30_ := cdf_tr hCx29_ (cdf_cg (by omega) dx36_)
  have w1_ := hFx32_.1 2 ii_ 1 rfl
  have w2_ := hFx32_.1 2 ii_ 2 rfl
  have w3_ := hFx32_.1 2 ii_ 3 rfl
  have w4_ := hFx32_.1 2 ii_ 4 rfl
  have w5_ := hFx32_.1 2 ii_ 5 rfl
  have w8_ := hFx32_.1 2 ii_ 8 rfl
  simp only [rf_eq, rf_nt, rf_nk, rd_fa, rd_af, ne_eq, Nat.reduceEqDiff, not_false_eq_true] at w1_ w2_ w3_ w4_ w5_ w8_
  have hIx37_ : gi (sm_pI Sx30_ 2 ii_ 14 0) := gi_pI hIx31_ (show 0 ≤ 0 ∧ 0 ≤ 40 from ⟨by omega, by omega⟩)
  have hFx38_ : ai_fr (sx_W vw_53) S0_ (sm_pI Sx30_ 2 ii_ 14 0) := ai_fr_tr hFx34_ (ai_fr_pI rfl)
  have hCx39_ : cdf ii_ S0_ (sm_pI Sx30_ 2 ii_ 14 0) := cdf_pI hCx35_ (Or.inr (by rw [show cof 2 = 0 from rfl] <;> omega))
  have hIx40_ : gi (sm_pI (sm_pI Sx30_ 2 ii_ 14 0) 2 ii_ 15 (-1)) := gi_pI hIx37_ (show (-1) ≤ (-1) ∧ (-1) ≤ 1224 from ⟨by omega, by omega⟩)
  have hFx41_ : ai_fr (sx_W vw_53) S0_ (sm_pI (sm_pI Sx30_ 2 ii_ 14 0) 2 ii_ 15 (-1)) := ai_fr_tr hFx38_ (ai_fr_pI rfl)
  have hCx42_ : cdf ii_ S0_ (sm_pI (sm_pI Sx30_ 2 ii_ 14 0) 2 ii_ 15 (-1)) := cdf_pI hCx39_ (Or.inr (by rw [show cof 2 = 0 from rfl] <;> omega))
  have bx43_ : (-2147483648) ≤ Sx30_.1 2 ii_ 19 ∧ Sx30_.1 2 ii_ 19 ≤ 2147483647 := hIx31_.1 2 ii_ 19 rfl
  have ex44_ : (sm_pI (sm_pI Sx30_ 2 ii_ 14 0) 2 ii_ 15 (-1)).1 2 ii_ 19 = (Sx30_.1 2 ii_ 19) := by (try simp only [rf_eq, rf_nk, rf_nt, rd_fa, rd_af, ne_eq, Nat.reduceEqDiff, not_false_eq_true])
  refine sm_T_go 10 (c1 := (77, [some (.inr (.inr (some (2, ii_)))), some (.inr (.inr (some (3, dd_)))), some (.inr (.inr (some (5, ll_))))], [.inl 1, .inl ((sm_pI (sm_pI Sx30_ 2 ii_ 14 0) 2 ii_ 15 (-1)).1 2 ii_ 19), .inr (.inr (some (2, ii_)))], sm_pI (sm_pI Sx30_ 2 ii_ 14 0) 2 ii_ 15 (-1))) rfl ?_
  refine sm_T_bin (w := (i_add ((sm_pI (sm_pI Sx30_ 2 ii_ 14 0) 2 ii_ 15 (-1)).1 2 ii_ 19) 1)) rfl rfl ?_ -- pc_ 77
  have bx45_ := i_add_r ((sm_pI (sm_pI Sx30_ 2 ii_ 14 0) 2 ii_ 15 (-1)).1 2 ii_ 19) 1
  have hIx46_ : gi (sm_pI (sm_pI (sm_pI Sx30_ 2 ii_ 14 0) 2 ii_ 15 (-1)) 2 ii_ 19 (i_add ((sm_pI (sm_pI Sx30_ 2 ii_ 14 0) 2 ii_ 15 (-1)).1 2 ii_ 19) 1)) := gi_pI hIx40_ (show (-2147483648) ≤ (i_add ((sm_pI (sm_pI Sx30_ 2 ii_ 14 0) 2 ii_ 15 (-1)).1 2 ii_ 19) 1) ∧ (i_add ((sm_pI (sm_pI Sx30_ 2 ii_ 14 0) 2 ii_ 15 (-1)).1 2 ii_ 19) 1) ≤ 2147483647 from ⟨by omega, by omega⟩)
  have hFx47_ : ai_fr (sx_W vw_53) S0_ (sm_pI (sm_pI (sm_pI Sx30_ 2 ii_ 14 0) 2 ii_ 15 (-1)) 2 ii_ 19 (i_add ((sm_pI (sm_pI Sx30_ 2 ii_ 14 0) 2 ii_ 15 (-1)).1 2 ii_ 19) 1)) := ai_fr_tr hFx41_ (ai_fr_pI rfl)
  have hCx48_ : cdf ii_ S0_ (sm_pI (sm_pI (sm_pI Sx30_ 2 ii_ 14 0) 2 ii_ 15 (-1)) 2 ii_ 19 (i_add ((sm_pI (sm_pI Sx30_ 2 ii_ 14 0) 2 ii_ 15 (-1)).1 2 ii_ 19) 1)) := cdf_pI hCx42_ (Or.inr (by rw [show cof 2 = 0 from rfl] <;> omega))
  refine sm_T_go 1 (c1 := (81, [some (.inr (.inr (some (2, ii_)))), some (.inr (.inr (some (3, dd_)))), some (.inr (.inr (some (5, ll_))))], [], sm_pI (sm_pI (sm_pI Sx30_ 2 ii_ 14 0) 2 ii_ 15 (-1)) 2 ii_ 19 (i_add ((sm_pI (sm_pI Sx30_ 2 ii_ 14 0) 2 ii_ 15 (-1)).1 2 ii_ 19) 1))) rfl ?_
  refine sm_T_rv rfl ⟨_, _, rfl, rfl, hIx46_, hFx47_, ?_⟩
  refine ⟨hCx48_, ?_⟩
  simp only [rf_eq, rf_nt, rf_nk, rd_fa, rd_af, ne_eq, Nat.reduceEqDiff, not_false_eq_true]
  exact ⟨by omega, by omega, by omega, by omega, by omega, by omega⟩

/-! pins set_ so_ far_: those of_ E_ elements, k_ of_ the_ next, a_ inputs, b_ outputs -/
def bpw (bi_ : Nat) (S_ : sm_S) (E_ k_ a_ b_ : Int) : Prop := ∀ p_ : Nat, p_ < 652 → S_.2.2.1 17 (0 + bi_) p_ ≠ -1 → (p_ < 624 ∧ ((((p_ / 4 : Nat) : Int) < E_ ∧ ((p_ % 4 : Nat) : Int) < S_.2.2.1 16 (0 + bi_) (p_ / 4)) ∨ (((p_ / 4 : Nat) : Int) = E_ ∧ ((p_ % 4 : Nat) : Int) < k_))) ∨ (624 ≤ p_ ∧ p_ < 636 ∧ (p_ : Int) < 624 + a_) ∨ (636 ≤ p_ ∧ (p_ : Int) < 636 + b_)
theorem bpw_0 {bi_ : Nat} {S_ : sm_S} {E_ k_ a_ b_ x_ : Int} (h_ : bpw bi_ S_ E_ k_ a_ b_) (hx_ : 0 ≤ x_ ∧ x_ < 652) (hn_ : ¬ ((x_ < 624 ∧ (x_ / 4 < E_ ∨ (x_ / 4 = E_ ∧ x_ % 4 < k_))) ∨ (624 ≤ x_ ∧ x_ < 636 ∧ x_ < 624 + a_) ∨ (636 ≤ x_ ∧ x_ < 636 + b_))) : S_.2.2.1 17 (0 + bi_) x_.toNat = -1 := by
  by_cases z_ : S_.2.2.1 17 (0 + bi_) x_.toNat = -1
  · exact z_
  · exfalso
    have y_ := h_ x_.toNat (by omega) z_
    omega
theorem bpw_s {bi_ : Nat} {S_ S'_ : sm_S} {E_ k_ a_ b_ x_ v_ E'_ k'_ a'_ b'_ : Int} (h_ : bpw bi_ S_ E_ k_ a_ b_) (z_ : S'_.2.2.1 16 (0 + bi_) = S_.2.2.1 16 (0 + bi_)) (q_ : ∀ j_, S'_.2.2.1 17 (0 + bi_) j_ = if 0 ≤ v_ ∧ j_ = x_.toNat then v_ else S_.2.2.1 17 (0 + bi_) j_) (hx_ : 0 ≤ x_)
    (g_ : (x_ < 624 ∧ ((x_ / 4 < E'_ ∧ x_ % 4 < S_.2.2.1 16 (0 + bi_) (x_ / 4).toNat) ∨ (x_ / 4 = E'_ ∧ x_ % 4 < k'_))) ∨ (624 ≤ x_ ∧ x_ < 636 ∧ x_ < 624 + a'_) ∨ (636 ≤ x_ ∧ x_ < 636 + b'_)) (hE_ : E_ = E'_ ∧ k_ ≤ k'_) (ha_ : a_ ≤ a'_ ∧ b_ ≤ b'_) : bpw bi_ S'_ E'_ k'_ a'_ b'_ := by
  intro p_ hp_ hn_
  rw [q_] at hn_
  rw [z_]
  by_cases y_ : 0 ≤ v_ ∧ p_ = x_.toNat
  · have e_ : (x_ / 4).toNat = p_ / 4 := by omega
    rw [e_] at g_
    omega
  · rw [if_neg y_] at hn_
    have w_ := h_ p_ hp_ hn_
    omega
/-- a_ whole element -/
theorem bpw_e {bi_ : Nat} {S_ : sm_S} {E_ k_ a_ b_ : Int} (h_ : bpw bi_ S_ E_ k_ a_ b_) (hE_ : 0 ≤ E_) (hk_ : k_ = S_.2.2.1 16 (0 + bi_) E_.toNat) : bpw bi_ S_ (E_ + 1) 0 a_ b_ := by
  intro p_ hp_ hn_
  have w_ := h_ p_ hp_ hn_
  by_cases y_ : ((p_ / 4 : Nat) : Int) = E_
  · have e_ : E_.toNat = p_ / 4 := by omega
    rw [e_] at hk_
    omega
  · omega
theorem bpw_z {bi_ : Nat} {S_ S'_ : sm_S} {E_ k_ a_ b_ v_ : Int} {e_ : Nat} (h_ : bpw bi_ S_ E_ k_ a_ b_) (z_ : S'_.2.2.1 17 (0 + bi_) = S_.2.2.1 17 (0 + bi_)) (q_ : ∀ j_, S'_.2.2.1 16 (0 + bi_) j_ = if j_ = e_ then v_ else S_.2.2.1 16 (0 + bi_) j_) (he_ : E_ ≤ (e_ : Int)) : bpw bi_ S'_ E_ k_ a_ b_ := by
  intro p_ hp_ hn_
  rw [z_] at hn_
  have w_ := h_ p_ hp_ hn_
  rw [q_]
  split
  · omega
  · exact w_
theorem bpw_p {bi_ ci_ : Nat} {S_ : sm_S} {E_ a_ b_ : Int} (h_ : bpw bi_ S_ E_ 0 a_ b_) (hE_ : E_ = S_.1 2 ci_ 2 + S_.1 2 ci_ 8) (ha_ : a_ = S_.1 2 ci_ 1) (hb_ : b_ = S_.1 2 ci_ 3) : bpp bi_ ci_ S_ := by
  intro p_ hp_ hn_
  have w_ := h_ p_ hp_ hn_
  refine ⟨fun z_ => ?_, fun z_ y_ => ?_, fun z_ => ?_⟩ <;> omega
end
/-! 99.zkbd -/
section
/-! java/util/Arrays.fill -/
def vw_2b7 : sx_Wl := ([], [17], [])
def vq_2b7 (v0_ : Int) (ii_ : Nat) (S0_ : sm_S) (u_ : Option sm_V) (S1_ : sm_S) : Prop := u_ = none ∧ gi S1_ ∧ ai_fr (sx_W vw_2b7) S0_ S1_ ∧ (cdf ii_ S0_ S1_ ∧ (∀ j_, j_ < 652 → S1_.2.2.1 17 (0 + ii_) j_ = v0_))
set_option maxHeartbeats 400000 in
theorem vl_2b7 {sc_ : Nat × (Nat → Int)} (v0_ : Int) (ii_ : Nat) (S0_ : sm_S) (hv_ : (-1) ≤ v0_ ∧ v0_ ≤ 161) : ∀ nn_ : Nat, (∀ (k_ : Int) (S_ : sm_S), gi S_ → ai_fr (sx_W vw_2b7) S0_ S_ → ((0 ≤ k_ ∧ k_ ≤ 652) ∧ (∀ j_, j_ < k_.toNat → S_.2.2.1 17 (0 + ii_) j_ = v0_) ∧ (cdf ii_ S0_ S_) ∧ True) → ((652 - k_).toNat) < nn_ → sm_T (mt_P sc_) 0 2 (5, [some (.inr (.inr (some (17, (0 + ii_))))), some (.inl v0_), some (.inl k_), some (.inl 652)], [], S_) (fun ro9_ => ∃ u_ S1_, ro9_ = (.inl u_, S1_, 0) ∧ vq_2b7 v0_ ii_ S0_ u_ S1_)) := by
  intro nn_
  induction nn_ with
  | zero => exact fun _ _ _ _ _ h_ => absurd h_ (Nat.not_lt_zero _)
  | succ nn_ ih_ =>
    rintro k_ S_ hI_ hF_ ⟨h0_, h1_, hC_, -⟩ hm_
    refine sm_T_go 2 (c1 := (7, [some (.inr (.inr (some (17, (0 + ii_))))), some (.inl v0_), some (.inl k_), some (.inl 652)], [.inl 652, .inl k_], S_)) rfl ?_
    refine sm_T_br (a := 3) (z := 13) rfl (fun cx1_ => ?_) (fun cx1_ => ?_)
    · have cx1_ : 652 ≤ k_ := of_decide_eq_true cx1_
      refine sm_T_rv rfl ⟨_, _, rfl, rfl, hI_, hF_, ?_⟩
      refine ⟨hC_, ?_⟩
      exact fun j_ hj_ => h1_ j_ (by omega)
    · have cx1_ : ¬ (652 ≤ k_) := of_decide_eq_false cx1_
      refine sm_T_go 3 (c1 := (13, [some (.inr (.inr (some (17, (0 + ii_))))), some (.inl v0_), some (.inl k_), some (.inl 652)], [.inl v0_, .inl k_, .inr (.inr (some (17, (0 + ii_))))], S_)) rfl ?_
      refine sm_T_iast (n := 652) rfl rfl (by omega) (by omega) ?_
      have hIx2_ : gi (sm_aI S_ 17 (0 + ii_) k_.toNat v0_) := gi_aI hI_ (show (-1) ≤ v0_ ∧ v0_ ≤ 161 from ⟨by omega, by omega⟩)
      have hFx3_ : ai_fr (sx_W vw_2b7) S0_ (sm_aI S_ 17 (0 + ii_) k_.toNat v0_) := ai_fr_tr hF_ (ai_fr_aI rfl)
      have hCx4_ : cdf ii_ S0_ (sm_aI S_ 17 (0 + ii_) k_.toNat v0_) := cdf_aI hC_ (Or.inr (by rw [show cof 17 = 0 from rfl] <;> omega))
      refine sm_T_inc (a := 2) (z := 1) (v := k_) (w := k_ + 1) rfl rfl (by omega) (by omega) (by omega) ?_ -- pc_ 14
      refine sm_T_go 1 (c1 := (5, [some (.inr (.inr (some (17, (0 + ii_))))), some (.inl v0_), some (.inl (k_ + 1)), some (.inl 652)], [], sm_aI S_ 17 (0 + ii_) k_.toNat v0_)) rfl ?_
      refine ih_ (k_ + 1) (sm_aI S_ 17 (0 + ii_) k_.toNat v0_) hIx2_ hFx3_ ⟨?_, ?_, ?_, trivial⟩ ?_
      · omega
      · intro j_ hj_
        rw [rd_eq]
        by_cases z_ : j_ = k_.toNat
        · rw [if_pos z_]
        · rw [if_neg z_]; exact h1_ j_ (by omega)
      · exact hCx4_
      · omega
set_option maxHeartbeats 400000 in
theorem vc_2b7 {sc_ : Nat × (Nat → Int)} (v0_ : Int) (ii_ : Nat) (S0_ : sm_S) (hI_ : gi S0_) (hv_ : (-1) ≤ v0_ ∧ v0_ ≤ 161) : sm_T (mt_P sc_) 0 2 (0, [some (.inr (.inr (some (17, (0 + ii_))))), some (.inl v0_), none, none], [], S0_) (fun ro9_ => ∃ u_ S1_, ro9_ = (.inl u_, S1_, 0) ∧ vq_2b7 v0_ ii_ S0_ u_ S1_) := by
  have hF_ : ai_fr (sx_W vw_2b7) S0_ S0_ := ai_fr_rf
  have hC_ : cdf ii_ S0_ S0_ := cdf_rf
  refine sm_T_go 5 (c1 := (5, [some (.inr (.inr (some (17, (0 + ii_))))), some (.inl v0_), some (.inl 0), some (.inl 652)], [], S0_)) rfl ?_
  refine (vl_2b7 v0_ ii_ S0_ hv_ _) 0 S0_ hI_ hF_ ⟨?_, ?_, ?_, trivial⟩ (Nat.lt_succ_self _)
  · omega
  · (intro j_ hj_; exact absurd hj_ (Nat.not_lt_zero _))
  · exact hC_
end
/-! 99.zkbe -/
section
/-! java/util/Arrays.fill -/
def vw_2b8 : sx_Wl := ([], [20], [])
def vq_2b8 (v0_ : Int) (ii_ : Nat) (S0_ : sm_S) (u_ : Option sm_V) (S1_ : sm_S) : Prop := u_ = none ∧ gi S1_ ∧ ai_fr (sx_W vw_2b8) S0_ S1_ ∧ (cdf ii_ S0_ S1_ ∧ (∀ j_, j_ < 162 → S1_.2.2.1 20 (0 + ii_) j_ = v0_))
set_option maxHeartbeats 400000 in
theorem vl_2b8 {sc_ : Nat × (Nat → Int)} (v0_ : Int) (ii_ : Nat) (S0_ : sm_S) (hv_ : 0 ≤ v0_ ∧ v0_ ≤ 652) : ∀ nn_ : Nat, (∀ (k_ : Int) (S_ : sm_S), gi S_ → ai_fr (sx_W vw_2b8) S0_ S_ → ((0 ≤ k_ ∧ k_ ≤ 162) ∧ (∀ j_, j_ < k_.toNat → S_.2.2.1 20 (0 + ii_) j_ = v0_) ∧ (cdf ii_ S0_ S_) ∧ True) → ((162 - k_).toNat) < nn_ → sm_T (mt_P sc_) 0 2 (5, [some (.inr (.inr (some (20, (0 + ii_))))), some (.inl v0_), some (.inl k_), some (.inl 162)], [], S_) (fun ro9_ => ∃ u_ S1_, ro9_ = (.inl u_, S1_, 0) ∧ vq_2b8 v0_ ii_ S0_ u_ S1_)) := by
  intro nn_
  induction nn_ with
  | zero => exact fun _ _ _ _ _ h_ => absurd h_ (Nat.not_lt_zero _)
  | succ nn_ ih_ =>
    rintro k_ S_ hI_ hF_ ⟨h0_, h1_, hC_, -⟩ hm_
    refine sm_T_go 2 (c1 := (7, [some (.inr (.inr (some (20, (0 + ii_))))), some (.inl v0_), some (.inl k_), some (.inl 162)], [.inl 162, .inl k_], S_)) rfl ?_
    refine sm_T_br (a := 3) (z := 13) rfl (fun cx1_ => ?_) (fun cx1_ => ?_)
    · have cx1_ : 162 ≤ k_ := of_decide_eq_true cx1_
      refine sm_T_rv rfl ⟨_, _, rfl, rfl, hI_, hF_, ?_⟩
      refine ⟨hC_, ?_⟩
      exact fun j_ hj_ => h1_ j_ (by omega)
    · have cx1_ : ¬ (162 ≤ k_) := of_decide_eq_false cx1_
      refine sm_T_go 3 (c1 := (13, [some (.inr (.inr (some (20, (0 + ii_))))), some (.inl v0_), some (.inl k_), some (.inl 162)], [.inl v0_, .inl k_, .inr (.inr (some (20, (0 + ii_))))], S_)) rfl ?_
      refine sm_T_iast (n := 162) rfl rfl (by omega) (by omega) ?_
      have hIx2_ : gi (sm_aI S_ 20 (0 + ii_) k_.toNat v0_) := gi_aI hI_ (show 0 ≤ v0_ ∧ v0_ ≤ 652 from ⟨by omega, by omega⟩)
      have hFx3_ : ai_fr (sx_W vw_2b8) S0_ (sm_aI S_ 20 (0 + ii_) k_.toNat v0_) := ai_fr_tr hF_ (ai_fr_aI rfl)
      have hCx4_ : cdf ii_ S0_ (sm_aI S_ 20 (0 + ii_) k_.toNat v0_) := cdf_aI hC_ (Or.inr (by rw [show cof 20 = 0 from rfl] <;> omega))
      refine sm_T_inc (a := 2) (z := 1) (v := k_) (w := k_ + 1) rfl rfl (by omega) (by omega) (by omega) ?_ -- pc_ 14
      refine sm_T_go 1 (c1 := (5, [some (.inr (.inr (some (20, (0 + ii_))))), some (.inl v0_), some (.inl (k_ + 1)), some (.inl 162)], [], sm_aI S_ 20 (0 + ii_) k_.toNat v0_)) rfl ?_
      refine ih_ (k_ + 1) (sm_aI S_ 20 (0 + ii_) k_.toNat v0_) hIx2_ hFx3_ ⟨?_, ?_, ?_, trivial⟩ ?_
      · omega
      · intro j_ hj_
        rw [rd_eq]
        by_cases z_ : j_ = k_.toNat
        · rw [if_pos z_]
        · rw [if_neg z_]; exact h1_ j_ (by omega)
      · exact hCx4_
      · omega
set_option maxHeartbeats 400000 in
theorem vc_2b8 {sc_ : Nat × (Nat → Int)} (v0_ : Int) (ii_ : Nat) (S0_ : sm_S) (hI_ : gi S0_) (hv_ : 0 ≤ v0_ ∧ v0_ ≤ 652) : sm_T (mt_P sc_) 0 2 (0, [some (.inr (.inr (some (20, (0 + ii_))))), some (.inl v0_), none, none], [], S0_) (fun ro9_ => ∃ u_ S1_, ro9_ = (.inl u_, S1_, 0) ∧ vq_2b8 v0_ ii_ S0_ u_ S1_) := by
  have hF_ : ai_fr (sx_W vw_2b8) S0_ S0_ := ai_fr_rf
  have hC_ : cdf ii_ S0_ S0_ := cdf_rf
  refine sm_T_go 5 (c1 := (5, [some (.inr (.inr (some (20, (0 + ii_))))), some (.inl v0_), some (.inl 0), some (.inl 162)], [], S0_)) rfl ?_
  refine (vl_2b8 v0_ ii_ S0_ hv_ _) 0 S0_ hI_ hF_ ⟨?_, ?_, ?_, trivial⟩ (Nat.lt_succ_self _)
  · omega
  · (intro j_ hj_; exact absurd hj_ (Nat.not_lt_zero _))
  · exact hC_
end
/-! 99.zkbf -/
section
/-! java/util/Arrays.fill -/
def vw_2b9 : sx_Wl := ([], [21], [])
def vq_2b9 (v0_ : Int) (ii_ : Nat) (S0_ : sm_S) (u_ : Option sm_V) (S1_ : sm_S) : Prop := u_ = none ∧ gi S1_ ∧ ai_fr (sx_W vw_2b9) S0_ S1_ ∧ (cdf ii_ S0_ S1_ ∧ (∀ j_, j_ < 162 → S1_.2.2.1 21 (0 + ii_) j_ = v0_))
set_option maxHeartbeats 400000 in
theorem vl_2b9 {sc_ : Nat × (Nat → Int)} (v0_ : Int) (ii_ : Nat) (S0_ : sm_S) (hv_ : (-9999) ≤ v0_ ∧ v0_ ≤ 20000) : ∀ nn_ : Nat, (∀ (k_ : Int) (S_ : sm_S), gi S_ → ai_fr (sx_W vw_2b9) S0_ S_ → ((0 ≤ k_ ∧ k_ ≤ 162) ∧ (∀ j_, j_ < k_.toNat → S_.2.2.1 21 (0 + ii_) j_ = v0_) ∧ (cdf ii_ S0_ S_) ∧ True) → ((162 - k_).toNat) < nn_ → sm_T (mt_P sc_) 0 2 (5, [some (.inr (.inr (some (21, (0 + ii_))))), some (.inl v0_), some (.inl k_), some (.inl 162)], [], S_) (fun ro9_ => ∃ u_ S1_, ro9_ = (.inl u_, S1_, 0) ∧ vq_2b9 v0_ ii_ S0_ u_ S1_)) := by
  intro nn_
  induction nn_ with
  | zero => exact fun _ _ _ _ _ h_ => absurd h_ (Nat.not_lt_zero _)
  | succ nn_ ih_ =>
    rintro k_ S_ hI_ hF_ ⟨h0_, h1_, hC_, -⟩ hm_
    refine sm_T_go 2 (c1 := (7, [some (.inr (.inr (some (21, (0 + ii_))))), some (.inl v0_), some (.inl k_), some (.inl 162)], [.inl 162, .inl k_], S_)) rfl ?_
    refine sm_T_br (a := 3) (z := 13) rfl (fun cx1_ => ?_) (fun cx1_ => ?_)
    · have cx1_ : 162 ≤ k_ := of_decide_eq_true cx1_
      refine sm_T_rv rfl ⟨_, _, rfl, rfl, hI_, hF_, ?_⟩
      refine ⟨hC_, ?_⟩
      exact fun j_ hj_ => h1_ j_ (by omega)
    · have cx1_ : ¬ (162 ≤ k_) := of_decide_eq_false cx1_
      refine sm_T_go 3 (c1 := (13, [some (.inr (.inr (some (21, (0 + ii_))))), some (.inl v0_), some (.inl k_), some (.inl 162)], [.inl v0_, .inl k_, .inr (.inr (some (21, (0 + ii_))))], S_)) rfl ?_
      refine sm_T_iast (n := 162) rfl rfl (by omega) (by omega) ?_
      have hIx2_ : gi (sm_aI S_ 21 (0 + ii_) k_.toNat v0_) := gi_aI hI_ (show (-9999) ≤ v0_ ∧ v0_ ≤ 20000 from ⟨by omega, by omega⟩)
      have hFx3_ : ai_fr (sx_W vw_2b9) S0_ (sm_aI S_ 21 (0 + ii_) k_.toNat v0_) := ai_fr_tr hF_ (ai_fr_aI rfl)
      have hCx4_ : cdf ii_ S0_ (sm_aI S_ 21 (0 + ii_) k_.toNat v0_) := cdf_aI hC_ (Or.inr (by rw [show cof 21 = 0 from rfl] <;> omega))
      refine sm_T_inc (a := 2) (z := 1) (v := k_) (w := k_ + 1) rfl rfl (by omega) (by omega) (by omega) ?_ -- pc_ 14
      refine sm_T_go 1 (c1 := (5, [some (.inr (.inr (some (21, (0 + ii_))))), some (.inl v0_), some (.inl (k_ + 1)), some (.inl 162)], [], sm_aI S_ 21 (0 + ii_) k_.toNat v0_)) rfl ?_
      refine ih_ (k_ + 1) (sm_aI S_ 21 (0 + ii_) k_.toNat v0_) hIx2_ hFx3_ ⟨?_, ?_, ?_, trivial⟩ ?_
      · omega
      · intro j_ hj_
        rw [rd_eq]
        by_cases z_ : j_ = k_.toNat
        · rw [if_pos z_]
        · rw [if_neg z_]; exact h1_ j_ (by omega)
      · exact hCx4_
      · omega
set_option maxHeartbeats 400000 in
theorem vc_2b9 {sc_ : Nat × (Nat → Int)} (v0_ : Int) (ii_ : Nat) (S0_ : sm_S) (hI_ : gi S0_) (hv_ : (-9999) ≤ v0_ ∧ v0_ ≤ 20000) : sm_T (mt_P sc_) 0 2 (0, [some (.inr (.inr (some (21, (0 + ii_))))), some (.inl v0_), none, none], [], S0_) (fun ro9_ => ∃ u_ S1_, ro9_ = (.inl u_, S1_, 0) ∧ vq_2b9 v0_ ii_ S0_ u_ S1_) := by
  have hF_ : ai_fr (sx_W vw_2b9) S0_ S0_ := ai_fr_rf
  have hC_ : cdf ii_ S0_ S0_ := cdf_rf
  refine sm_T_go 5 (c1 := (5, [some (.inr (.inr (some (21, (0 + ii_))))), some (.inl v0_), some (.inl 0), some (.inl 162)], [], S0_)) rfl ?_
  refine (vl_2b9 v0_ ii_ S0_ hv_ _) 0 S0_ hI_ hF_ ⟨?_, ?_, ?_, trivial⟩ (Nat.lt_succ_self _)
  · omega
  · (intro j_ hj_; exact absurd hj_ (Nat.not_lt_zero _))
  · exact hC_
end
/-! 99.zkbg -/
section
/-! Board.start -/
def vw_11 : sx_Wl := ([(0, 1), (0, 11), (0, 16), (4, 0)], [16, 17, 18, 19, 20, 21], [])
def vq_11 (ii_ : Nat) (cc_ : Nat) (S0_ : sm_S) (u_ : Option sm_V) (S1_ : sm_S) : Prop := u_ = none ∧ gi S1_ ∧ ai_fr (sx_W vw_11) S0_ S1_ ∧ (cdf ii_ S0_ S1_ ∧ (bpn ii_ S1_ ∧ bpp ii_ cc_ S1_ ∧ S1_.1 0 ii_ 1 = 0 ∧ S1_.1 0 ii_ 11 = 0 ∧ S1_.1 4 (0 + ii_) 0 = 0))
set_option maxHeartbeats 400000 in
set_option maxRecDepth 20000 in
theorem vl_11 {sc_ : Nat × (Nat → Int)} (ii_ : Nat) (cc_ : Nat) (S0_ : sm_S) (hs_ : S0_.1 2 cc_ 1 + S0_.1 2 cc_ 2 ≤ 12) : ∀ nn_ : Nat, (∀ (k_ : Int) (S_ : sm_S), gi S_ → ai_fr (sx_W vw_11) S0_ S_ → ((0 ≤ k_ ∧ k_ ≤ 6 ∧ k_ ≤ S0_.1 2 cc_ 2 ∧ S_.1 0 ii_ 1 = 0) ∧ (S_.1 0 ii_ 11 = 0 ∧ S_.1 4 (0 + ii_) 0 = 0) ∧ (bcn ii_ S_) ∧ (bpw ii_ S_ (k_) (0) (0) (0)) ∧ (cdf ii_ S0_ S_) ∧ True) → ((50000 - k_).toNat) < nn_ → sm_T (mt_P sc_) 2 11 (45, [some (.inr (.inr (some (0, ii_)))), some (.inr (.inr (some (2, cc_)))), some (.inl k_), none, none, none], [], S_) (fun ro9_ => ∃ u_ S1_, ro9_ = (.inl u_, S1_, 0) ∧ vq_11 ii_ cc_ S0_ u_ S1_)) ∧ (∀ (g_ : Int) (S_ : sm_S), gi S_ → ai_fr (sx_W vw_11) S0_ S_ → ((0 ≤ g_ ∧ g_ ≤ 150 ∧ g_ ≤ S0_.1 2 cc_ 8 ∧ S_.1 0 ii_ 1 = 0) ∧ (S_.1 0 ii_ 11 = 0 ∧ S_.1 4 (0 + ii_) 0 = 0) ∧ (bcn ii_ S_) ∧ (bpw ii_ S_ (S0_.1 2 cc_ 2 + g_) (0) (0) (0)) ∧ (cdf ii_ S0_ S_) ∧ True) → ((40000 - 10 * g_).toNat) < nn_ → sm_T (mt_P sc_) 2 11 (96, [some (.inr (.inr (some (0, ii_)))), some (.inr (.inr (some (2, cc_)))), some (.inl g_), none, none, none], [], S_) (fun ro9_ => ∃ u_ S1_, ro9_ = (.inl u_, S1_, 0) ∧ vq_11 ii_ cc_ S0_ u_ S1_)) ∧ (∀ (g_ : Int) (el_ : Int) (is_ : Int) (j_ : Int) (S_ : sm_S), gi S_ → ai_fr (sx_W vw_11) S0_ S_ → ((0 ≤ g_ ∧ g_ < 150 ∧ g_ < S0_.1 2 cc_ 8 ∧ el_ = S0_.1 2 cc_ 2 + g_ ∧ 0 ≤ is_ ∧ is_ ≤ 3 ∧ 0 ≤ j_ ∧ j_ ≤ is_ ∧ S_.1 0 ii_ 1 = 0) ∧ (S_.2.2.1 16 (0 + ii_) el_.toNat = is_ + 1) ∧ (S_.1 0 ii_ 11 = 0 ∧ S_.1 4 (0 + ii_) 0 = 0) ∧ (bcn ii_ S_) ∧ (bpw ii_ S_ (el_) (j_) (0) (0)) ∧ (cdf ii_ S0_ S_) ∧ True) → ((40000 - 10 * g_ - 2 - j_).toNat) < nn_ → sm_T (mt_P sc_) 2 11 (131, [some (.inr (.inr (some (0, ii_)))), some (.inr (.inr (some (2, cc_)))), some (.inl g_), some (.inl el_), some (.inl is_), some (.inl j_)], [], S_) (fun ro9_ => ∃ u_ S1_, ro9_ = (.inl u_, S1_, 0) ∧ vq_11 ii_ cc_ S0_ u_ S1_)) ∧ (∀ (k_ : Int) (S_ : sm_S), gi S_ → ai_fr (sx_W vw_11) S0_ S_ → ((0 ≤ k_ ∧ k_ ≤ 12 ∧ k_ ≤ S0_.1 2 cc_ 1 ∧ S_.1 0 ii_ 1 = 0) ∧ (S_.1 0 ii_ 11 = 0 ∧ S_.1 4 (0 + ii_) 0 = 0) ∧ (bcn ii_ S_) ∧ (bpw ii_ S_ (S0_.1 2 cc_ 2 + S0_.1 2 cc_ 8) (0) (k_) (0)) ∧ (cdf ii_ S0_ S_) ∧ True) → ((20000 - k_).toNat) < nn_ → sm_T (mt_P sc_) 2 11 (189, [some (.inr (.inr (some (0, ii_)))), some (.inr (.inr (some (2, cc_)))), some (.inl k_), none, none, none], [], S_) (fun ro9_ => ∃ u_ S1_, ro9_ = (.inl u_, S1_, 0) ∧ vq_11 ii_ cc_ S0_ u_ S1_)) ∧ (∀ (k_ : Int) (S_ : sm_S), gi S_ → ai_fr (sx_W vw_11) S0_ S_ → ((0 ≤ k_ ∧ k_ ≤ 16 ∧ k_ ≤ S0_.1 2 cc_ 3 ∧ S_.1 0 ii_ 1 = 0) ∧ (S_.1 0 ii_ 11 = 0 ∧ S_.1 4 (0 + ii_) 0 = 0) ∧ (bcn ii_ S_) ∧ (bpw ii_ S_ (S0_.1 2 cc_ 2 + S0_.1 2 cc_ 8) (0) (S0_.1 2 cc_ 1) (k_)) ∧ (cdf ii_ S0_ S_) ∧ True) → ((10000 - k_).toNat) < nn_ → sm_T (mt_P sc_) 2 11 (215, [some (.inr (.inr (some (0, ii_)))), some (.inr (.inr (some (2, cc_)))), some (.inl k_), none, none, none], [], S_) (fun ro9_ => ∃ u_ S1_, ro9_ = (.inl u_, S1_, 0) ∧ vq_11 ii_ cc_ S0_ u_ S1_)) := by
  intro nn_
  induction nn_ with
  | zero => exact ⟨fun _ _ _ _ _ h_ => absurd h_ (Nat.not_lt_zero _), fun _ _ _ _ _ h_ => absurd h_ (Nat.not_lt_zero _), fun _ _ _ _ _ _ _ _ h_ => absurd h_ (Nat.not_lt_zero _), fun _ _ _ _ _ h_ => absurd h_ (Nat.not_lt_zero _), fun _ _ _ _ _ h_ => absurd h_ (Nat.not_lt_zero _)⟩
  | succ nn_ ih_ =>
    refine ⟨?_, ?_, ?_, ?_, ?_⟩
    · rintro k_ S_ hI_ hF_ ⟨h0_, hbz_, hcn_, hw_, hC_, -⟩ hm_
      have d1_ : S_.1 2 cc_ 1 = S0_.1 2 cc_ 1 := hF_.1 2 cc_ 1 rfl
      have d2_ : S_.1 2 cc_ 2 = S0_.1 2 cc_ 2 := hF_.1 2 cc_ 2 rfl
      have d3_ : S_.1 2 cc_ 3 = S0_.1 2 cc_ 3 := hF_.1 2 cc_ 3 rfl
      have d8_ : S_.1 2 cc_ 8 = S0_.1 2 cc_ 8 := hF_.1 2 cc_ 8 rfl
      have k1_ : 0 ≤ S_.1 2 cc_ 1 ∧ S_.1 2 cc_ 1 ≤ 12 := hI_.1 2 cc_ 1 rfl
      have k2_ : 0 ≤ S_.1 2 cc_ 2 ∧ S_.1 2 cc_ 2 ≤ 6 := hI_.1 2 cc_ 2 rfl
      have k3_ : 0 ≤ S_.1 2 cc_ 3 ∧ S_.1 2 cc_ 3 ≤ 16 := hI_.1 2 cc_ 3 rfl
      have k8_ : 0 ≤ S_.1 2 cc_ 8 ∧ S_.1 2 cc_ 8 ≤ 150 := hI_.1 2 cc_ 8 rfl
      have bx1_ : 0 ≤ S_.1 2 cc_ 2 ∧ S_.1 2 cc_ 2 ≤ 6 := hI_.1 2 cc_ 2 rfl
      refine sm_T_go 3 (c1 := (50, [some (.inr (.inr (some (0, ii_)))), some (.inr (.inr (some (2, cc_)))), some (.inl k_), none, none, none], [.inl (S_.1 2 cc_ 2), .inl k_], S_)) rfl ?_
      refine sm_T_br (a := 3) (z := 44) rfl (fun cx2_ => ?_) (fun cx2_ => ?_)
      · have cx2_ : (S_.1 2 cc_ 2) ≤ k_ := of_decide_eq_true cx2_
        refine sm_T_go 2 (c1 := (96, [some (.inr (.inr (some (0, ii_)))), some (.inr (.inr (some (2, cc_)))), some (.inl 0), none, none, none], [], S_)) rfl ?_
        refine ih_.2.1 0 S_ hI_ hF_ ⟨?_, ?_, ?_, ?_, ?_, trivial⟩ ?_
        · omega
        · exact hbz_
        · exact hcn_
        · (rw [show S0_.1 2 cc_ 2 + 0 = k_ by omega]; exact hw_)
        · exact hC_
        · omega
      · have cx2_ : ¬ ((S_.1 2 cc_ 2) ≤ k_) := of_decide_eq_false cx2_
        refine sm_T_go 4 (c1 := (59, [some (.inr (.inr (some (0, ii_)))), some (.inr (.inr (some (2, cc_)))), some (.inl k_), none, none, none], [.inl 2, .inl k_, .inr (.inr (some (16, (0 + ii_))))], S_)) rfl ?_
        refine sm_T_iast (n := 156) rfl rfl (by omega) (by omega) ?_
        have hIx3_ : gi (sm_aI S_ 16 (0 + ii_) k_.toNat 2) := gi_aI hI_ (show 0 ≤ 2 ∧ 2 ≤ 4 from ⟨by omega, by omega⟩)
        have hFx4_ : ai_fr (sx_W vw_11) S0_ (sm_aI S_ 16 (0 + ii_) k_.toNat 2) := ai_fr_tr hF_ (ai_fr_aI rfl)
        have hCx5_ : cdf ii_ S0_ (sm_aI S_ 16 (0 + ii_) k_.toNat 2) := cdf_aI hC_ (Or.inr (by rw [show cof 16 = 0 from rfl] <;> omega))
        refine sm_T_go 3 (c1 := (63, [some (.inr (.inr (some (0, ii_)))), some (.inr (.inr (some (2, cc_)))), some (.inl k_), none, none, none], [.inl k_, .inl 4, .inr (.inr (some (0, ii_)))], sm_aI S_ 16 (0 + ii_) k_.toNat 2)) rfl ?_
        refine sm_T_bin (w := 4 * k_) rfl (bi_mul (by omega) (by omega) (by omega)) ?_ -- pc_ 63
        refine sm_T_go 3 (c1 := (69, [some (.inr (.inr (some (0, ii_)))), some (.inr (.inr (some (2, cc_)))), some (.inl k_), none, none, none], [.inl k_, .inr (.inr (some (38, (0 + cc_)))), .inl (4 * k_), .inr (.inr (some (0, ii_)))], sm_aI S_ 16 (0 + ii_) k_.toNat 2)) rfl ?_
        refine sm_T_iald (n := 6) rfl rfl (by omega) (by omega) ?_
        have bx6_ : (-2) ≤ S_.2.2.1 38 (0 + cc_) k_.toNat ∧ S_.2.2.1 38 (0 + cc_) k_.toNat ≤ 161 := hI_.2 38 (0 + cc_) _
        refine sm_T_go 0 (c1 := (70, [some (.inr (.inr (some (0, ii_)))), some (.inr (.inr (some (2, cc_)))), some (.inl k_), none, none, none], [.inl (S_.2.2.1 38 (0 + cc_) k_.toNat), .inl (4 * k_), .inr (.inr (some (0, ii_)))], sm_aI S_ 16 (0 + ii_) k_.toNat 2)) rfl ?_
        refine sm_T_cal (d1 := 0) (Q1 := vq_12 (4 * k_) (S_.2.2.1 38 (0 + cc_) k_.toNat) ii_ (sm_aI S_ 16 (0 + ii_) k_.toNat 2)) rfl rfl (by decide) (vc_12 (4 * k_) (S_.2.2.1 38 (0 + cc_) k_.toNat) ii_ (sm_aI S_ 16 (0 + ii_) k_.toNat 2) hIx3_ (by omega) (by omega) (by (intro c_ hc_; rw [rd_ne (by decide), rd_ne_ (by decide)]; exact hcn_ c_ hc_)) (by (rw [rd_ne (by decide)]; exact bpw_0 hw_ (by omega) (by omega)))) (fun u_ Sx7_ px10_ => ?_)
        obtain ⟨rfl, hIx8_, hFx9_, px10_⟩ := px10_
        have hFx11_ : ai_fr (sx_W vw_11) S0_ Sx7_ := ai_fr_tr hFx4_ (fr_le hFx9_ rfl)
        obtain ⟨dx13_, px10_⟩ := px10_
        have hCx12_ : cdf ii_ S0_ Sx7_ := cdf_tr hCx5_ (cdf_cg (by omega) dx13_)
        have c70_ := px10_.1
        have s70_ : Sx7_.2.2.1 16 (0 + ii_) = (sm_aI S_ 16 (0 + ii_) k_.toNat 2).2.2.1 16 (0 + ii_) := fr_arr hFx9_ rfl
        have t70_ := px10_.2
        have q70_ := hFx9_.1 0 ii_ 11 rfl
        have u70_ := hFx9_.1 4 (0 + ii_) 0 rfl
        have b70_ : bpw ii_ Sx7_ k_ 1 0 0 := bpw_s (bpw_z hw_ (rd_ne_ (by decide)) (fun j_ => rd_eq) (by omega)) s70_ t70_ (by omega) (by omega) (by omega) (by omega)
        have z70_ : Sx7_.2.2.1 16 (0 + ii_) k_.toNat = 2 := by rw [s70_, rd_eq, if_pos rfl]
        have r70_ := hFx9_.1 0 ii_ 1 rfl
        simp only [rd_af] at r70_
        refine sm_T_go 3 (c1 := (76, [some (.inr (.inr (some (0, ii_)))), some (.inr (.inr (some (2, cc_)))), some (.inl k_), none, none, none], [.inl k_, .inl 4, .inr (.inr (some (0, ii_)))], Sx7_)) rfl ?_
        refine sm_T_bin (w := 4 * k_) rfl (bi_mul (by omega) (by omega) (by omega)) ?_ -- pc_ 76
        refine sm_T_go 1 (c1 := (78, [some (.inr (.inr (some (0, ii_)))), some (.inr (.inr (some (2, cc_)))), some (.inl k_), none, none, none], [.inl 1, .inl (4 * k_), .inr (.inr (some (0, ii_)))], Sx7_)) rfl ?_
        refine sm_T_bin (w := 4 * k_ + 1) rfl (bi_add (by omega) (by omega) (by omega)) ?_ -- pc_ 78
        have bx14_ : 0 ≤ Sx7_.1 2 cc_ 1 ∧ Sx7_.1 2 cc_ 1 ≤ 12 := hIx8_.1 2 cc_ 1 rfl
        refine sm_T_go 3 (c1 := (84, [some (.inr (.inr (some (0, ii_)))), some (.inr (.inr (some (2, cc_)))), some (.inl k_), none, none, none], [.inl k_, .inl (Sx7_.1 2 cc_ 1), .inl (4 * k_ + 1), .inr (.inr (some (0, ii_)))], Sx7_)) rfl ?_
        refine sm_T_bin (w := (Sx7_.1 2 cc_ 1) + k_) rfl (bi_add (by omega) (by omega) (by omega)) ?_ -- pc_ 84
        refine sm_T_cal (d1 := 0) (Q1 := vq_12 (4 * k_ + 1) ((Sx7_.1 2 cc_ 1) + k_) ii_ Sx7_) rfl rfl (by decide) (vc_12 (4 * k_ + 1) ((Sx7_.1 2 cc_ 1) + k_) ii_ Sx7_ hIx8_ (by omega) (by omega) (by exact c70_) (by exact bpw_0 b70_ (by omega) (by omega))) (fun u_ Sx15_ px18_ => ?_)
        obtain ⟨rfl, hIx16_, hFx17_, px18_⟩ := px18_
        have hFx19_ : ai_fr (sx_W vw_11) S0_ Sx15_ := ai_fr_tr hFx11_ (fr_le hFx17_ rfl)
        obtain ⟨dx21_, px18_⟩ := px18_
        have hCx20_ : cdf ii_ S0_ Sx15_ := cdf_tr hCx12_ (cdf_cg (by omega) dx21_)
        have ex22_ : Sx15_.1 2 cc_ 1 = Sx7_.1 2 cc_ 1 := hFx17_.1 2 cc_ 1 rfl
        have c85_ := px18_.1
        have s85_ : Sx15_.2.2.1 16 (0 + ii_) = Sx7_.2.2.1 16 (0 + ii_) := fr_arr hFx17_ rfl
        have t85_ := px18_.2
        have q85_ := hFx17_.1 0 ii_ 11 rfl
        have u85_ := hFx17_.1 4 (0 + ii_) 0 rfl
        have b85_ : bpw ii_ Sx15_ k_ 2 0 0 := bpw_s b70_ s85_ t85_ (by omega) (by omega) (by omega) (by omega)
        have z85_ : Sx15_.2.2.1 16 (0 + ii_) k_.toNat = 2 := by rw [s85_]; exact z70_
        have r85_ := hFx17_.1 0 ii_ 1 rfl
        refine sm_T_inc (a := 2) (z := 1) (v := k_) (w := k_ + 1) rfl rfl (by omega) (by omega) (by omega) ?_ -- pc_ 88
        refine sm_T_go 1 (c1 := (45, [some (.inr (.inr (some (0, ii_)))), some (.inr (.inr (some (2, cc_)))), some (.inl (k_ + 1)), none, none, none], [], Sx15_)) rfl ?_
        refine ih_.1 (k_ + 1) Sx15_ hIx16_ hFx19_ ⟨?_, ?_, ?_, ?_, ?_, trivial⟩ ?_
        · omega
        · exact ⟨q85_.trans (q70_.trans (hbz_.1)), u85_.trans (u70_.trans (hbz_.2))⟩
        · exact c85_
        · exact bpw_e b85_ (by omega) z85_.symm
        · exact hCx20_
        · omega
    · rintro g_ S_ hI_ hF_ ⟨h0_, hbz_, hcn_, hw_, hC_, -⟩ hm_
      have d1_ : S_.1 2 cc_ 1 = S0_.1 2 cc_ 1 := hF_.1 2 cc_ 1 rfl
      have d2_ : S_.1 2 cc_ 2 = S0_.1 2 cc_ 2 := hF_.1 2 cc_ 2 rfl
      have d3_ : S_.1 2 cc_ 3 = S0_.1 2 cc_ 3 := hF_.1 2 cc_ 3 rfl
      have d8_ : S_.1 2 cc_ 8 = S0_.1 2 cc_ 8 := hF_.1 2 cc_ 8 rfl
      have k1_ : 0 ≤ S_.1 2 cc_ 1 ∧ S_.1 2 cc_ 1 ≤ 12 := hI_.1 2 cc_ 1 rfl
      have k2_ : 0 ≤ S_.1 2 cc_ 2 ∧ S_.1 2 cc_ 2 ≤ 6 := hI_.1 2 cc_ 2 rfl
      have k3_ : 0 ≤ S_.1 2 cc_ 3 ∧ S_.1 2 cc_ 3 ≤ 16 := hI_.1 2 cc_ 3 rfl
      have k8_ : 0 ≤ S_.1 2 cc_ 8 ∧ S_.1 2 cc_ 8 ≤ 150 := hI_.1 2 cc_ 8 rfl
      have bx1_ : 0 ≤ S_.1 2 cc_ 8 ∧ S_.1 2 cc_ 8 ≤ 150 := hI_.1 2 cc_ 8 rfl
      refine sm_T_go 3 (c1 := (101, [some (.inr (.inr (some (0, ii_)))), some (.inr (.inr (some (2, cc_)))), some (.inl g_), none, none, none], [.inl (S_.1 2 cc_ 8), .inl g_], S_)) rfl ?_
      refine sm_T_br (a := 3) (z := 86) rfl (fun cx2_ => ?_) (fun cx2_ => ?_)
      · have cx2_ : (S_.1 2 cc_ 8) ≤ g_ := of_decide_eq_true cx2_
        refine sm_T_go 2 (c1 := (189, [some (.inr (.inr (some (0, ii_)))), some (.inr (.inr (some (2, cc_)))), some (.inl 0), none, none, none], [], S_)) rfl ?_
        refine ih_.2.2.2.1 0 S_ hI_ hF_ ⟨?_, ?_, ?_, ?_, ?_, trivial⟩ ?_
        · omega
        · exact hbz_
        · exact hcn_
        · (rw [show S0_.1 2 cc_ 8 = g_ by omega]; exact hw_)
        · exact hC_
        · omega
      · have cx2_ : ¬ ((S_.1 2 cc_ 8) ≤ g_) := of_decide_eq_false cx2_
        have bx3_ : 0 ≤ S_.1 2 cc_ 2 ∧ S_.1 2 cc_ 2 ≤ 6 := hI_.1 2 cc_ 2 rfl
        refine sm_T_go 3 (c1 := (109, [some (.inr (.inr (some (0, ii_)))), some (.inr (.inr (some (2, cc_)))), some (.inl g_), none, none, none], [.inl g_, .inl (S_.1 2 cc_ 2)], S_)) rfl ?_
        refine sm_T_bin (w := (S_.1 2 cc_ 2) + g_) rfl (bi_add (by omega) (by omega) (by omega)) ?_ -- pc_ 109
        refine sm_T_go 3 (c1 := (113, [some (.inr (.inr (some (0, ii_)))), some (.inr (.inr (some (2, cc_)))), some (.inl g_), some (.inl ((S_.1 2 cc_ 2) + g_)), none, none], [.inl g_, .inr (.inr (some (2, cc_)))], S_)) rfl ?_
        refine sm_T_cal (d1 := 0) (Q1 := vq_59 g_ cc_ S_) rfl rfl (by decide) (vc_59 g_ cc_ S_ hI_ (by omega)) (fun u_ Sx4_ px7_ => ?_)
        obtain ⟨rfl, vx9_, rfl, px7_⟩ := px7_
        have n113_ := px7_
        refine sm_T_go 6 (c1 := (126, [some (.inr (.inr (some (0, ii_)))), some (.inr (.inr (some (2, cc_)))), some (.inl g_), some (.inl ((S_.1 2 cc_ 2) + g_)), some (.inl vx9_), none], [.inl 1, .inl vx9_, .inl ((S_.1 2 cc_ 2) + g_), .inr (.inr (some (16, (0 + ii_))))], S_)) rfl ?_
        refine sm_T_bin (w := vx9_ + 1) rfl (bi_add (by omega) (by omega) (by omega)) ?_ -- pc_ 126
        refine sm_T_iast (n := 156) rfl rfl (by omega) (by omega) ?_
        have hIx10_ : gi (sm_aI S_ 16 (0 + ii_) ((S_.1 2 cc_ 2) + g_).toNat (vx9_ + 1)) := gi_aI hI_ (show 0 ≤ vx9_ + 1 ∧ vx9_ + 1 ≤ 4 from ⟨by omega, by omega⟩)
        have hFx11_ : ai_fr (sx_W vw_11) S0_ (sm_aI S_ 16 (0 + ii_) ((S_.1 2 cc_ 2) + g_).toNat (vx9_ + 1)) := ai_fr_tr hF_ (ai_fr_aI rfl)
        have hCx12_ : cdf ii_ S0_ (sm_aI S_ 16 (0 + ii_) ((S_.1 2 cc_ 2) + g_).toNat (vx9_ + 1)) := cdf_aI hC_ (Or.inr (by rw [show cof 16 = 0 from rfl] <;> omega))
        refine sm_T_go 2 (c1 := (131, [some (.inr (.inr (some (0, ii_)))), some (.inr (.inr (some (2, cc_)))), some (.inl g_), some (.inl ((S_.1 2 cc_ 2) + g_)), some (.inl vx9_), some (.inl 0)], [], sm_aI S_ 16 (0 + ii_) ((S_.1 2 cc_ 2) + g_).toNat (vx9_ + 1))) rfl ?_
        refine ih_.2.2.1 g_ ((S_.1 2 cc_ 2) + g_) vx9_ 0 (sm_aI S_ 16 (0 + ii_) ((S_.1 2 cc_ 2) + g_).toNat (vx9_ + 1)) hIx10_ hFx11_ ⟨?_, ?_, ?_, ?_, ?_, ?_, trivial⟩ ?_
        · (simp only [rd_af]; omega)
        · (rw [rd_eq, if_pos (by omega)])
        · exact hbz_
        · (intro c_ hc_; rw [rd_ne (by decide), rd_ne_ (by decide)]; exact hcn_ c_ hc_)
        · exact bpw_z (by rw [d2_]; exact hw_) (rd_ne_ (by decide)) (fun j_ => rd_eq) (by omega)
        · exact hCx12_
        · omega
    · rintro g_ el_ is_ j_ S_ hI_ hF_ ⟨h0_, hz_, hbz_, hcn_, hw_, hC_, -⟩ hm_
      have d1_ : S_.1 2 cc_ 1 = S0_.1 2 cc_ 1 := hF_.1 2 cc_ 1 rfl
      have d2_ : S_.1 2 cc_ 2 = S0_.1 2 cc_ 2 := hF_.1 2 cc_ 2 rfl
      have d3_ : S_.1 2 cc_ 3 = S0_.1 2 cc_ 3 := hF_.1 2 cc_ 3 rfl
      have d8_ : S_.1 2 cc_ 8 = S0_.1 2 cc_ 8 := hF_.1 2 cc_ 8 rfl
      have k1_ : 0 ≤ S_.1 2 cc_ 1 ∧ S_.1 2 cc_ 1 ≤ 12 := hI_.1 2 cc_ 1 rfl
      have k2_ : 0 ≤ S_.1 2 cc_ 2 ∧ S_.1 2 cc_ 2 ≤ 6 := hI_.1 2 cc_ 2 rfl
      have k3_ : 0 ≤ S_.1 2 cc_ 3 ∧ S_.1 2 cc_ 3 ≤ 16 := hI_.1 2 cc_ 3 rfl
      have k8_ : 0 ≤ S_.1 2 cc_ 8 ∧ S_.1 2 cc_ 8 ≤ 150 := hI_.1 2 cc_ 8 rfl
      refine sm_T_go 2 (c1 := (135, [some (.inr (.inr (some (0, ii_)))), some (.inr (.inr (some (2, cc_)))), some (.inl g_), some (.inl el_), some (.inl is_), some (.inl j_)], [.inl is_, .inl j_], S_)) rfl ?_
      refine sm_T_br (a := 3) (z := 30) rfl (fun cx1_ => ?_) (fun cx1_ => ?_)
      · have cx1_ : is_ ≤ j_ := of_decide_eq_true cx1_
        refine sm_T_go 3 (c1 := (168, [some (.inr (.inr (some (0, ii_)))), some (.inr (.inr (some (2, cc_)))), some (.inl g_), some (.inl el_), some (.inl is_), some (.inl j_)], [.inl el_, .inl 4, .inr (.inr (some (0, ii_)))], S_)) rfl ?_
        refine sm_T_bin (w := 4 * el_) rfl (bi_mul (by omega) (by omega) (by omega)) ?_ -- pc_ 168
        refine sm_T_go 1 (c1 := (171, [some (.inr (.inr (some (0, ii_)))), some (.inr (.inr (some (2, cc_)))), some (.inl g_), some (.inl el_), some (.inl is_), some (.inl j_)], [.inl is_, .inl (4 * el_), .inr (.inr (some (0, ii_)))], S_)) rfl ?_
        refine sm_T_bin (w := 4 * el_ + is_) rfl (bi_add (by omega) (by omega) (by omega)) ?_ -- pc_ 171
        refine sm_T_go 1 (c1 := (173, [some (.inr (.inr (some (0, ii_)))), some (.inr (.inr (some (2, cc_)))), some (.inl g_), some (.inl el_), some (.inl is_), some (.inl j_)], [.inr (.inr (some (2, cc_))), .inl (4 * el_ + is_), .inr (.inr (some (0, ii_)))], S_)) rfl ?_
        refine sm_T_cal (d1 := 0) (Q1 := vq_54 cc_ S_) rfl rfl (by decide) (vc_54 cc_ S_ hI_ ) (fun u_ Sx2_ px5_ => ?_)
        obtain ⟨rfl, vx7_, rfl, px5_⟩ := px5_
        have n173_ := px5_
        refine sm_T_go 1 (c1 := (177, [some (.inr (.inr (some (0, ii_)))), some (.inr (.inr (some (2, cc_)))), some (.inl g_), some (.inl el_), some (.inl is_), some (.inl j_)], [.inl g_, .inl vx7_, .inl (4 * el_ + is_), .inr (.inr (some (0, ii_)))], S_)) rfl ?_
        refine sm_T_bin (w := vx7_ + g_) rfl (bi_add (by omega) (by omega) (by omega)) ?_ -- pc_ 177
        refine sm_T_cal (d1 := 0) (Q1 := vq_12 (4 * el_ + is_) (vx7_ + g_) ii_ S_) rfl rfl (by decide) (vc_12 (4 * el_ + is_) (vx7_ + g_) ii_ S_ hI_ (by omega) (by omega) (by exact hcn_) (by exact bpw_0 hw_ (by omega) (by omega))) (fun u_ Sx8_ px11_ => ?_)
        obtain ⟨rfl, hIx9_, hFx10_, px11_⟩ := px11_
        have hFx12_ : ai_fr (sx_W vw_11) S0_ Sx8_ := ai_fr_tr hF_ (fr_le hFx10_ rfl)
        obtain ⟨dx14_, px11_⟩ := px11_
        have hCx13_ : cdf ii_ S0_ Sx8_ := cdf_tr hC_ (cdf_cg (by omega) dx14_)
        have c178_ := px11_.1
        have s178_ : Sx8_.2.2.1 16 (0 + ii_) = S_.2.2.1 16 (0 + ii_) := fr_arr hFx10_ rfl
        have t178_ := px11_.2
        have q178_ := hFx10_.1 0 ii_ 11 rfl
        have u178_ := hFx10_.1 4 (0 + ii_) 0 rfl
        have b178_ : bpw ii_ Sx8_ el_ (is_ + 1) 0 0 := bpw_s hw_ s178_ t178_ (by omega) (by omega) (by omega) (by omega)
        have r178_ := hFx10_.1 0 ii_ 1 rfl
        refine sm_T_inc (a := 2) (z := 1) (v := g_) (w := g_ + 1) rfl rfl (by omega) (by omega) (by omega) ?_ -- pc_ 181
        refine sm_T_go 1 (c1 := (96, [some (.inr (.inr (some (0, ii_)))), some (.inr (.inr (some (2, cc_)))), some (.inl (g_ + 1)), some (.inl el_), some (.inl is_), some (.inl j_)], [], Sx8_)) rfl ?_
        refine sm_T_wk [some (.inr (.inr (some (0, ii_)))), some (.inr (.inr (some (2, cc_)))), some (.inl (g_ + 1)), none, none, none] (by exact ⟨rfl, rfl, rfl, trivial⟩) ?_
        refine ih_.2.1 (g_ + 1) Sx8_ hIx9_ hFx12_ ⟨?_, ?_, ?_, ?_, ?_, trivial⟩ ?_
        · omega
        · exact ⟨q178_.trans (hbz_.1), u178_.trans (hbz_.2)⟩
        · exact c178_
        · (rw [show S0_.1 2 cc_ 2 + (g_ + 1) = el_ + 1 by omega]; exact bpw_e b178_ (by omega) (by rw [s178_]; exact hz_.symm))
        · exact hCx13_
        · omega
      · have cx1_ : ¬ (is_ ≤ j_) := of_decide_eq_false cx1_
        refine sm_T_go 3 (c1 := (141, [some (.inr (.inr (some (0, ii_)))), some (.inr (.inr (some (2, cc_)))), some (.inl g_), some (.inl el_), some (.inl is_), some (.inl j_)], [.inl el_, .inl 4, .inr (.inr (some (0, ii_)))], S_)) rfl ?_
        refine sm_T_bin (w := 4 * el_) rfl (bi_mul (by omega) (by omega) (by omega)) ?_ -- pc_ 141
        refine sm_T_go 1 (c1 := (144, [some (.inr (.inr (some (0, ii_)))), some (.inr (.inr (some (2, cc_)))), some (.inl g_), some (.inl el_), some (.inl is_), some (.inl j_)], [.inl j_, .inl (4 * el_), .inr (.inr (some (0, ii_)))], S_)) rfl ?_
        refine sm_T_bin (w := 4 * el_ + j_) rfl (bi_add (by omega) (by omega) (by omega)) ?_ -- pc_ 144
        refine sm_T_go 4 (c1 := (151, [some (.inr (.inr (some (0, ii_)))), some (.inr (.inr (some (2, cc_)))), some (.inl g_), some (.inl el_), some (.inl is_), some (.inl j_)], [.inl g_, .inl 3, .inr (.inr (some (36, (0 + cc_)))), .inl (4 * el_ + j_), .inr (.inr (some (0, ii_)))], S_)) rfl ?_
        refine sm_T_bin (w := 3 * g_) rfl (bi_mul (by omega) (by omega) (by omega)) ?_ -- pc_ 151
        refine sm_T_go 1 (c1 := (154, [some (.inr (.inr (some (0, ii_)))), some (.inr (.inr (some (2, cc_)))), some (.inl g_), some (.inl el_), some (.inl is_), some (.inl j_)], [.inl j_, .inl (3 * g_), .inr (.inr (some (36, (0 + cc_)))), .inl (4 * el_ + j_), .inr (.inr (some (0, ii_)))], S_)) rfl ?_
        refine sm_T_bin (w := 3 * g_ + j_) rfl (bi_add (by omega) (by omega) (by omega)) ?_ -- pc_ 154
        refine sm_T_iald (n := 450) rfl rfl (by omega) (by omega) ?_
        have bx15_ : 0 ≤ S_.2.2.1 36 (0 + cc_) (3 * g_ + j_).toNat ∧ S_.2.2.1 36 (0 + cc_) (3 * g_ + j_).toNat ≤ 161 := hI_.2 36 (0 + cc_) _
        refine sm_T_cal (d1 := 0) (Q1 := vq_12 (4 * el_ + j_) (S_.2.2.1 36 (0 + cc_) (3 * g_ + j_).toNat) ii_ S_) rfl rfl (by decide) (vc_12 (4 * el_ + j_) (S_.2.2.1 36 (0 + cc_) (3 * g_ + j_).toNat) ii_ S_ hI_ (by omega) (by omega) (by exact hcn_) (by exact bpw_0 hw_ (by omega) (by omega))) (fun u_ Sx16_ px19_ => ?_)
        obtain ⟨rfl, hIx17_, hFx18_, px19_⟩ := px19_
        have hFx20_ : ai_fr (sx_W vw_11) S0_ Sx16_ := ai_fr_tr hF_ (fr_le hFx18_ rfl)
        obtain ⟨dx22_, px19_⟩ := px19_
        have hCx21_ : cdf ii_ S0_ Sx16_ := cdf_tr hC_ (cdf_cg (by omega) dx22_)
        have c156_ := px19_.1
        have s156_ : Sx16_.2.2.1 16 (0 + ii_) = S_.2.2.1 16 (0 + ii_) := fr_arr hFx18_ rfl
        have t156_ := px19_.2
        have q156_ := hFx18_.1 0 ii_ 11 rfl
        have u156_ := hFx18_.1 4 (0 + ii_) 0 rfl
        have b156_ : bpw ii_ Sx16_ el_ (j_ + 1) 0 0 := bpw_s hw_ s156_ t156_ (by omega) (by omega) (by omega) (by omega)
        have r156_ := hFx18_.1 0 ii_ 1 rfl
        refine sm_T_inc (a := 5) (z := 1) (v := j_) (w := j_ + 1) rfl rfl (by omega) (by omega) (by omega) ?_ -- pc_ 159
        refine sm_T_go 1 (c1 := (131, [some (.inr (.inr (some (0, ii_)))), some (.inr (.inr (some (2, cc_)))), some (.inl g_), some (.inl el_), some (.inl is_), some (.inl (j_ + 1))], [], Sx16_)) rfl ?_
        refine ih_.2.2.1 g_ el_ is_ (j_ + 1) Sx16_ hIx17_ hFx20_ ⟨?_, ?_, ?_, ?_, ?_, ?_, trivial⟩ ?_
        · omega
        · (rw [s156_]; exact hz_)
        · exact ⟨q156_.trans (hbz_.1), u156_.trans (hbz_.2)⟩
        · exact c156_
        · exact b156_
        · exact hCx21_
        · omega
    · rintro k_ S_ hI_ hF_ ⟨h0_, hbz_, hcn_, hw_, hC_, -⟩ hm_
      have d1_ : S_.1 2 cc_ 1 = S0_.1 2 cc_ 1 := hF_.1 2 cc_ 1 rfl
      have d2_ : S_.1 2 cc_ 2 = S0_.1 2 cc_ 2 := hF_.1 2 cc_ 2 rfl
      have d3_ : S_.1 2 cc_ 3 = S0_.1 2 cc_ 3 := hF_.1 2 cc_ 3 rfl
      have d8_ : S_.1 2 cc_ 8 = S0_.1 2 cc_ 8 := hF_.1 2 cc_ 8 rfl
      have k1_ : 0 ≤ S_.1 2 cc_ 1 ∧ S_.1 2 cc_ 1 ≤ 12 := hI_.1 2 cc_ 1 rfl
      have k2_ : 0 ≤ S_.1 2 cc_ 2 ∧ S_.1 2 cc_ 2 ≤ 6 := hI_.1 2 cc_ 2 rfl
      have k3_ : 0 ≤ S_.1 2 cc_ 3 ∧ S_.1 2 cc_ 3 ≤ 16 := hI_.1 2 cc_ 3 rfl
      have k8_ : 0 ≤ S_.1 2 cc_ 8 ∧ S_.1 2 cc_ 8 ≤ 150 := hI_.1 2 cc_ 8 rfl
      have bx1_ : 0 ≤ S_.1 2 cc_ 1 ∧ S_.1 2 cc_ 1 ≤ 12 := hI_.1 2 cc_ 1 rfl
      refine sm_T_go 3 (c1 := (194, [some (.inr (.inr (some (0, ii_)))), some (.inr (.inr (some (2, cc_)))), some (.inl k_), none, none, none], [.inl (S_.1 2 cc_ 1), .inl k_], S_)) rfl ?_
      refine sm_T_br (a := 3) (z := 19) rfl (fun cx2_ => ?_) (fun cx2_ => ?_)
      · have cx2_ : (S_.1 2 cc_ 1) ≤ k_ := of_decide_eq_true cx2_
        refine sm_T_go 2 (c1 := (215, [some (.inr (.inr (some (0, ii_)))), some (.inr (.inr (some (2, cc_)))), some (.inl 0), none, none, none], [], S_)) rfl ?_
        refine ih_.2.2.2.2 0 S_ hI_ hF_ ⟨?_, ?_, ?_, ?_, ?_, trivial⟩ ?_
        · omega
        · exact hbz_
        · exact hcn_
        · (rw [show S0_.1 2 cc_ 1 = k_ by omega]; exact hw_)
        · exact hC_
        · omega
      · have cx2_ : ¬ ((S_.1 2 cc_ 1) ≤ k_) := of_decide_eq_false cx2_
        refine sm_T_go 3 (c1 := (202, [some (.inr (.inr (some (0, ii_)))), some (.inr (.inr (some (2, cc_)))), some (.inl k_), none, none, none], [.inl k_, .inl 624, .inr (.inr (some (0, ii_)))], S_)) rfl ?_
        refine sm_T_bin (w := k_ + 624) rfl (bi_add (by omega) (by omega) (by omega)) ?_ -- pc_ 202
        refine sm_T_go 1 (c1 := (204, [some (.inr (.inr (some (0, ii_)))), some (.inr (.inr (some (2, cc_)))), some (.inl k_), none, none, none], [.inl k_, .inl (k_ + 624), .inr (.inr (some (0, ii_)))], S_)) rfl ?_
        refine sm_T_cal (d1 := 0) (Q1 := vq_12 (k_ + 624) k_ ii_ S_) rfl rfl (by decide) (vc_12 (k_ + 624) k_ ii_ S_ hI_ (by omega) (by omega) (by exact hcn_) (by exact bpw_0 hw_ (by omega) (by omega))) (fun u_ Sx3_ px6_ => ?_)
        obtain ⟨rfl, hIx4_, hFx5_, px6_⟩ := px6_
        have hFx7_ : ai_fr (sx_W vw_11) S0_ Sx3_ := ai_fr_tr hF_ (fr_le hFx5_ rfl)
        obtain ⟨dx9_, px6_⟩ := px6_
        have hCx8_ : cdf ii_ S0_ Sx3_ := cdf_tr hC_ (cdf_cg (by omega) dx9_)
        have ex10_ : Sx3_.1 2 cc_ 1 = S_.1 2 cc_ 1 := hFx5_.1 2 cc_ 1 rfl
        have c204_ := px6_.1
        have s204_ : Sx3_.2.2.1 16 (0 + ii_) = S_.2.2.1 16 (0 + ii_) := fr_arr hFx5_ rfl
        have t204_ := px6_.2
        have q204_ := hFx5_.1 0 ii_ 11 rfl
        have u204_ := hFx5_.1 4 (0 + ii_) 0 rfl
        have b204_ : bpw ii_ Sx3_ (S0_.1 2 cc_ 2 + S0_.1 2 cc_ 8) 0 (k_ + 1) 0 := bpw_s hw_ s204_ t204_ (by omega) (by omega) (by omega) (by omega)
        have r204_ := hFx5_.1 0 ii_ 1 rfl
        refine sm_T_inc (a := 2) (z := 1) (v := k_) (w := k_ + 1) rfl rfl (by omega) (by omega) (by omega) ?_ -- pc_ 207
        refine sm_T_go 1 (c1 := (189, [some (.inr (.inr (some (0, ii_)))), some (.inr (.inr (some (2, cc_)))), some (.inl (k_ + 1)), none, none, none], [], Sx3_)) rfl ?_
        refine ih_.2.2.2.1 (k_ + 1) Sx3_ hIx4_ hFx7_ ⟨?_, ?_, ?_, ?_, ?_, trivial⟩ ?_
        · omega
        · exact ⟨q204_.trans (hbz_.1), u204_.trans (hbz_.2)⟩
        · exact c204_
        · exact b204_
        · exact hCx8_
        · omega
    · rintro k_ S_ hI_ hF_ ⟨h0_, hbz_, hcn_, hw_, hC_, -⟩ hm_
      have d1_ : S_.1 2 cc_ 1 = S0_.1 2 cc_ 1 := hF_.1 2 cc_ 1 rfl
      have d2_ : S_.1 2 cc_ 2 = S0_.1 2 cc_ 2 := hF_.1 2 cc_ 2 rfl
      have d3_ : S_.1 2 cc_ 3 = S0_.1 2 cc_ 3 := hF_.1 2 cc_ 3 rfl
      have d8_ : S_.1 2 cc_ 8 = S0_.1 2 cc_ 8 := hF_.1 2 cc_ 8 rfl
      have k1_ : 0 ≤ S_.1 2 cc_ 1 ∧ S_.1 2 cc_ 1 ≤ 12 := hI_.1 2 cc_ 1 rfl
      have k2_ : 0 ≤ S_.1 2 cc_ 2 ∧ S_.1 2 cc_ 2 ≤ 6 := hI_.1 2 cc_ 2 rfl
      have k3_ : 0 ≤ S_.1 2 cc_ 3 ∧ S_.1 2 cc_ 3 ≤ 16 := hI_.1 2 cc_ 3 rfl
      have k8_ : 0 ≤ S_.1 2 cc_ 8 ∧ S_.1 2 cc_ 8 ≤ 150 := hI_.1 2 cc_ 8 rfl
      have bx1_ : 0 ≤ S_.1 2 cc_ 3 ∧ S_.1 2 cc_ 3 ≤ 16 := hI_.1 2 cc_ 3 rfl
      refine sm_T_go 3 (c1 := (220, [some (.inr (.inr (some (0, ii_)))), some (.inr (.inr (some (2, cc_)))), some (.inl k_), none, none, none], [.inl (S_.1 2 cc_ 3), .inl k_], S_)) rfl ?_
      refine sm_T_br (a := 3) (z := 24) rfl (fun cx2_ => ?_) (fun cx2_ => ?_)
      · have cx2_ : (S_.1 2 cc_ 3) ≤ k_ := of_decide_eq_true cx2_
        refine sm_T_go 1 (c1 := (245, [some (.inr (.inr (some (0, ii_)))), some (.inr (.inr (some (2, cc_)))), some (.inl k_), none, none, none], [.inr (.inr (some (0, ii_)))], S_)) rfl ?_
        refine sm_T_cal (d1 := 0) (Q1 := vq_13 ii_ S_) rfl rfl (by decide) (vc_13 ii_ S_ hI_ (by exact hcn_)) (fun u_ Sx3_ px6_ => ?_)
        obtain ⟨rfl, hIx4_, hFx5_, px6_⟩ := px6_
        have hFx7_ : ai_fr (sx_W vw_11) S0_ Sx3_ := ai_fr_tr hF_ (fr_le hFx5_ rfl)
        obtain ⟨dx9_, px6_⟩ := px6_
        have hCx8_ : cdf ii_ S0_ Sx3_ := cdf_tr hC_ (cdf_cg (by omega) dx9_)
        have ex10_ : Sx3_.1 2 cc_ 3 = S_.1 2 cc_ 3 := hFx5_.1 2 cc_ 3 rfl
        have p245_ := px6_
        have q245_ := hFx5_.1 0 ii_ 11 rfl
        have u245_ := hFx5_.1 4 (0 + ii_) 0 rfl
        have w245_ : bpw ii_ Sx3_ (S0_.1 2 cc_ 2 + S0_.1 2 cc_ 8) 0 (S0_.1 2 cc_ 1) (S0_.1 2 cc_ 3) := by (intro p9_ hp9_ hn9_; rw [(hFx5_.2.2 17 rfl (0 + ii_) p9_).1] at hn9_; have w9_ := hw_ p9_ hp9_ hn9_; rw [(hFx5_.2.2 16 rfl (0 + ii_) (p9_ / 4)).1]; omega)
        have r245_ := hFx5_.1 0 ii_ 1 rfl
        have d1z := hFx5_.1 2 cc_ 1 rfl
        have d2z := hFx5_.1 2 cc_ 2 rfl
        have d3z := hFx5_.1 2 cc_ 3 rfl
        have d8z := hFx5_.1 2 cc_ 8 rfl
        refine sm_T_rv rfl ⟨_, _, rfl, rfl, hIx4_, hFx7_, ?_⟩
        refine ⟨hCx8_, ?_⟩
        refine ⟨p245_, bpw_p w245_ (by omega) (by omega) (by omega), by omega, q245_.trans hbz_.1, u245_.trans hbz_.2⟩
      · have cx2_ : ¬ ((S_.1 2 cc_ 3) ≤ k_) := of_decide_eq_false cx2_
        refine sm_T_go 3 (c1 := (228, [some (.inr (.inr (some (0, ii_)))), some (.inr (.inr (some (2, cc_)))), some (.inl k_), none, none, none], [.inl k_, .inl 636, .inr (.inr (some (0, ii_)))], S_)) rfl ?_
        refine sm_T_bin (w := k_ + 636) rfl (bi_add (by omega) (by omega) (by omega)) ?_ -- pc_ 228
        refine sm_T_go 3 (c1 := (234, [some (.inr (.inr (some (0, ii_)))), some (.inr (.inr (some (2, cc_)))), some (.inl k_), none, none, none], [.inl k_, .inr (.inr (some (37, (0 + cc_)))), .inl (k_ + 636), .inr (.inr (some (0, ii_)))], S_)) rfl ?_
        refine sm_T_iald (n := 16) rfl rfl (by omega) (by omega) ?_
        have bx11_ : (-2) ≤ S_.2.2.1 37 (0 + cc_) k_.toNat ∧ S_.2.2.1 37 (0 + cc_) k_.toNat ≤ 161 := hI_.2 37 (0 + cc_) _
        refine sm_T_cal (d1 := 0) (Q1 := vq_12 (k_ + 636) (S_.2.2.1 37 (0 + cc_) k_.toNat) ii_ S_) rfl rfl (by decide) (vc_12 (k_ + 636) (S_.2.2.1 37 (0 + cc_) k_.toNat) ii_ S_ hI_ (by omega) (by omega) (by exact hcn_) (by exact bpw_0 hw_ (by omega) (by omega))) (fun u_ Sx12_ px15_ => ?_)
        obtain ⟨rfl, hIx13_, hFx14_, px15_⟩ := px15_
        have hFx16_ : ai_fr (sx_W vw_11) S0_ Sx12_ := ai_fr_tr hF_ (fr_le hFx14_ rfl)
        obtain ⟨dx18_, px15_⟩ := px15_
        have hCx17_ : cdf ii_ S0_ Sx12_ := cdf_tr hC_ (cdf_cg (by omega) dx18_)
        have ex19_ : Sx12_.1 2 cc_ 3 = S_.1 2 cc_ 3 := hFx14_.1 2 cc_ 3 rfl
        have c235_ := px15_.1
        have s235_ : Sx12_.2.2.1 16 (0 + ii_) = S_.2.2.1 16 (0 + ii_) := fr_arr hFx14_ rfl
        have t235_ := px15_.2
        have q235_ := hFx14_.1 0 ii_ 11 rfl
        have u235_ := hFx14_.1 4 (0 + ii_) 0 rfl
        have b235_ : bpw ii_ Sx12_ (S0_.1 2 cc_ 2 + S0_.1 2 cc_ 8) 0 (S0_.1 2 cc_ 1) (k_ + 1) := bpw_s hw_ s235_ t235_ (by omega) (by omega) (by omega) (by omega)
        have r235_ := hFx14_.1 0 ii_ 1 rfl
        refine sm_T_inc (a := 2) (z := 1) (v := k_) (w := k_ + 1) rfl rfl (by omega) (by omega) (by omega) ?_ -- pc_ 238
        refine sm_T_go 1 (c1 := (215, [some (.inr (.inr (some (0, ii_)))), some (.inr (.inr (some (2, cc_)))), some (.inl (k_ + 1)), none, none, none], [], Sx12_)) rfl ?_
        refine ih_.2.2.2.2 (k_ + 1) Sx12_ hIx13_ hFx16_ ⟨?_, ?_, ?_, ?_, ?_, trivial⟩ ?_
        · omega
        · exact ⟨q235_.trans (hbz_.1), u235_.trans (hbz_.2)⟩
        · exact c235_
        · exact b235_
        · exact hCx17_
        · omega
set_option maxHeartbeats 400000 in
set_option maxRecDepth 20000 in
theorem vc_11 {sc_ : Nat × (Nat → Int)} (ii_ : Nat) (cc_ : Nat) (S0_ : sm_S) (hI_ : gi S0_) (hs_ : S0_.1 2 cc_ 1 + S0_.1 2 cc_ 2 ≤ 12) : sm_T (mt_P sc_) 2 11 (0, [some (.inr (.inr (some (0, ii_)))), some (.inr (.inr (some (2, cc_)))), none, none, none, none], [], S0_) (fun ro9_ => ∃ u_ S1_, ro9_ = (.inl u_, S1_, 0) ∧ vq_11 ii_ cc_ S0_ u_ S1_) := by
  have hF_ : ai_fr (sx_W vw_11) S0_ S0_ := ai_fr_rf
  have hC_ : cdf ii_ S0_ S0_ := cdf_rf
  have kz1_ : 0 ≤ S0_.1 2 cc_ 1 ∧ S0_.1 2 cc_ 1 ≤ 12 := hI_.1 2 cc_ 1 rfl
  have kz2_ : 0 ≤ S0_.1 2 cc_ 2 ∧ S0_.1 2 cc_ 2 ≤ 6 := hI_.1 2 cc_ 2 rfl
  have kz3_ : 0 ≤ S0_.1 2 cc_ 3 ∧ S0_.1 2 cc_ 3 ≤ 16 := hI_.1 2 cc_ 3 rfl
  have kz8_ : 0 ≤ S0_.1 2 cc_ 8 ∧ S0_.1 2 cc_ 8 ≤ 150 := hI_.1 2 cc_ 8 rfl
  have hIx1_ : gi (sm_pI S0_ 0 ii_ 1 0) := gi_pI hI_ (show 0 ≤ 0 ∧ 0 ≤ 12 from ⟨by omega, by omega⟩)
  have hFx2_ : ai_fr (sx_W vw_11) S0_ (sm_pI S0_ 0 ii_ 1 0) := ai_fr_tr hF_ (ai_fr_pI rfl)
  have hCx3_ : cdf ii_ S0_ (sm_pI S0_ 0 ii_ 1 0) := cdf_pI hC_ (Or.inr (by rw [show cof 0 = 0 from rfl] <;> omega))
  refine sm_T_go 4 (c1 := (6, [some (.inr (.inr (some (0, ii_)))), some (.inr (.inr (some (2, cc_)))), none, none, none, none], [.inr (.inr (some (0, ii_)))], sm_pI S0_ 0 ii_ 1 0)) rfl ?_
  refine sm_T_cal (d1 := 0) (Q1 := vq_15 ii_ (sm_pI S0_ 0 ii_ 1 0)) rfl rfl (by decide) (vc_15 ii_ (sm_pI S0_ 0 ii_ 1 0) hIx1_ ) (fun u_ Sx4_ px7_ => ?_)
  obtain ⟨rfl, hIx5_, hFx6_, px7_⟩ := px7_
  have hFx8_ : ai_fr (sx_W vw_11) S0_ Sx4_ := ai_fr_tr hFx2_ (fr_le hFx6_ rfl)
  obtain ⟨dx10_, px7_⟩ := px7_
  have hCx9_ : cdf ii_ S0_ Sx4_ := cdf_tr hCx3_ (cdf_cg (by omega) dx10_)
  have z6_ := px7_
  have r6_ := hFx6_.1 0 ii_ 1 rfl
  rw [rf_eq] at r6_
  have bx11_ : (-2147483648) ≤ Sx4_.1 0 ii_ 16 ∧ Sx4_.1 0 ii_ 16 ≤ 2147483647 := hIx5_.1 0 ii_ 16 rfl
  refine sm_T_go 4 (c1 := (15, [some (.inr (.inr (some (0, ii_)))), some (.inr (.inr (some (2, cc_)))), none, none, none, none], [.inl 1, .inl (Sx4_.1 0 ii_ 16), .inr (.inr (some (0, ii_)))], Sx4_)) rfl ?_
  refine sm_T_bin (w := (i_add (Sx4_.1 0 ii_ 16) 1)) rfl rfl ?_ -- pc_ 15
  have bx12_ := i_add_r (Sx4_.1 0 ii_ 16) 1
  have hIx13_ : gi (sm_pI Sx4_ 0 ii_ 16 (i_add (Sx4_.1 0 ii_ 16) 1)) := gi_pI hIx5_ (show (-2147483648) ≤ (i_add (Sx4_.1 0 ii_ 16) 1) ∧ (i_add (Sx4_.1 0 ii_ 16) 1) ≤ 2147483647 from ⟨by omega, by omega⟩)
  have hFx14_ : ai_fr (sx_W vw_11) S0_ (sm_pI Sx4_ 0 ii_ 16 (i_add (Sx4_.1 0 ii_ 16) 1)) := ai_fr_tr hFx8_ (ai_fr_pI rfl)
  have hCx15_ : cdf ii_ S0_ (sm_pI Sx4_ 0 ii_ 16 (i_add (Sx4_.1 0 ii_ 16) 1)) := cdf_pI hCx9_ (Or.inr (by rw [show cof 0 = 0 from rfl] <;> omega))
  refine sm_T_go 4 (c1 := (24, [some (.inr (.inr (some (0, ii_)))), some (.inr (.inr (some (2, cc_)))), none, none, none, none], [.inl (-1), .inr (.inr (some (17, (0 + ii_))))], sm_pI Sx4_ 0 ii_ 16 (i_add (Sx4_.1 0 ii_ 16) 1))) rfl ?_
  refine sm_T_cal (d1 := 0) (Q1 := vq_2b7 (-1) ii_ (sm_pI Sx4_ 0 ii_ 16 (i_add (Sx4_.1 0 ii_ 16) 1))) rfl rfl (by decide) (vc_2b7 (-1) ii_ (sm_pI Sx4_ 0 ii_ 16 (i_add (Sx4_.1 0 ii_ 16) 1)) hIx13_ (by decide)) (fun u_ Sx16_ px19_ => ?_)
  obtain ⟨rfl, hIx17_, hFx18_, px19_⟩ := px19_
  have hFx20_ : ai_fr (sx_W vw_11) S0_ Sx16_ := ai_fr_tr hFx14_ (fr_le hFx18_ rfl)
  obtain ⟨dx22_, px19_⟩ := px19_
  have hCx21_ : cdf ii_ S0_ Sx16_ := cdf_tr hCx15_ (cdf_cg (by omega) dx22_)
  have e24_ := px19_
  have r24_ := hFx18_.1 0 ii_ 1 rfl
  rw [rf_nk (by decide), r6_] at r24_
  have q24_ := hFx18_.1 0 ii_ 11 rfl
  rw [rf_nk (by decide), z6_.1] at q24_
  have u24_ := hFx18_.1 4 (0 + ii_) 0 rfl
  rw [rf_nt (by decide), z6_.2] at u24_
  refine sm_T_go 3 (c1 := (32, [some (.inr (.inr (some (0, ii_)))), some (.inr (.inr (some (2, cc_)))), none, none, none, none], [.inl 0, .inr (.inr (some (20, (0 + ii_))))], Sx16_)) rfl ?_
  refine sm_T_cal (d1 := 0) (Q1 := vq_2b8 0 ii_ Sx16_) rfl rfl (by decide) (vc_2b8 0 ii_ Sx16_ hIx17_ (by decide)) (fun u_ Sx23_ px26_ => ?_)
  obtain ⟨rfl, hIx24_, hFx25_, px26_⟩ := px26_
  have hFx27_ : ai_fr (sx_W vw_11) S0_ Sx23_ := ai_fr_tr hFx20_ (fr_le hFx25_ rfl)
  obtain ⟨dx29_, px26_⟩ := px26_
  have hCx28_ : cdf ii_ S0_ Sx23_ := cdf_tr hCx21_ (cdf_cg (by omega) dx29_)
  have e32_ := px26_
  have f32_ := hFx25_.2.2 17 rfl (0 + ii_)
  have r32_ := hFx25_.1 0 ii_ 1 rfl
  rw [r24_] at r32_
  have q32_ := (hFx25_.1 0 ii_ 11 rfl).trans q24_
  have u32_ := (hFx25_.1 4 (0 + ii_) 0 rfl).trans u24_
  refine sm_T_go 3 (c1 := (40, [some (.inr (.inr (some (0, ii_)))), some (.inr (.inr (some (2, cc_)))), none, none, none, none], [.inl 0, .inr (.inr (some (21, (0 + ii_))))], Sx23_)) rfl ?_
  refine sm_T_cal (d1 := 0) (Q1 := vq_2b9 0 ii_ Sx23_) rfl rfl (by decide) (vc_2b9 0 ii_ Sx23_ hIx24_ (by decide)) (fun u_ Sx30_ px33_ => ?_)
  obtain ⟨rfl, hIx31_, hFx32_, px33_⟩ := px33_
  have hFx34_ : ai_fr (sx_W vw_11) S0_ Sx30_ := ai_fr_tr hFx27_ (fr_le hFx32_ rfl)
  obtain ⟨dx36_, px33_⟩ := px33_
  have hCx35_ : cdf ii_ S0_ Sx30_ := cdf_tr hCx28_ (cdf_cg (by omega) dx36_)
  have f40_ := hFx32_.2.2 17 rfl (0 + ii_)
  have g40_ := hFx32_.2.2 20 rfl (0 + ii_)
  have r40_ := hFx32_.1 0 ii_ 1 rfl
  rw [r32_] at r40_
  have q40_ := (hFx32_.1 0 ii_ 11 rfl).trans q32_
  have u40_ := (hFx32_.1 4 (0 + ii_) 0 rfl).trans u32_
  refine sm_T_go 2 (c1 := (45, [some (.inr (.inr (some (0, ii_)))), some (.inr (.inr (some (2, cc_)))), some (.inl 0), none, none, none], [], Sx30_)) rfl ?_
  refine (vl_11 ii_ cc_ S0_ hs_ _).1 0 Sx30_ hIx31_ hFx34_ ⟨?_, ?_, ?_, ?_, ?_, trivial⟩ (Nat.lt_succ_self _)
  · omega
  · exact ⟨q40_, u40_⟩
  · intro c_ hc_
    rw [(g40_ c_).1, e32_ c_ (by omega), cne_0 (fun p9_ hp9_ => ?_)]
    · rfl
    · rw [(f40_ p9_).1, (f32_ p9_).1, e24_ p9_ hp9_]; omega
  · intro p9_ hp9_ hn9_
    rw [(f40_ p9_).1, (f32_ p9_).1, e24_ p9_ hp9_] at hn9_
    exact absurd rfl hn9_
  · exact hCx35_
end
