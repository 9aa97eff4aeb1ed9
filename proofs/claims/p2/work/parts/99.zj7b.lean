/-! Board.listPins -/
def vw_13 : sx_Wl := ([], [18, 19, 20], [])
def vq_13 (ii_ : Nat) (S0_ : sm_S) (u_ : Option sm_V) (S1_ : sm_S) : Prop := u_ = none ∧ gi S1_ ∧ ai_fr (sx_W vw_13) S0_ S1_ ∧ (cdf ii_ S0_ S1_ ∧ (bpn ii_ S1_))
set_option maxHeartbeats 400000 in
theorem vl_13 {sc_ : Nat × (Nat → Int)} (ii_ : Nat) (S0_ : sm_S) (hcn_ : bcn ii_ S0_) : ∀ nn_ : Nat, (∀ (bh_ : Int) (nt_ : Int) (S_ : sm_S), gi S_ → ai_fr (sx_W vw_13) S0_ S_ → ((0 ≤ bh_ ∧ 0 ≤ nt_ ∧ nt_ ≤ 162) ∧ (bh_ = (scn (S0_.2.2.1 17 (0 + ii_)) 652 nt_.toNat : Int)) ∧ (∀ c_ : Nat, (c_ : Int) < nt_ → S_.2.2.1 19 (0 + ii_) c_ = (scn (S0_.2.2.1 17 (0 + ii_)) 652 c_ : Int) ∧ S_.2.2.1 20 (0 + ii_) c_ = 0) ∧ (∀ c_ : Nat, nt_ ≤ (c_ : Int) → c_ < 162 → S_.2.2.1 20 (0 + ii_) c_ = (cne (S0_.2.2.1 17 (0 + ii_)) (c_ : Int) 652 : Int)) ∧ (cdf ii_ S0_ S_) ∧ True) → ((2000 - nt_).toNat) < nn_ → sm_T (mt_P sc_) 0 13 (4, [some (.inr (.inr (some (0, ii_)))), some (.inl bh_), some (.inl nt_), none], [], S_) (fun ro9_ => ∃ u_ S1_, ro9_ = (.inl u_, S1_, 0) ∧ vq_13 ii_ S0_ u_ S1_)) ∧ (∀ (pn_ : Int) (S_ : sm_S), gi S_ → ai_fr (sx_W vw_13) S0_ S_ → ((0 ≤ pn_ ∧ pn_ ≤ 652) ∧ (∀ c_ : Nat, c_ < 162 → S_.2.2.1 19 (0 + ii_) c_ = (scn (S0_.2.2.1 17 (0 + ii_)) 652 c_ : Int) ∧ S_.2.2.1 20 (0 + ii_) c_ = (cne (S0_.2.2.1 17 (0 + ii_)) (c_ : Int) pn_.toNat : Int)) ∧ (∀ c_ : Nat, c_ < 162 → ∀ k_ : Nat, (k_ : Int) < S_.2.2.1 20 (0 + ii_) c_ → (S0_.2.2.1 17 (0 + ii_)) (S_.2.2.1 18 (0 + ii_) ((S_.2.2.1 19 (0 + ii_) c_).toNat + k_)).toNat = (c_ : Int)) ∧ (cdf ii_ S0_ S_) ∧ True) → ((1000 - pn_).toNat) < nn_ → sm_T (mt_P sc_) 0 13 (42, [some (.inr (.inr (some (0, ii_)))), none, some (.inl pn_), none], [], S_) (fun ro9_ => ∃ u_ S1_, ro9_ = (.inl u_, S1_, 0) ∧ vq_13 ii_ S0_ u_ S1_)) := by
  intro nn_
  induction nn_ with
  | zero => exact ⟨fun _ _ _ _ _ _ h_ => absurd h_ (Nat.not_lt_zero _), fun _ _ _ _ _ h_ => absurd h_ (Nat.not_lt_zero _)⟩
  | succ nn_ ih_ =>
    refine ⟨?_, ?_⟩
    · rintro bh_ nt_ S_ hI_ hF_ ⟨h0_, h1_, h2_, h3_, hC_, -⟩ hm_
      have sl9_ := scn_le (f := (S0_.2.2.1 17 (0 + ii_))) nt_.toNat 652
      refine sm_T_go 2 (c1 := (8, [some (.inr (.inr (some (0, ii_)))), some (.inl bh_), some (.inl nt_), none], [.inl 162, .inl nt_], S_)) rfl ?_
      refine sm_T_br (a := 3) (z := 32) rfl (fun cx1_ => ?_) (fun cx1_ => ?_)
      · have cx1_ : 162 ≤ nt_ := of_decide_eq_true cx1_
        refine sm_T_go 2 (c1 := (42, [some (.inr (.inr (some (0, ii_)))), some (.inl bh_), some (.inl 0), none], [], S_)) rfl ?_
        refine sm_T_wk [some (.inr (.inr (some (0, ii_)))), none, some (.inl 0), none] (by exact ⟨rfl, rfl, trivial⟩) ?_
        refine ih_.2 0 S_ hI_ hF_ ⟨?_, ?_, ?_, ?_, trivial⟩ ?_
        · omega
        · intro c_ hc_
          have z_ := h2_ c_ (by omega)
          exact ⟨z_.1, z_.2.trans rfl⟩
        · intro c_ hc_ k_ hk_
          have z_ := h2_ c_ (by omega)
          exfalso; omega
        · exact hC_
        · omega
      · have cx1_ : ¬ (162 ≤ nt_) := of_decide_eq_false cx1_
        have c9_ := h3_ nt_.toNat (by omega) (by omega)
        have m9_ := scn_mo (f := (S0_.2.2.1 17 (0 + ii_))) (n := 652) (a := nt_.toNat) (b := 162) (by omega)
        have q9_ := scn_le (f := (S0_.2.2.1 17 (0 + ii_))) 162 652
        refine sm_T_go 4 (c1 := (17, [some (.inr (.inr (some (0, ii_)))), some (.inl bh_), some (.inl nt_), none], [.inl bh_, .inl nt_, .inr (.inr (some (19, (0 + ii_))))], S_)) rfl ?_
        refine sm_T_iast (n := 162) rfl rfl (by omega) (by omega) ?_
        have hIx2_ : gi (sm_aI S_ 19 (0 + ii_) nt_.toNat bh_) := gi_aI hI_ (show 0 ≤ bh_ ∧ bh_ ≤ 652 from ⟨by omega, by omega⟩)
        have hFx3_ : ai_fr (sx_W vw_13) S0_ (sm_aI S_ 19 (0 + ii_) nt_.toNat bh_) := ai_fr_tr hF_ (ai_fr_aI rfl)
        have hCx4_ : cdf ii_ S0_ (sm_aI S_ 19 (0 + ii_) nt_.toNat bh_) := cdf_aI hC_ (Or.inr (by rw [show cof 19 = 0 from rfl] <;> omega))
        refine sm_T_go 4 (c1 := (24, [some (.inr (.inr (some (0, ii_)))), some (.inl bh_), some (.inl nt_), none], [.inl nt_, .inr (.inr (some (20, (0 + ii_)))), .inl bh_], sm_aI S_ 19 (0 + ii_) nt_.toNat bh_)) rfl ?_
        refine sm_T_iald (n := 162) rfl rfl (by omega) (by omega) ?_
        have bx5_ : 0 ≤ S_.2.2.1 20 (0 + ii_) nt_.toNat ∧ S_.2.2.1 20 (0 + ii_) nt_.toNat ≤ 652 := hI_.2 20 (0 + ii_) _
        refine sm_T_go 0 (c1 := (25, [some (.inr (.inr (some (0, ii_)))), some (.inl bh_), some (.inl nt_), none], [.inl (S_.2.2.1 20 (0 + ii_) nt_.toNat), .inl bh_], sm_aI S_ 19 (0 + ii_) nt_.toNat bh_)) rfl ?_
        refine sm_T_bin (w := bh_ + (S_.2.2.1 20 (0 + ii_) nt_.toNat)) rfl (bi_add (by omega) (by omega) (by omega)) ?_ -- pc_ 25
        refine sm_T_go 5 (c1 := (33, [some (.inr (.inr (some (0, ii_)))), some (.inl (bh_ + (S_.2.2.1 20 (0 + ii_) nt_.toNat))), some (.inl nt_), none], [.inl 0, .inl nt_, .inr (.inr (some (20, (0 + ii_))))], sm_aI S_ 19 (0 + ii_) nt_.toNat bh_)) rfl ?_
        refine sm_T_iast (n := 162) rfl rfl (by omega) (by omega) ?_
        have hIx6_ : gi (sm_aI (sm_aI S_ 19 (0 + ii_) nt_.toNat bh_) 20 (0 + ii_) nt_.toNat 0) := gi_aI hIx2_ (show 0 ≤ 0 ∧ 0 ≤ 652 from ⟨by omega, by omega⟩)
        have hFx7_ : ai_fr (sx_W vw_13) S0_ (sm_aI (sm_aI S_ 19 (0 + ii_) nt_.toNat bh_) 20 (0 + ii_) nt_.toNat 0) := ai_fr_tr hFx3_ (ai_fr_aI rfl)
        have hCx8_ : cdf ii_ S0_ (sm_aI (sm_aI S_ 19 (0 + ii_) nt_.toNat bh_) 20 (0 + ii_) nt_.toNat 0) := cdf_aI hCx4_ (Or.inr (by rw [show cof 20 = 0 from rfl] <;> omega))
        refine sm_T_inc (a := 2) (z := 1) (v := nt_) (w := nt_ + 1) rfl rfl (by omega) (by omega) (by omega) ?_ -- pc_ 34
        refine sm_T_go 1 (c1 := (4, [some (.inr (.inr (some (0, ii_)))), some (.inl (bh_ + (S_.2.2.1 20 (0 + ii_) nt_.toNat))), some (.inl (nt_ + 1)), none], [], sm_aI (sm_aI S_ 19 (0 + ii_) nt_.toNat bh_) 20 (0 + ii_) nt_.toNat 0)) rfl ?_
        refine ih_.1 (bh_ + (S_.2.2.1 20 (0 + ii_) nt_.toNat)) (nt_ + 1) (sm_aI (sm_aI S_ 19 (0 + ii_) nt_.toNat bh_) 20 (0 + ii_) nt_.toNat 0) hIx6_ hFx7_ ⟨?_, ?_, ?_, ?_, ?_, trivial⟩ ?_
        · omega
        · (rw [show (nt_ + 1).toNat = nt_.toNat + 1 by omega]; show _ = ((scn (S0_.2.2.1 17 (0 + ii_)) 652 nt_.toNat + cne (S0_.2.2.1 17 (0 + ii_)) (nt_.toNat : Int) 652 : Nat) : Int); push_cast; omega)
        · intro c_ hc_
          (try simp only [rd_eq, rd_ne, rf_eq, rf_nk, rf_nt, rd_fa, rd_af, rd_fl, rd_al, rd_lf, rd_la, rd_leq, rd_lne, rd_fr, rd_ar, ne_eq, Nat.reduceEqDiff, not_false_eq_true])
          by_cases z_ : c_ = nt_.toNat
          · rw [if_pos z_, if_pos z_, z_]; exact ⟨h1_, rfl⟩
          · rw [if_neg z_, if_neg z_]; exact h2_ c_ (by omega)
        · intro c_ hc_ h_
          (try simp only [rd_eq, rd_ne, rf_eq, rf_nk, rf_nt, rd_fa, rd_af, rd_fl, rd_al, rd_lf, rd_la, rd_leq, rd_lne, rd_fr, rd_ar, ne_eq, Nat.reduceEqDiff, not_false_eq_true])
          rw [if_neg (by omega)]
          exact h3_ c_ (by omega) h_
        · exact hCx8_
        · omega
    · rintro pn_ S_ hI_ hF_ ⟨h0_, h2_, h4_, hC_, -⟩ hm_
      have f17_ : S_.2.2.1 17 (0 + ii_) = (S0_.2.2.1 17 (0 + ii_)) := fr_arr hF_ rfl
      refine sm_T_go 2 (c1 := (46, [some (.inr (.inr (some (0, ii_)))), none, some (.inl pn_), none], [.inl 652, .inl pn_], S_)) rfl ?_
      refine sm_T_br (a := 3) (z := 50) rfl (fun cx1_ => ?_) (fun cx1_ => ?_)
      · have cx1_ : 652 ≤ pn_ := of_decide_eq_true cx1_
        refine sm_T_rv rfl ⟨_, _, rfl, rfl, hI_, hF_, ?_⟩
        refine ⟨hC_, ?_⟩
        intro c_ hc_
        have z9_ : pn_.toNat = 652 := by omega
        have g9_ := h2_ c_ hc_
        rw [z9_] at g9_
        have m9_ := scn_mo (f := (S0_.2.2.1 17 (0 + ii_))) (n := 652) (a := c_) (b := 162) hc_
        have q9_ := scn_le (f := (S0_.2.2.1 17 (0 + ii_))) 162 652
        refine ⟨by omega, fun k_ hk_ => ?_⟩
        rw [f17_]
        exact h4_ c_ hc_ k_ hk_
      · have cx1_ : ¬ (652 ≤ pn_) := of_decide_eq_false cx1_
        refine sm_T_go 3 (c1 := (54, [some (.inr (.inr (some (0, ii_)))), none, some (.inl pn_), none], [.inl pn_, .inr (.inr (some (17, (0 + ii_))))], S_)) rfl ?_
        refine sm_T_iald (n := 652) rfl rfl (by omega) (by omega) ?_
        have bx2_ : (-1) ≤ S_.2.2.1 17 (0 + ii_) pn_.toNat ∧ S_.2.2.1 17 (0 + ii_) pn_.toNat ≤ 161 := hI_.2 17 (0 + ii_) _
        refine sm_T_go 3 (c1 := (58, [some (.inr (.inr (some (0, ii_)))), none, some (.inl pn_), some (.inl (S_.2.2.1 17 (0 + ii_) pn_.toNat))], [.inl (-1), .inl (S_.2.2.1 17 (0 + ii_) pn_.toNat)], S_)) rfl ?_
        refine sm_T_br (a := 0) (z := 32) rfl (fun cx3_ => ?_) (fun cx3_ => ?_)
        · have cx3_ : (S_.2.2.1 17 (0 + ii_) pn_.toNat) = (-1) := of_decide_eq_true cx3_
          refine sm_T_inc (a := 2) (z := 1) (v := pn_) (w := pn_ + 1) rfl rfl (by omega) (by omega) (by omega) ?_ -- pc_ 90
          refine sm_T_go 1 (c1 := (42, [some (.inr (.inr (some (0, ii_)))), none, some (.inl (pn_ + 1)), some (.inl (S_.2.2.1 17 (0 + ii_) pn_.toNat))], [], S_)) rfl ?_
          refine sm_T_wk [some (.inr (.inr (some (0, ii_)))), none, some (.inl (pn_ + 1)), none] (by exact ⟨rfl, rfl, trivial⟩) ?_
          refine ih_.2 (pn_ + 1) S_ hI_ hF_ ⟨?_, ?_, ?_, ?_, trivial⟩ ?_
          · omega
          · intro c_ hc_
            have z_ := h2_ c_ hc_
            refine ⟨z_.1, z_.2.trans ?_⟩
            rw [show (pn_ + 1).toNat = pn_.toNat + 1 by omega, cne_s, if_neg (by rw [← f17_]; omega)]; rfl
          · exact h4_
          · exact hC_
          · omega
        · have cx3_ : ¬ ((S_.2.2.1 17 (0 + ii_) pn_.toNat) = (-1)) := of_decide_eq_false cx3_
          have g9_ := h2_ (S_.2.2.1 17 (0 + ii_) pn_.toNat).toNat (by omega)
          have m9_ := scn_mo (f := (S0_.2.2.1 17 (0 + ii_))) (n := 652) (a := (S_.2.2.1 17 (0 + ii_) pn_.toNat).toNat) (b := 162) (by omega)
          have q9_ := scn_le (f := (S0_.2.2.1 17 (0 + ii_))) 162 652
          rw [show (((S_.2.2.1 17 (0 + ii_) pn_.toNat).toNat : Nat) : Int) = (S_.2.2.1 17 (0 + ii_) pn_.toNat) by omega] at m9_ g9_
          have s9_ := cne_st (f := (S0_.2.2.1 17 (0 + ii_))) (c := (S_.2.2.1 17 (0 + ii_) pn_.toNat)) (j := pn_.toNat) (by rw [f17_]) (n := 652) (by omega)
          refine sm_T_go 5 (c1 := (70, [some (.inr (.inr (some (0, ii_)))), none, some (.inl pn_), some (.inl (S_.2.2.1 17 (0 + ii_) pn_.toNat))], [.inl (S_.2.2.1 17 (0 + ii_) pn_.toNat), .inr (.inr (some (19, (0 + ii_)))), .inr (.inr (some (18, (0 + ii_))))], S_)) rfl ?_
          refine sm_T_iald (n := 162) rfl rfl (by omega) (by omega) ?_
          have bx4_ : 0 ≤ S_.2.2.1 19 (0 + ii_) (S_.2.2.1 17 (0 + ii_) pn_.toNat).toNat ∧ S_.2.2.1 19 (0 + ii_) (S_.2.2.1 17 (0 + ii_) pn_.toNat).toNat ≤ 652 := hI_.2 19 (0 + ii_) _
          refine sm_T_go 3 (c1 := (76, [some (.inr (.inr (some (0, ii_)))), none, some (.inl pn_), some (.inl (S_.2.2.1 17 (0 + ii_) pn_.toNat))], [.inl (S_.2.2.1 17 (0 + ii_) pn_.toNat), .inr (.inr (some (20, (0 + ii_)))), .inl (S_.2.2.1 19 (0 + ii_) (S_.2.2.1 17 (0 + ii_) pn_.toNat).toNat), .inr (.inr (some (18, (0 + ii_))))], S_)) rfl ?_
          refine sm_T_iald (n := 162) rfl rfl (by omega) (by omega) ?_
          have bx5_ : 0 ≤ S_.2.2.1 20 (0 + ii_) (S_.2.2.1 17 (0 + ii_) pn_.toNat).toNat ∧ S_.2.2.1 20 (0 + ii_) (S_.2.2.1 17 (0 + ii_) pn_.toNat).toNat ≤ 652 := hI_.2 20 (0 + ii_) _
          refine sm_T_bin (w := (S_.2.2.1 19 (0 + ii_) (S_.2.2.1 17 (0 + ii_) pn_.toNat).toNat) + (S_.2.2.1 20 (0 + ii_) (S_.2.2.1 17 (0 + ii_) pn_.toNat).toNat)) rfl (bi_add (by omega) (by omega) (by omega)) ?_ -- pc_ 77
          refine sm_T_go 1 (c1 := (79, [some (.inr (.inr (some (0, ii_)))), none, some (.inl pn_), some (.inl (S_.2.2.1 17 (0 + ii_) pn_.toNat))], [.inl pn_, .inl ((S_.2.2.1 19 (0 + ii_) (S_.2.2.1 17 (0 + ii_) pn_.toNat).toNat) + (S_.2.2.1 20 (0 + ii_) (S_.2.2.1 17 (0 + ii_) pn_.toNat).toNat)), .inr (.inr (some (18, (0 + ii_))))], S_)) rfl ?_
          refine sm_T_iast (n := 652) rfl rfl (by omega) (by omega) ?_
          have hIx6_ : gi (sm_aI S_ 18 (0 + ii_) ((S_.2.2.1 19 (0 + ii_) (S_.2.2.1 17 (0 + ii_) pn_.toNat).toNat) + (S_.2.2.1 20 (0 + ii_) (S_.2.2.1 17 (0 + ii_) pn_.toNat).toNat)).toNat pn_) := gi_aI hI_ (show 0 ≤ pn_ ∧ pn_ ≤ 651 from ⟨by omega, by omega⟩)
          have hFx7_ : ai_fr (sx_W vw_13) S0_ (sm_aI S_ 18 (0 + ii_) ((S_.2.2.1 19 (0 + ii_) (S_.2.2.1 17 (0 + ii_) pn_.toNat).toNat) + (S_.2.2.1 20 (0 + ii_) (S_.2.2.1 17 (0 + ii_) pn_.toNat).toNat)).toNat pn_) := ai_fr_tr hF_ (ai_fr_aI rfl)
          have hCx8_ : cdf ii_ S0_ (sm_aI S_ 18 (0 + ii_) ((S_.2.2.1 19 (0 + ii_) (S_.2.2.1 17 (0 + ii_) pn_.toNat).toNat) + (S_.2.2.1 20 (0 + ii_) (S_.2.2.1 17 (0 + ii_) pn_.toNat).toNat)).toNat pn_) := cdf_aI hC_ (Or.inr (by rw [show cof 18 = 0 from rfl] <;> omega))
          refine sm_T_go 4 (c1 := (86, [some (.inr (.inr (some (0, ii_)))), none, some (.inl pn_), some (.inl (S_.2.2.1 17 (0 + ii_) pn_.toNat))], [.inl (S_.2.2.1 17 (0 + ii_) pn_.toNat), .inr (.inr (some (20, (0 + ii_)))), .inl (S_.2.2.1 17 (0 + ii_) pn_.toNat), .inr (.inr (some (20, (0 + ii_))))], sm_aI S_ 18 (0 + ii_) ((S_.2.2.1 19 (0 + ii_) (S_.2.2.1 17 (0 + ii_) pn_.toNat).toNat) + (S_.2.2.1 20 (0 + ii_) (S_.2.2.1 17 (0 + ii_) pn_.toNat).toNat)).toNat pn_)) rfl ?_
          refine sm_T_iald (n := 162) rfl rfl (by omega) (by omega) ?_
          refine sm_T_go 1 (c1 := (88, [some (.inr (.inr (some (0, ii_)))), none, some (.inl pn_), some (.inl (S_.2.2.1 17 (0 + ii_) pn_.toNat))], [.inl 1, .inl (S_.2.2.1 20 (0 + ii_) (S_.2.2.1 17 (0 + ii_) pn_.toNat).toNat), .inl (S_.2.2.1 17 (0 + ii_) pn_.toNat), .inr (.inr (some (20, (0 + ii_))))], sm_aI S_ 18 (0 + ii_) ((S_.2.2.1 19 (0 + ii_) (S_.2.2.1 17 (0 + ii_) pn_.toNat).toNat) + (S_.2.2.1 20 (0 + ii_) (S_.2.2.1 17 (0 + ii_) pn_.toNat).toNat)).toNat pn_)) rfl ?_
          refine sm_T_bin (w := (S_.2.2.1 20 (0 + ii_) (S_.2.2.1 17 (0 + ii_) pn_.toNat).toNat) + 1) rfl (bi_add (by omega) (by omega) (by omega)) ?_ -- pc_ 88
          refine sm_T_iast (n := 162) rfl rfl (by omega) (by omega) ?_
          have hIx9_ : gi (sm_aI (sm_aI S_ 18 (0 + ii_) ((S_.2.2.1 19 (0 + ii_) (S_.2.2.1 17 (0 + ii_) pn_.toNat).toNat) + (S_.2.2.1 20 (0 + ii_) (S_.2.2.1 17 (0 + ii_) pn_.toNat).toNat)).toNat pn_) 20 (0 + ii_) (S_.2.2.1 17 (0 + ii_) pn_.toNat).toNat ((S_.2.2.1 20 (0 + ii_) (S_.2.2.1 17 (0 + ii_) pn_.toNat).toNat) + 1)) := gi_aI hIx6_ (show 0 ≤ (S_.2.2.1 20 (0 + ii_) (S_.2.2.1 17 (0 + ii_) pn_.toNat).toNat) + 1 ∧ (S_.2.2.1 20 (0 + ii_) (S_.2.2.1 17 (0 + ii_) pn_.toNat).toNat) + 1 ≤ 652 from ⟨by omega, by omega⟩)
          have hFx10_ : ai_fr (sx_W vw_13) S0_ (sm_aI (sm_aI S_ 18 (0 + ii_) ((S_.2.2.1 19 (0 + ii_) (S_.2.2.1 17 (0 + ii_) pn_.toNat).toNat) + (S_.2.2.1 20 (0 + ii_) (S_.2.2.1 17 (0 + ii_) pn_.toNat).toNat)).toNat pn_) 20 (0 + ii_) (S_.2.2.1 17 (0 + ii_) pn_.toNat).toNat ((S_.2.2.1 20 (0 + ii_) (S_.2.2.1 17 (0 + ii_) pn_.toNat).toNat) + 1)) := ai_fr_tr hFx7_ (ai_fr_aI rfl)
          have hCx11_ : cdf ii_ S0_ (sm_aI (sm_aI S_ 18 (0 + ii_) ((S_.2.2.1 19 (0 + ii_) (S_.2.2.1 17 (0 + ii_) pn_.toNat).toNat) + (S_.2.2.1 20 (0 + ii_) (S_.2.2.1 17 (0 + ii_) pn_.toNat).toNat)).toNat pn_) 20 (0 + ii_) (S_.2.2.1 17 (0 + ii_) pn_.toNat).toNat ((S_.2.2.1 20 (0 + ii_) (S_.2.2.1 17 (0 + ii_) pn_.toNat).toNat) + 1)) := cdf_aI hCx8_ (Or.inr (by rw [show cof 20 = 0 from rfl] <;> omega))
          refine sm_T_inc (a := 2) (z := 1) (v := pn_) (w := pn_ + 1) rfl rfl (by omega) (by omega) (by omega) ?_ -- pc_ 90
          refine sm_T_go 1 (c1 := (42, [some (.inr (.inr (some (0, ii_)))), none, some (.inl (pn_ + 1)), some (.inl (S_.2.2.1 17 (0 + ii_) pn_.toNat))], [], sm_aI (sm_aI S_ 18 (0 + ii_) ((S_.2.2.1 19 (0 + ii_) (S_.2.2.1 17 (0 + ii_) pn_.toNat).toNat) + (S_.2.2.1 20 (0 + ii_) (S_.2.2.1 17 (0 + ii_) pn_.toNat).toNat)).toNat pn_) 20 (0 + ii_) (S_.2.2.1 17 (0 + ii_) pn_.toNat).toNat ((S_.2.2.1 20 (0 + ii_) (S_.2.2.1 17 (0 + ii_) pn_.toNat).toNat) + 1))) rfl ?_
          refine sm_T_wk [some (.inr (.inr (some (0, ii_)))), none, some (.inl (pn_ + 1)), none] (by exact ⟨rfl, rfl, trivial⟩) ?_
          refine ih_.2 (pn_ + 1) (sm_aI (sm_aI S_ 18 (0 + ii_) ((S_.2.2.1 19 (0 + ii_) (S_.2.2.1 17 (0 + ii_) pn_.toNat).toNat) + (S_.2.2.1 20 (0 + ii_) (S_.2.2.1 17 (0 + ii_) pn_.toNat).toNat)).toNat pn_) 20 (0 + ii_) (S_.2.2.1 17 (0 + ii_) pn_.toNat).toNat ((S_.2.2.1 20 (0 + ii_) (S_.2.2.1 17 (0 + ii_) pn_.toNat).toNat) + 1)) hIx9_ hFx10_ ⟨?_, ?_, ?_, ?_, trivial⟩ ?_
          · omega
          · intro c_ hc_
            have z_ := h2_ c_ hc_
            (try simp only [rd_eq, rd_ne, rf_eq, rf_nk, rf_nt, rd_fa, rd_af, rd_fl, rd_al, rd_lf, rd_la, rd_leq, rd_lne, rd_fr, rd_ar, ne_eq, Nat.reduceEqDiff, not_false_eq_true])
            refine ⟨z_.1, ?_⟩
            rw [show (pn_ + 1).toNat = pn_.toNat + 1 by omega, cne_s]
            by_cases y_ : c_ = (S_.2.2.1 17 (0 + ii_) pn_.toNat).toNat
            · rw [if_pos y_, if_pos (by rw [← f17_]; omega), y_, show (((S_.2.2.1 17 (0 + ii_) pn_.toNat).toNat : Nat) : Int) = (S_.2.2.1 17 (0 + ii_) pn_.toNat) by omega, g9_.2]; push_cast; rfl
            · rw [if_neg y_, if_neg (by rw [← f17_]; omega), z_.2]; push_cast; omega
          · intro c_ hc_ k_ hk_
            (try simp only [rd_eq, rd_ne, rf_eq, rf_nk, rf_nt, rd_fa, rd_af, rd_fl, rd_al, rd_lf, rd_la, rd_leq, rd_lne, rd_fr, rd_ar, ne_eq, Nat.reduceEqDiff, not_false_eq_true] at hk_ ⊢)
            have z_ := h2_ c_ hc_
            have w_ := h2_ (S_.2.2.1 17 (0 + ii_) pn_.toNat).toNat (by omega)
            by_cases y_ : c_ = (S_.2.2.1 17 (0 + ii_) pn_.toNat).toNat
            · rw [if_pos y_] at hk_
              by_cases x_ : (k_ : Int) = S_.2.2.1 20 (0 + ii_) (S_.2.2.1 17 (0 + ii_) pn_.toNat).toNat
              · rw [if_pos (by rw [y_]; omega), ← f17_, y_]; omega
              · rw [if_neg (by rw [y_]; omega)]; exact h4_ c_ hc_ k_ (by rw [y_]; omega)
            · rw [if_neg y_] at hk_
              have o1_ := cne_mo (f := (S0_.2.2.1 17 (0 + ii_))) (c := (c_ : Int)) (n := pn_.toNat) (m := 652) (by omega)
              have o2_ : c_ < (S_.2.2.1 17 (0 + ii_) pn_.toNat).toNat → (scn (S0_.2.2.1 17 (0 + ii_)) 652 c_ + cne (S0_.2.2.1 17 (0 + ii_)) (c_ : Int) 652 ≤ scn (S0_.2.2.1 17 (0 + ii_)) 652 (S_.2.2.1 17 (0 + ii_) pn_.toNat).toNat) := fun u_ => scn_mo u_
              have o3_ : (S_.2.2.1 17 (0 + ii_) pn_.toNat).toNat < c_ → (scn (S0_.2.2.1 17 (0 + ii_)) 652 (S_.2.2.1 17 (0 + ii_) pn_.toNat).toNat + cne (S0_.2.2.1 17 (0 + ii_)) (S_.2.2.1 17 (0 + ii_) pn_.toNat) 652 ≤ scn (S0_.2.2.1 17 (0 + ii_)) 652 c_) := fun u_ => by have v_ := scn_mo (f := (S0_.2.2.1 17 (0 + ii_))) (n := 652) u_; rw [show (((S_.2.2.1 17 (0 + ii_) pn_.toNat).toNat : Nat) : Int) = (S_.2.2.1 17 (0 + ii_) pn_.toNat) by omega] at v_; exact v_
              have o4_ : c_ < (S_.2.2.1 17 (0 + ii_) pn_.toNat).toNat ∨ (S_.2.2.1 17 (0 + ii_) pn_.toNat).toNat < c_ := by omega
              have o5_ : (S_.2.2.1 19 (0 + ii_) c_).toNat + k_ ≠ (S_.2.2.1 19 (0 + ii_) (S_.2.2.1 17 (0 + ii_) pn_.toNat).toNat + S_.2.2.1 20 (0 + ii_) (S_.2.2.1 17 (0 + ii_) pn_.toNat).toNat).toNat := by rcases o4_ with u_ | u_; (have v_ := o2_ u_; omega); (have v_ := o3_ u_; omega)
              rw [if_neg o5_]
              exact h4_ c_ hc_ k_ hk_
          · exact hCx11_
          · omega
set_option maxHeartbeats 400000 in
theorem vc_13 {sc_ : Nat × (Nat → Int)} (ii_ : Nat) (S0_ : sm_S) (hI_ : gi S0_) (hcn_ : bcn ii_ S0_) : sm_T (mt_P sc_) 0 13 (0, [some (.inr (.inr (some (0, ii_)))), none, none, none], [], S0_) (fun ro9_ => ∃ u_ S1_, ro9_ = (.inl u_, S1_, 0) ∧ vq_13 ii_ S0_ u_ S1_) := by
  have hF_ : ai_fr (sx_W vw_13) S0_ S0_ := ai_fr_rf
  have hC_ : cdf ii_ S0_ S0_ := cdf_rf
  refine sm_T_go 4 (c1 := (4, [some (.inr (.inr (some (0, ii_)))), some (.inl 0), some (.inl 0), none], [], S0_)) rfl ?_
  refine (vl_13 ii_ S0_ hcn_ _).1 0 0 S0_ hI_ hF_ ⟨?_, ?_, ?_, ?_, ?_, trivial⟩ (Nat.lt_succ_self _)
  · omega
  · rfl
  · (intro c_ hc_; exfalso; omega)
  · (intro c_ hc_ h_; exact hcn_ c_ h_)
  · exact hC_
