/-! ChipFlow.keepWitness -/
def vw_277 : sx_Wl := ([(12, 16)], [117], [])
def vq_277 (lp_ : Int) (li_ : Int) (S0_ : sm_S) (u_ : Option sm_V) (S1_ : sm_S) : Prop := u_ = none ∧ gi S1_ ∧ ai_fr (sx_W vw_277) S0_ S1_ ∧ (0 ≤ (S1_.1 12 0 16))
set_option maxHeartbeats 400000 in
theorem vl_277 {sc_ : Nat × (Nat → Int)} (lp_ : Int) (li_ : Int) (S0_ : sm_S) (hp_ : prf S0_) (h1_ : 0 ≤ lp_ ∧ lp_ ≤ 4095) (h2_ : 0 ≤ li_ ∧ li_ ≤ 4095) (h3_ : S0_.2.2.1 113 0 lp_.toNat ≠ -2) : ∀ nn_ : Nat, (∀ (ck_ : Int) (pr_ : Int) (S_ : sm_S), gi S_ → ai_fr (sx_W vw_277) S0_ S_ → ((1 ≤ ck_ ∧ ck_ ≤ 4096 ∧ 0 ≤ pr_ ∧ pr_ ≤ 4095) ∧ (S0_.2.2.1 113 0 pr_.toNat ≠ -2) ∧ (pr_ = pit S0_ lp_ (ck_ - 1).toNat) ∧ (∀ i9_ : Nat, (i9_ : Int) < ck_ → 0 ≤ pit S0_ lp_ i9_ ∧ pit S0_ lp_ i9_ ≤ 4095) ∧ True) → ((9000 - ck_).toNat) < nn_ → sm_T (mt_P sc_) 0 277 (5, [some (.inr (.inr (some (12, 0)))), some (.inl lp_), some (.inl li_), some (.inl ck_), some (.inl pr_), none], [], S_) (fun ro9_ => ∃ u_ S1_, ro9_ = (.inl u_, S1_, 0) ∧ vq_277 lp_ li_ S0_ u_ S1_)) ∧ (∀ (ck_ : Int) (pr_ : Int) (kx_ : Int) (S_ : sm_S), gi S_ → ai_fr (sx_W vw_277) S0_ S_ → ((1 ≤ ck_ ∧ ck_ ≤ 4096 ∧ -1 ≤ kx_ ∧ kx_ ≤ ck_ - 2 ∧ 0 ≤ (S_.1 12 0 16)) ∧ (pr_ = pit S0_ lp_ (ck_ - 2 - kx_).toNat) ∧ (∀ i9_ : Nat, (i9_ : Int) < ck_ → 0 ≤ pit S0_ lp_ i9_ ∧ pit S0_ lp_ i9_ ≤ 4095) ∧ True) → ((kx_ + 2).toNat) < nn_ → sm_T (mt_P sc_) 0 277 (60, [some (.inr (.inr (some (12, 0)))), some (.inl lp_), some (.inl li_), some (.inl ck_), some (.inl pr_), some (.inl kx_)], [], S_) (fun ro9_ => ∃ u_ S1_, ro9_ = (.inl u_, S1_, 0) ∧ vq_277 lp_ li_ S0_ u_ S1_)) := by
  intro nn_
  induction nn_ with
  | zero => exact ⟨fun _ _ _ _ _ _ h_ => absurd h_ (Nat.not_lt_zero _), fun _ _ _ _ _ _ _ h_ => absurd h_ (Nat.not_lt_zero _)⟩
  | succ nn_ ih_ =>
    refine ⟨?_, ?_⟩
    · rintro ck_ pr_ S_ hI_ hF_ ⟨h0_, ha_, hb_, hc_, -⟩ hm_
      have f113_ : S_.2.2.1 113 0 = S0_.2.2.1 113 0 := fr_arr hF_ rfl
      refine sm_T_go 3 (c1 := (11, [some (.inr (.inr (some (12, 0)))), some (.inl lp_), some (.inl li_), some (.inl ck_), some (.inl pr_), none], [.inl pr_, .inr (.inr (some (113, 0)))], S_)) rfl ?_
      refine sm_T_iald (n := 4096) rfl rfl (by omega) (by omega) ?_
      have bx1_ : (-2) ≤ S_.2.2.1 113 0 pr_.toNat ∧ S_.2.2.1 113 0 pr_.toNat ≤ 4095 := hI_.2 113 0 _
      refine sm_T_go 1 (c1 := (13, [some (.inr (.inr (some (12, 0)))), some (.inl lp_), some (.inl li_), some (.inl ck_), some (.inl pr_), none], [.inl (-1), .inl (S_.2.2.1 113 0 pr_.toNat)], S_)) rfl ?_
      refine sm_T_br (a := 0) (z := 25) rfl (fun cx2_ => ?_) (fun cx2_ => ?_)
      · have cx2_ : (S_.2.2.1 113 0 pr_.toNat) = (-1) := of_decide_eq_true cx2_
        have hIx3_ : gi (sm_pI S_ 12 0 16 ck_) := gi_pI hI_ (show 0 ≤ ck_ ∧ ck_ ≤ 4096 from ⟨by omega, by omega⟩)
        have hFx4_ : ai_fr (sx_W vw_277) S0_ (sm_pI S_ 12 0 16 ck_) := ai_fr_tr hF_ (ai_fr_pI rfl)
        refine sm_T_go 7 (c1 := (49, [some (.inr (.inr (some (12, 0)))), some (.inl lp_), some (.inl li_), some (.inl ck_), some (.inl pr_), none], [.inl 1, .inl ck_, .inr (.inr (some (117, 0)))], sm_pI S_ 12 0 16 ck_)) rfl ?_
        refine sm_T_bin (w := ck_ - 1) rfl (bi_sub (by omega) (by omega) (by omega)) ?_ -- pc_ 49
        refine sm_T_go 1 (c1 := (51, [some (.inr (.inr (some (12, 0)))), some (.inl lp_), some (.inl li_), some (.inl ck_), some (.inl pr_), none], [.inl li_, .inl (ck_ - 1), .inr (.inr (some (117, 0)))], sm_pI S_ 12 0 16 ck_)) rfl ?_
        refine sm_T_iast (n := 4096) rfl rfl (by omega) (by omega) ?_
        have hIx5_ : gi (sm_aI (sm_pI S_ 12 0 16 ck_) 117 0 (ck_ - 1).toNat li_) := gi_aI hIx3_ (show 0 ≤ li_ ∧ li_ ≤ 4095 from ⟨by omega, by omega⟩)
        have hFx6_ : ai_fr (sx_W vw_277) S0_ (sm_aI (sm_pI S_ 12 0 16 ck_) 117 0 (ck_ - 1).toNat li_) := ai_fr_tr hFx4_ (ai_fr_aI rfl)
        refine sm_T_go 4 (c1 := (57, [some (.inr (.inr (some (12, 0)))), some (.inl lp_), some (.inl li_), some (.inl ck_), some (.inl lp_), none], [.inl 2, .inl ck_], sm_aI (sm_pI S_ 12 0 16 ck_) 117 0 (ck_ - 1).toNat li_)) rfl ?_
        refine sm_T_bin (w := ck_ - 2) rfl (bi_sub (by omega) (by omega) (by omega)) ?_ -- pc_ 57
        refine sm_T_go 1 (c1 := (60, [some (.inr (.inr (some (12, 0)))), some (.inl lp_), some (.inl li_), some (.inl ck_), some (.inl lp_), some (.inl (ck_ - 2))], [], sm_aI (sm_pI S_ 12 0 16 ck_) 117 0 (ck_ - 1).toNat li_)) rfl ?_
        refine ih_.2 ck_ lp_ (ck_ - 2) (sm_aI (sm_pI S_ 12 0 16 ck_) 117 0 (ck_ - 1).toNat li_) hIx5_ hFx6_ ⟨?_, ?_, ?_, trivial⟩ ?_
        · (simp only [rf_eq, rd_fa, rd_af]; omega)
        · (rw [show (ck_ - 2 - (ck_ - 2)).toNat = 0 by omega]; rfl)
        · exact hc_
        · omega
      · have cx2_ : ¬ ((S_.2.2.1 113 0 pr_.toNat) = (-1)) := of_decide_eq_false cx2_
        have pq9_ := hp_ pr_.toNat (by omega) ha_
        rw [f113_] at cx2_
        have pz9_ : 0 ≤ S0_.2.2.1 113 0 pr_.toNat ∧ S0_.2.2.1 113 0 pr_.toNat ≤ 4095 := ⟨by rcases pq9_ with z_ | z_; exact absurd z_ cx2_; exact z_.1, by have w_ := (hI_.2 113 0 pr_.toNat).2; rw [f113_] at w_; exact w_⟩
        refine sm_T_go 2 (c1 := (20, [some (.inr (.inr (some (12, 0)))), some (.inl lp_), some (.inl li_), some (.inl ck_), some (.inl pr_), none], [.inl 4096, .inl ck_], S_)) rfl ?_
        refine sm_T_br (a := 3) (z := 18) rfl (fun cx7_ => ?_) (fun cx7_ => ?_)
        · have cx7_ : 4096 ≤ ck_ := of_decide_eq_true cx7_
          have hIx8_ : gi (sm_pI S_ 12 0 16 ck_) := gi_pI hI_ (show 0 ≤ ck_ ∧ ck_ ≤ 4096 from ⟨by omega, by omega⟩)
          have hFx9_ : ai_fr (sx_W vw_277) S0_ (sm_pI S_ 12 0 16 ck_) := ai_fr_tr hF_ (ai_fr_pI rfl)
          refine sm_T_go 7 (c1 := (49, [some (.inr (.inr (some (12, 0)))), some (.inl lp_), some (.inl li_), some (.inl ck_), some (.inl pr_), none], [.inl 1, .inl ck_, .inr (.inr (some (117, 0)))], sm_pI S_ 12 0 16 ck_)) rfl ?_
          refine sm_T_bin (w := ck_ - 1) rfl (bi_sub (by omega) (by omega) (by omega)) ?_ -- pc_ 49
          refine sm_T_go 1 (c1 := (51, [some (.inr (.inr (some (12, 0)))), some (.inl lp_), some (.inl li_), some (.inl ck_), some (.inl pr_), none], [.inl li_, .inl (ck_ - 1), .inr (.inr (some (117, 0)))], sm_pI S_ 12 0 16 ck_)) rfl ?_
          refine sm_T_iast (n := 4096) rfl rfl (by omega) (by omega) ?_
          have hIx10_ : gi (sm_aI (sm_pI S_ 12 0 16 ck_) 117 0 (ck_ - 1).toNat li_) := gi_aI hIx8_ (show 0 ≤ li_ ∧ li_ ≤ 4095 from ⟨by omega, by omega⟩)
          have hFx11_ : ai_fr (sx_W vw_277) S0_ (sm_aI (sm_pI S_ 12 0 16 ck_) 117 0 (ck_ - 1).toNat li_) := ai_fr_tr hFx9_ (ai_fr_aI rfl)
          refine sm_T_go 4 (c1 := (57, [some (.inr (.inr (some (12, 0)))), some (.inl lp_), some (.inl li_), some (.inl ck_), some (.inl lp_), none], [.inl 2, .inl ck_], sm_aI (sm_pI S_ 12 0 16 ck_) 117 0 (ck_ - 1).toNat li_)) rfl ?_
          refine sm_T_bin (w := ck_ - 2) rfl (bi_sub (by omega) (by omega) (by omega)) ?_ -- pc_ 57
          refine sm_T_go 1 (c1 := (60, [some (.inr (.inr (some (12, 0)))), some (.inl lp_), some (.inl li_), some (.inl ck_), some (.inl lp_), some (.inl (ck_ - 2))], [], sm_aI (sm_pI S_ 12 0 16 ck_) 117 0 (ck_ - 1).toNat li_)) rfl ?_
          refine ih_.2 ck_ lp_ (ck_ - 2) (sm_aI (sm_pI S_ 12 0 16 ck_) 117 0 (ck_ - 1).toNat li_) hIx10_ hFx11_ ⟨?_, ?_, ?_, trivial⟩ ?_
          · (simp only [rf_eq, rd_fa, rd_af]; omega)
          · (rw [show (ck_ - 2 - (ck_ - 2)).toNat = 0 by omega]; rfl)
          · exact hc_
          · omega
        · have cx7_ : ¬ (4096 ≤ ck_) := of_decide_eq_false cx7_
          refine sm_T_inc (a := 3) (z := 1) (v := ck_) (w := ck_ + 1) rfl rfl (by omega) (by omega) (by omega) ?_ -- pc_ 23
          refine sm_T_go 3 (c1 := (32, [some (.inr (.inr (some (12, 0)))), some (.inl lp_), some (.inl li_), some (.inl (ck_ + 1)), some (.inl pr_), none], [.inl pr_, .inr (.inr (some (113, 0)))], S_)) rfl ?_
          refine sm_T_iald (n := 4096) rfl rfl (by omega) (by omega) ?_
          refine sm_T_go 2 (c1 := (5, [some (.inr (.inr (some (12, 0)))), some (.inl lp_), some (.inl li_), some (.inl (ck_ + 1)), some (.inl (S_.2.2.1 113 0 pr_.toNat)), none], [], S_)) rfl ?_
          refine ih_.1 (ck_ + 1) (S_.2.2.1 113 0 pr_.toNat) S_ hI_ hF_ ⟨?_, ?_, ?_, ?_, trivial⟩ ?_
          · (rw [f113_]; omega)
          · (rw [f113_]; rcases pq9_ with z_ | z_; (exfalso; omega); exact z_.2)
          · (rw [f113_, show (ck_ + 1 - 1).toNat = (ck_ - 1).toNat + 1 by omega]; show _ = S0_.2.2.1 113 0 (pit S0_ lp_ (ck_ - 1).toNat).toNat; rw [← hb_])
          · intro i9_ hi9_
            by_cases z_ : (i9_ : Int) < ck_
            · exact hc_ i9_ z_
            · rw [show i9_ = (ck_ - 1).toNat + 1 by omega]
              show 0 ≤ S0_.2.2.1 113 0 (pit S0_ lp_ (ck_ - 1).toNat).toNat ∧ S0_.2.2.1 113 0 (pit S0_ lp_ (ck_ - 1).toNat).toNat ≤ 4095
              rw [← hb_]
              exact pz9_
          · omega
    · rintro ck_ pr_ kx_ S_ hI_ hF_ ⟨h0_, hb_, hc_, -⟩ hm_
      have f113_ : S_.2.2.1 113 0 = S0_.2.2.1 113 0 := fr_arr hF_ rfl
      have hq9_ := hc_ (ck_ - 2 - kx_).toNat (by omega)
      rw [← hb_] at hq9_
      refine sm_T_go 1 (c1 := (62, [some (.inr (.inr (some (12, 0)))), some (.inl lp_), some (.inl li_), some (.inl ck_), some (.inl pr_), some (.inl kx_)], [.inl kx_], S_)) rfl ?_
      refine sm_T_b0 (a := 2) (z := 32) rfl (fun cx1_ => ?_) (fun cx1_ => ?_)
      · have cx1_ : kx_ < 0 := of_decide_eq_true cx1_
        refine sm_T_rv rfl ⟨_, _, rfl, rfl, hI_, hF_, ?_⟩
        omega
      · have cx1_ : ¬ (kx_ < 0) := of_decide_eq_false cx1_
        have f2_ : S_.2.2.1 113 0 pr_.toNat = S0_.2.2.1 113 0 pr_.toNat := by rw [f113_]
        refine sm_T_go 6 (c1 := (77, [some (.inr (.inr (some (12, 0)))), some (.inl lp_), some (.inl li_), some (.inl ck_), some (.inl pr_), some (.inl kx_)], [.inl pr_, .inr (.inr (some (114, 0))), .inl kx_, .inr (.inr (some (117, 0)))], S_)) rfl ?_
        refine sm_T_iald (n := 4096) rfl rfl (by omega) (by omega) ?_
        have bx2_ : 0 ≤ S_.2.2.1 114 0 pr_.toNat ∧ S_.2.2.1 114 0 pr_.toNat ≤ 4095 := hI_.2 114 0 _
        refine sm_T_iast (n := 4096) rfl rfl (by omega) (by omega) ?_
        have hIx3_ : gi (sm_aI S_ 117 0 kx_.toNat (S_.2.2.1 114 0 pr_.toNat)) := gi_aI hI_ (show 0 ≤ (S_.2.2.1 114 0 pr_.toNat) ∧ (S_.2.2.1 114 0 pr_.toNat) ≤ 4095 from ⟨by omega, by omega⟩)
        have hFx4_ : ai_fr (sx_W vw_277) S0_ (sm_aI S_ 117 0 kx_.toNat (S_.2.2.1 114 0 pr_.toNat)) := ai_fr_tr hF_ (ai_fr_aI rfl)
        refine sm_T_go 3 (c1 := (85, [some (.inr (.inr (some (12, 0)))), some (.inl lp_), some (.inl li_), some (.inl ck_), some (.inl pr_), some (.inl kx_)], [.inl pr_, .inr (.inr (some (113, 0)))], sm_aI S_ 117 0 kx_.toNat (S_.2.2.1 114 0 pr_.toNat))) rfl ?_
        refine sm_T_iald (n := 4096) rfl rfl (by omega) (by omega) ?_
        have bx5_ : (-2) ≤ S_.2.2.1 113 0 pr_.toNat ∧ S_.2.2.1 113 0 pr_.toNat ≤ 4095 := hI_.2 113 0 _
        refine sm_T_go 1 (c1 := (88, [some (.inr (.inr (some (12, 0)))), some (.inl lp_), some (.inl li_), some (.inl ck_), some (.inl (S_.2.2.1 113 0 pr_.toNat)), some (.inl kx_)], [], sm_aI S_ 117 0 kx_.toNat (S_.2.2.1 114 0 pr_.toNat))) rfl ?_
        refine sm_T_inc (a := 5) (z := (-1)) (v := kx_) (w := kx_ - 1) rfl rfl (by omega) (by omega) (by omega) ?_ -- pc_ 88
        refine sm_T_go 1 (c1 := (60, [some (.inr (.inr (some (12, 0)))), some (.inl lp_), some (.inl li_), some (.inl ck_), some (.inl (S_.2.2.1 113 0 pr_.toNat)), some (.inl (kx_ - 1))], [], sm_aI S_ 117 0 kx_.toNat (S_.2.2.1 114 0 pr_.toNat))) rfl ?_
        refine ih_.2 ck_ (S_.2.2.1 113 0 pr_.toNat) (kx_ - 1) (sm_aI S_ 117 0 kx_.toNat (S_.2.2.1 114 0 pr_.toNat)) hIx3_ hFx4_ ⟨?_, ?_, ?_, trivial⟩ ?_
        · (simp only [rf_eq, rd_fa, rd_af]; omega)
        · (rw [f113_, show (ck_ - 2 - (kx_ - 1)).toNat = (ck_ - 2 - kx_).toNat + 1 by omega]; show _ = S0_.2.2.1 113 0 (pit S0_ lp_ (ck_ - 2 - kx_).toNat).toNat; rw [← hb_])
        · exact hc_
        · omega
set_option maxHeartbeats 400000 in
theorem vc_277 {sc_ : Nat × (Nat → Int)} (lp_ : Int) (li_ : Int) (S0_ : sm_S) (hI_ : gi S0_) (hp_ : prf S0_) (h1_ : 0 ≤ lp_ ∧ lp_ ≤ 4095) (h2_ : 0 ≤ li_ ∧ li_ ≤ 4095) (h3_ : S0_.2.2.1 113 0 lp_.toNat ≠ -2) : sm_T (mt_P sc_) 0 277 (0, [some (.inr (.inr (some (12, 0)))), some (.inl lp_), some (.inl li_), none, none, none], [], S0_) (fun ro9_ => ∃ u_ S1_, ro9_ = (.inl u_, S1_, 0) ∧ vq_277 lp_ li_ S0_ u_ S1_) := by
  have hF_ : ai_fr (sx_W vw_277) S0_ S0_ := ai_fr_rf
  refine sm_T_go 4 (c1 := (5, [some (.inr (.inr (some (12, 0)))), some (.inl lp_), some (.inl li_), some (.inl 1), some (.inl lp_), none], [], S0_)) rfl ?_
  refine (vl_277 lp_ li_ S0_ hp_ h1_ h2_ h3_ _).1 1 lp_ S0_ hI_ hF_ ⟨?_, ?_, ?_, ?_, trivial⟩ (Nat.lt_succ_self _)
  · omega
  · exact h3_
  · rfl
  · intro i9_ hi9_
    have z_ : i9_ = 0 := by omega
    rw [z_]; exact h1_
