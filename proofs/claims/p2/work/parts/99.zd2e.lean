/-! M_.leave -/
def vw_346 : sx_Wl := ([(13, 9), (13, 28), (13, 29)], [145], [])
def vq_346 (fr_ : Nat) (M_ : Nat) (s_ : Nat) (cnt_ : Nat) (S0_ : sm_S) (u_ : Option sm_V) (S1_ : sm_S) : Prop := u_ = none ∧ gi S1_ ∧ ai_fr (sx_W vw_346) S0_ S1_ ∧ ((S1_.1 13 0 29) = (fr_ : Int) ∧ (∀ o1_ k1_ : Nat, o1_ < cnt_ → k1_ < 8 → S1_.2.2.1 145 0 (8 * (40 * (40 * fr_ + s_) + o1_) + k1_) = S0_.2.2.1 144 0 (8 * (40 * (fr_ + 1) + o1_) + k1_)) ∧ (∀ j_, j_ < 8 * (40 * (40 * fr_ + s_)) ∨ 8 * (40 * (40 * fr_ + s_)) + 320 ≤ j_ → S1_.2.2.1 145 0 j_ = S0_.2.2.1 145 0 j_) ∧ (S1_.1 13 0 9) = S0_.2.2.1 147 0 (fr_ + 1) ∧ (S1_.1 13 0 28) = S0_.2.2.1 146 0 fr_)
set_option maxHeartbeats 1500000 in
theorem vl_346 {sc_ : Nat × (Nat → Int)} (fr_ : Nat) (M_ : Nat) (s_ : Nat) (cnt_ : Nat) (S0_ : sm_S) (hf_ : (S0_.1 13 0 29) = (fr_ : Int) + 1 ∧ fr_ ≤ 14) (hmd_ : (S0_.1 13 0 28) = (M_ : Int) ∧ M_ ≤ 15) (hn1_ : S0_.2.2.1 148 0 (fr_ + 1) = (s_ : Int) ∧ s_ ≤ 39) (hc_ : S0_.2.2.1 126 0 M_ = (cnt_ : Int) ∧ cnt_ ≤ 40) : ∀ nn_ : Nat, (∀ (inr : Int) (mo_ : Int) (nm_ : Int) (o_ : Int) (S_ : sm_S), gi S_ → ai_fr (sx_W vw_346) S0_ S_ → ((0 ≤ o_ ∧ o_ ≤ (cnt_ : Int) ∧ inr = (fr_ : Int) + 1 ∧ mo_ = (M_ : Int) ∧ nm_ = (s_ : Int)) ∧ ((S_.1 13 0 29) = (fr_ : Int)) ∧ (∀ o1_ k1_ : Nat, o1_ < o_.toNat → k1_ < 8 → S_.2.2.1 145 0 (8 * (40 * (40 * fr_ + s_) + o1_) + k1_) = S0_.2.2.1 144 0 (8 * (40 * (fr_ + 1) + o1_) + k1_)) ∧ (∀ j_, j_ < 8 * (40 * (40 * fr_ + s_)) ∨ 8 * (40 * (40 * fr_ + s_)) + 320 ≤ j_ → S_.2.2.1 145 0 j_ = S0_.2.2.1 145 0 j_) ∧ True) → ((20 * (50 - o_) + 10).toNat) < nn_ → sm_T (mt_P sc_) 0 346 (30, [some (.inr (.inr (some (13, 0)))), some (.inl inr), some (.inl mo_), some (.inl nm_), some (.inl o_), none], [], S_) (fun ro9_ => ∃ u_ S1_, ro9_ = (.inl u_, S1_, 0) ∧ vq_346 fr_ M_ s_ cnt_ S0_ u_ S1_)) ∧ (∀ (inr : Int) (mo_ : Int) (nm_ : Int) (o_ : Int) (k_ : Int) (S_ : sm_S), gi S_ → ai_fr (sx_W vw_346) S0_ S_ → ((0 ≤ o_ ∧ o_ < (cnt_ : Int) ∧ inr = (fr_ : Int) + 1 ∧ mo_ = (M_ : Int) ∧ nm_ = (s_ : Int) ∧ 0 ≤ k_ ∧ k_ ≤ 8) ∧ ((S_.1 13 0 29) = (fr_ : Int)) ∧ (∀ o1_ k1_ : Nat, o1_ < o_.toNat → k1_ < 8 → S_.2.2.1 145 0 (8 * (40 * (40 * fr_ + s_) + o1_) + k1_) = S0_.2.2.1 144 0 (8 * (40 * (fr_ + 1) + o1_) + k1_)) ∧ (∀ j_ : Nat, j_ < k_.toNat → S_.2.2.1 145 0 (8 * (40 * (40 * fr_ + s_) + o_.toNat) + j_) = S0_.2.2.1 144 0 (8 * (40 * (fr_ + 1) + o_.toNat) + j_)) ∧ (∀ j_, j_ < 8 * (40 * (40 * fr_ + s_)) ∨ 8 * (40 * (40 * fr_ + s_)) + 320 ≤ j_ → S_.2.2.1 145 0 j_ = S0_.2.2.1 145 0 j_) ∧ True) → ((20 * (50 - o_) + 9 - k_).toNat) < nn_ → sm_T (mt_P sc_) 0 346 (44, [some (.inr (.inr (some (13, 0)))), some (.inl inr), some (.inl mo_), some (.inl nm_), some (.inl o_), some (.inl k_)], [], S_) (fun ro9_ => ∃ u_ S1_, ro9_ = (.inl u_, S1_, 0) ∧ vq_346 fr_ M_ s_ cnt_ S0_ u_ S1_)) := by
  intro nn_
  induction nn_ with
  | zero => exact ⟨fun _ _ _ _ _ _ _ _ h_ => absurd h_ (Nat.not_lt_zero _), fun _ _ _ _ _ _ _ _ _ h_ => absurd h_ (Nat.not_lt_zero _)⟩
  | succ nn_ ih_ =>
    refine ⟨?_, ?_⟩
    · rintro inr mo_ nm_ o_ S_ hI_ hF_ ⟨h0_, h4_, h1_, h2_, -⟩ hm_
      have f1_ : S_.1 13 0 29 = (fr_ : Int) := h4_
      have c1_ : S_.2.2.1 126 0 mo_.toNat = (cnt_ : Int) := by rw [fr_arr (t := 126) (i := 0) hF_ rfl, show mo_.toNat = M_ by omega]; exact hc_.1
      have v44_ := fr_arr (t := 144) (i := 0) hF_ rfl
      have cb_ := hc_.2
      refine sm_T_go 4 (c1 := (37, [some (.inr (.inr (some (13, 0)))), some (.inl inr), some (.inl mo_), some (.inl nm_), some (.inl o_), none], [.inl mo_, .inr (.inr (some (126, 0))), .inl o_], S_)) rfl ?_
      refine sm_T_iald (n := 16) rfl rfl (by omega) (by omega) ?_
      have bx1_ : 0 ≤ S_.2.2.1 126 0 mo_.toNat ∧ S_.2.2.1 126 0 mo_.toNat ≤ 40 := hI_.2 126 0 _
      refine sm_T_br (a := 3) (z := 69) rfl (fun cx2_ => ?_) (fun cx2_ => ?_)
      · have cx2_ : (S_.2.2.1 126 0 mo_.toNat) ≤ o_ := of_decide_eq_true cx2_
        refine sm_T_go 4 (c1 := (113, [some (.inr (.inr (some (13, 0)))), some (.inl inr), some (.inl mo_), some (.inl nm_), some (.inl o_), none], [.inl inr, .inr (.inr (some (147, 0))), .inr (.inr (some (13, 0)))], S_)) rfl ?_
        refine sm_T_iald (n := 16) rfl rfl (by omega) (by omega) ?_
        have bx3_ : 0 ≤ S_.2.2.1 147 0 inr.toNat ∧ S_.2.2.1 147 0 inr.toNat ≤ 1280 := hI_.2 147 0 _
        have hIx4_ : gi (sm_pI S_ 13 0 9 (S_.2.2.1 147 0 inr.toNat)) := gi_pI hI_ (show 0 ≤ (S_.2.2.1 147 0 inr.toNat) ∧ (S_.2.2.1 147 0 inr.toNat) ≤ 1280 from ⟨by omega, by omega⟩)
        have hFx5_ : ai_fr (sx_W vw_346) S0_ (sm_pI S_ 13 0 9 (S_.2.2.1 147 0 inr.toNat)) := ai_fr_tr hF_ (ai_fr_pI rfl)
        have bx6_ : 0 ≤ S_.1 13 0 29 ∧ S_.1 13 0 29 ≤ 16 := hI_.1 13 0 29 rfl
        refine sm_T_go 6 (c1 := (126, [some (.inr (.inr (some (13, 0)))), some (.inl inr), some (.inl mo_), some (.inl nm_), some (.inl o_), none], [.inl (S_.1 13 0 29), .inr (.inr (some (146, 0))), .inr (.inr (some (13, 0)))], sm_pI S_ 13 0 9 (S_.2.2.1 147 0 inr.toNat))) rfl ?_
        refine sm_T_iald (n := 16) rfl rfl (by omega) (by omega) ?_
        have bx7_ : 0 ≤ S_.2.2.1 146 0 (S_.1 13 0 29).toNat ∧ S_.2.2.1 146 0 (S_.1 13 0 29).toNat ≤ 15 := hI_.2 146 0 _
        have hIx8_ : gi (sm_pI (sm_pI S_ 13 0 9 (S_.2.2.1 147 0 inr.toNat)) 13 0 28 (S_.2.2.1 146 0 (S_.1 13 0 29).toNat)) := gi_pI hIx4_ (show 0 ≤ (S_.2.2.1 146 0 (S_.1 13 0 29).toNat) ∧ (S_.2.2.1 146 0 (S_.1 13 0 29).toNat) ≤ 15 from ⟨by omega, by omega⟩)
        have hFx9_ : ai_fr (sx_W vw_346) S0_ (sm_pI (sm_pI S_ 13 0 9 (S_.2.2.1 147 0 inr.toNat)) 13 0 28 (S_.2.2.1 146 0 (S_.1 13 0 29).toNat)) := ai_fr_tr hFx5_ (ai_fr_pI rfl)
        refine sm_T_go 1 (c1 := (130, [some (.inr (.inr (some (13, 0)))), some (.inl inr), some (.inl mo_), some (.inl nm_), some (.inl o_), none], [], sm_pI (sm_pI S_ 13 0 9 (S_.2.2.1 147 0 inr.toNat)) 13 0 28 (S_.2.2.1 146 0 (S_.1 13 0 29).toNat))) rfl ?_
        refine sm_T_rv rfl ⟨_, _, rfl, rfl, hIx8_, hFx9_, ?_⟩
        have e1_ : inr.toNat = fr_ + 1 := by omega
        have e2_ : (S_.1 13 0 29).toNat = fr_ := by omega
        have t47_ := fr_arr (t := 147) (i := 0) hF_ rfl
        have t46_ := fr_arr (t := 146) (i := 0) hF_ rfl
        refine ⟨h4_, fun o9_ k9_ ho_ hk_ => h1_ o9_ k9_ (by omega) hk_, h2_, ?_, ?_⟩
        · (try simp only [rd_eq, rd_ne, rf_eq, rf_nk, rf_nt, rd_fa, rd_af, rd_fl, rd_al, rd_lf, rd_la, rd_leq, rd_lne, rd_fr, rd_ar, ne_eq, Nat.reduceEqDiff, not_false_eq_true]); rw [e1_, t47_]
        · (try simp only [rd_eq, rd_ne, rf_eq, rf_nk, rf_nt, rd_fa, rd_af, rd_fl, rd_al, rd_lf, rd_la, rd_leq, rd_lne, rd_fr, rd_ar, ne_eq, Nat.reduceEqDiff, not_false_eq_true]); rw [e2_, t46_]
      · have cx2_ : ¬ ((S_.2.2.1 126 0 mo_.toNat) ≤ o_) := of_decide_eq_false cx2_
        refine sm_T_go 2 (c1 := (44, [some (.inr (.inr (some (13, 0)))), some (.inl inr), some (.inl mo_), some (.inl nm_), some (.inl o_), some (.inl 0)], [], S_)) rfl ?_
        refine ih_.2 inr mo_ nm_ o_ 0 S_ hI_ hF_ ⟨?_, ?_, ?_, ?_, ?_, trivial⟩ ?_
        · omega
        · exact h4_
        · exact h1_
        · (intro j_ hj_; exact absurd hj_ (Nat.not_lt_zero _))
        · exact h2_
        · omega
    · rintro inr mo_ nm_ o_ k_ S_ hI_ hF_ ⟨h0_, h4_, h1_, h3_, h2_, -⟩ hm_
      have f1_ : S_.1 13 0 29 = (fr_ : Int) := h4_
      have c1_ : S_.2.2.1 126 0 mo_.toNat = (cnt_ : Int) := by rw [fr_arr (t := 126) (i := 0) hF_ rfl, show mo_.toNat = M_ by omega]; exact hc_.1
      have v44_ := fr_arr (t := 144) (i := 0) hF_ rfl
      have cb_ := hc_.2
      refine sm_T_go 2 (c1 := (48, [some (.inr (.inr (some (13, 0)))), some (.inl inr), some (.inl mo_), some (.inl nm_), some (.inl o_), some (.inl k_)], [.inl 8, .inl k_], S_)) rfl ?_
      refine sm_T_br (a := 3) (z := 53) rfl (fun cx1_ => ?_) (fun cx1_ => ?_)
      · have cx1_ : 8 ≤ k_ := of_decide_eq_true cx1_
        refine sm_T_inc (a := 4) (z := 1) (v := o_) (w := o_ + 1) rfl rfl (by omega) (by omega) (by omega) ?_
        refine sm_T_go 1 (c1 := (30, [some (.inr (.inr (some (13, 0)))), some (.inl inr), some (.inl mo_), some (.inl nm_), some (.inl (o_ + 1)), some (.inl k_)], [], S_)) rfl ?_
        refine sm_T_wk [some (.inr (.inr (some (13, 0)))), some (.inl inr), some (.inl mo_), some (.inl nm_), some (.inl (o_ + 1)), none] (by exact ⟨rfl, rfl, rfl, rfl, rfl, trivial⟩) ?_
        refine ih_.1 inr mo_ nm_ (o_ + 1) S_ hI_ hF_ ⟨?_, ?_, ?_, ?_, trivial⟩ ?_
        · omega
        · exact h4_
        · intro o9_ k9_ ho_ hk_
          by_cases z_ : o9_ < o_.toNat
          · exact h1_ o9_ k9_ z_ hk_
          · have zo_ : o9_ = o_.toNat := by omega
            rw [zo_]
            exact h3_ k9_ (by omega)
        · exact h2_
        · omega
      · have cx1_ : ¬ (8 ≤ k_) := of_decide_eq_false cx1_
        have bx2_ : 0 ≤ S_.1 13 0 29 ∧ S_.1 13 0 29 ≤ 16 := hI_.1 13 0 29 rfl
        refine sm_T_go 7 (c1 := (65, [some (.inr (.inr (some (13, 0)))), some (.inl inr), some (.inl mo_), some (.inl nm_), some (.inl o_), some (.inl k_)], [.inl (S_.1 13 0 29), .inl 40, .inl 40, .inl 8, .inr (.inr (some (145, 0)))], S_)) rfl ?_
        refine sm_T_bin (w := 40 * (S_.1 13 0 29)) rfl (bi_mul (by omega) (by omega) (by omega)) ?_
        refine sm_T_go 1 (c1 := (67, [some (.inr (.inr (some (13, 0)))), some (.inl inr), some (.inl mo_), some (.inl nm_), some (.inl o_), some (.inl k_)], [.inl nm_, .inl (40 * (S_.1 13 0 29)), .inl 40, .inl 8, .inr (.inr (some (145, 0)))], S_)) rfl ?_
        refine sm_T_bin (w := 40 * (S_.1 13 0 29) + nm_) rfl (bi_add (by omega) (by omega) (by omega)) ?_
        refine sm_T_bin (w := 1600 * (S_.1 13 0 29) + 40 * nm_) rfl (bi_mul (by omega) (by omega) (by omega)) ?_
        refine sm_T_go 1 (c1 := (71, [some (.inr (.inr (some (13, 0)))), some (.inl inr), some (.inl mo_), some (.inl nm_), some (.inl o_), some (.inl k_)], [.inl o_, .inl (1600 * (S_.1 13 0 29) + 40 * nm_), .inl 8, .inr (.inr (some (145, 0)))], S_)) rfl ?_
        refine sm_T_bin (w := 1600 * (S_.1 13 0 29) + 40 * nm_ + o_) rfl (bi_add (by omega) (by omega) (by omega)) ?_
        refine sm_T_bin (w := 12800 * (S_.1 13 0 29) + 320 * nm_ + 8 * o_) rfl (bi_mul (by omega) (by omega) (by omega)) ?_
        refine sm_T_go 1 (c1 := (75, [some (.inr (.inr (some (13, 0)))), some (.inl inr), some (.inl mo_), some (.inl nm_), some (.inl o_), some (.inl k_)], [.inl k_, .inl (12800 * (S_.1 13 0 29) + 320 * nm_ + 8 * o_), .inr (.inr (some (145, 0)))], S_)) rfl ?_
        refine sm_T_bin (w := 12800 * (S_.1 13 0 29) + 320 * nm_ + 8 * o_ + k_) rfl (bi_add (by omega) (by omega) (by omega)) ?_
        refine sm_T_go 5 (c1 := (85, [some (.inr (.inr (some (13, 0)))), some (.inl inr), some (.inl mo_), some (.inl nm_), some (.inl o_), some (.inl k_)], [.inl inr, .inl 40, .inl 8, .inr (.inr (some (144, 0))), .inl (12800 * (S_.1 13 0 29) + 320 * nm_ + 8 * o_ + k_), .inr (.inr (some (145, 0)))], S_)) rfl ?_
        refine sm_T_bin (w := 40 * inr) rfl (bi_mul (by omega) (by omega) (by omega)) ?_
        refine sm_T_go 1 (c1 := (88, [some (.inr (.inr (some (13, 0)))), some (.inl inr), some (.inl mo_), some (.inl nm_), some (.inl o_), some (.inl k_)], [.inl o_, .inl (40 * inr), .inl 8, .inr (.inr (some (144, 0))), .inl (12800 * (S_.1 13 0 29) + 320 * nm_ + 8 * o_ + k_), .inr (.inr (some (145, 0)))], S_)) rfl ?_
        refine sm_T_bin (w := 40 * inr + o_) rfl (bi_add (by omega) (by omega) (by omega)) ?_
        refine sm_T_bin (w := 320 * inr + 8 * o_) rfl (bi_mul (by omega) (by omega) (by omega)) ?_
        refine sm_T_go 1 (c1 := (92, [some (.inr (.inr (some (13, 0)))), some (.inl inr), some (.inl mo_), some (.inl nm_), some (.inl o_), some (.inl k_)], [.inl k_, .inl (320 * inr + 8 * o_), .inr (.inr (some (144, 0))), .inl (12800 * (S_.1 13 0 29) + 320 * nm_ + 8 * o_ + k_), .inr (.inr (some (145, 0)))], S_)) rfl ?_
        refine sm_T_bin (w := 320 * inr + 8 * o_ + k_) rfl (bi_add (by omega) (by omega) (by omega)) ?_
        refine sm_T_iald (n := 5120) rfl rfl (by omega) (by omega) ?_
        have bx3_ : 0 ≤ S_.2.2.1 144 0 (320 * inr + 8 * o_ + k_).toNat ∧ S_.2.2.1 144 0 (320 * inr + 8 * o_ + k_).toNat ≤ 2047 := hI_.2 144 0 _
        refine sm_T_iast (n := 204800) rfl rfl (by omega) (by omega) ?_
        have hIx4_ : gi (sm_aI S_ 145 0 (12800 * (S_.1 13 0 29) + 320 * nm_ + 8 * o_ + k_).toNat (S_.2.2.1 144 0 (320 * inr + 8 * o_ + k_).toNat)) := gi_aI hI_ (show 0 ≤ (S_.2.2.1 144 0 (320 * inr + 8 * o_ + k_).toNat) ∧ (S_.2.2.1 144 0 (320 * inr + 8 * o_ + k_).toNat) ≤ 2047 from ⟨by omega, by omega⟩)
        have hFx5_ : ai_fr (sx_W vw_346) S0_ (sm_aI S_ 145 0 (12800 * (S_.1 13 0 29) + 320 * nm_ + 8 * o_ + k_).toNat (S_.2.2.1 144 0 (320 * inr + 8 * o_ + k_).toNat)) := ai_fr_tr hF_ (ai_fr_aI rfl)
        refine sm_T_inc (a := 5) (z := 1) (v := k_) (w := k_ + 1) rfl rfl (by omega) (by omega) (by omega) ?_
        refine sm_T_go 1 (c1 := (44, [some (.inr (.inr (some (13, 0)))), some (.inl inr), some (.inl mo_), some (.inl nm_), some (.inl o_), some (.inl (k_ + 1))], [], sm_aI S_ 145 0 (12800 * (S_.1 13 0 29) + 320 * nm_ + 8 * o_ + k_).toNat (S_.2.2.1 144 0 (320 * inr + 8 * o_ + k_).toNat))) rfl ?_
        refine ih_.2 inr mo_ nm_ o_ (k_ + 1) (sm_aI S_ 145 0 (12800 * (S_.1 13 0 29) + 320 * nm_ + 8 * o_ + k_).toNat (S_.2.2.1 144 0 (320 * inr + 8 * o_ + k_).toNat)) hIx4_ hFx5_ ⟨?_, ?_, ?_, ?_, ?_, trivial⟩ ?_
        · omega
        · exact h4_
        · intro o9_ k9_ ho_ hk_
          rw [rd_eq, if_neg (by omega)]
          exact h1_ o9_ k9_ ho_ hk_
        · intro j_ hj_
          by_cases z_ : j_ < k_.toNat
          · rw [rd_eq, if_neg (by omega)]; exact h3_ j_ z_
          · have zj_ : j_ = k_.toNat := by omega
            rw [rd_eq, if_pos (by omega), zj_, v44_]
            exact congrArg (S0_.2.2.1 144 0) (by omega)
        · intro j_ hj_
          rw [rd_eq, if_neg (by omega)]
          exact h2_ j_ hj_
        · omega
set_option maxHeartbeats 1500000 in
theorem vc_346 {sc_ : Nat × (Nat → Int)} (fr_ : Nat) (M_ : Nat) (s_ : Nat) (cnt_ : Nat) (S0_ : sm_S) (hI_ : gi S0_) (hf_ : (S0_.1 13 0 29) = (fr_ : Int) + 1 ∧ fr_ ≤ 14) (hmd_ : (S0_.1 13 0 28) = (M_ : Int) ∧ M_ ≤ 15) (hn1_ : S0_.2.2.1 148 0 (fr_ + 1) = (s_ : Int) ∧ s_ ≤ 39) (hc_ : S0_.2.2.1 126 0 M_ = (cnt_ : Int) ∧ cnt_ ≤ 40) : sm_T (mt_P sc_) 0 346 (0, [some (.inr (.inr (some (13, 0)))), none, none, none, none, none], [], S0_) (fun ro9_ => ∃ u_ S1_, ro9_ = (.inl u_, S1_, 0) ∧ vq_346 fr_ M_ s_ cnt_ S0_ u_ S1_) := by
  have hF_ : ai_fr (sx_W vw_346) S0_ S0_ := ai_fr_rf
  have bx1_ : 0 ≤ S0_.1 13 0 29 ∧ S0_.1 13 0 29 ≤ 16 := hI_.1 13 0 29 rfl
  have bx2_ : 0 ≤ S0_.1 13 0 28 ∧ S0_.1 13 0 28 ≤ 15 := hI_.1 13 0 28 rfl
  refine sm_T_go 10 (c1 := (16, [some (.inr (.inr (some (13, 0)))), some (.inl (S0_.1 13 0 29)), some (.inl (S0_.1 13 0 28)), none, none, none], [.inl 1, .inl (S0_.1 13 0 29), .inr (.inr (some (13, 0)))], S0_)) rfl ?_
  refine sm_T_bin (w := (S0_.1 13 0 29) - 1) rfl (bi_sub (by omega) (by omega) (by omega)) ?_
  have hIx3_ : gi (sm_pI S0_ 13 0 29 ((S0_.1 13 0 29) - 1)) := gi_pI hI_ (show 0 ≤ (S0_.1 13 0 29) - 1 ∧ (S0_.1 13 0 29) - 1 ≤ 16 from ⟨by omega, by omega⟩)
  have hFx4_ : ai_fr (sx_W vw_346) S0_ (sm_pI S0_ 13 0 29 ((S0_.1 13 0 29) - 1)) := ai_fr_tr hF_ (ai_fr_pI rfl)
  refine sm_T_go 4 (c1 := (25, [some (.inr (.inr (some (13, 0)))), some (.inl (S0_.1 13 0 29)), some (.inl (S0_.1 13 0 28)), none, none, none], [.inl (S0_.1 13 0 29), .inr (.inr (some (148, 0)))], sm_pI S0_ 13 0 29 ((S0_.1 13 0 29) - 1))) rfl ?_
  refine sm_T_iald (n := 16) rfl rfl (by omega) (by omega) ?_
  have bx5_ : 0 ≤ S0_.2.2.1 148 0 (S0_.1 13 0 29).toNat ∧ S0_.2.2.1 148 0 (S0_.1 13 0 29).toNat ≤ 639 := hI_.2 148 0 _
  refine sm_T_go 3 (c1 := (30, [some (.inr (.inr (some (13, 0)))), some (.inl (S0_.1 13 0 29)), some (.inl (S0_.1 13 0 28)), some (.inl (S0_.2.2.1 148 0 (S0_.1 13 0 29).toNat)), some (.inl 0), none], [], sm_pI S0_ 13 0 29 ((S0_.1 13 0 29) - 1))) rfl ?_
  refine (vl_346 fr_ M_ s_ cnt_ S0_ hf_ hmd_ hn1_ hc_ _).1 (S0_.1 13 0 29) (S0_.1 13 0 28) (S0_.2.2.1 148 0 (S0_.1 13 0 29).toNat) 0 (sm_pI S0_ 13 0 29 ((S0_.1 13 0 29) - 1)) hIx3_ hFx4_ ⟨?_, ?_, ?_, ?_, trivial⟩ (Nat.lt_succ_self _)
  · (have e9_ : (S0_.1 13 0 29).toNat = fr_ + 1 := by omega); rw [e9_]; omega
  · (try simp only [rd_eq, rd_ne, rf_eq, rf_nk, rf_nt, rd_fa, rd_af, rd_fl, rd_al, rd_lf, rd_la, rd_leq, rd_lne, rd_fr, rd_ar, ne_eq, Nat.reduceEqDiff, not_false_eq_true]); omega
  · (intro o9_ k9_ ho_; exact absurd ho_ (Nat.not_lt_zero _))
  · (intro j_ hj_; rfl)
