/-! Mapper.addMember -/
def vw_101 : sx_Wl := ([(6, 13)], [68], [])
def vq_101 (a1_ : Int) (P_ : Int → Prop) (S0_ : sm_S) (u_ : Option sm_V) (S1_ : sm_S) : Prop := u_ = none ∧ gi S1_ ∧ ai_fr (sx_W vw_101) S0_ S1_ ∧ (S0_.1 6 0 13 ≤ S1_.1 6 0 13 ∧ S1_.1 6 0 13 ≤ S0_.1 6 0 13 + 1 ∧ mms P_ S1_ (S1_.1 6 0 13) (S1_.1 6 0 13) ∧ imq (a1_ ≠ -1) (1 ≤ S1_.1 6 0 13) ∧ imq (a1_ ≠ -1 ∧ S0_.1 6 0 13 = 0) (S1_.2.2.1 68 0 0 = a1_) ∧ imq (a1_ ≠ -1 ∧ S0_.1 6 0 13 = 1 ∧ S0_.2.2.1 68 0 0 ≠ a1_) (S1_.1 6 0 13 = 2))
set_option maxHeartbeats 400000 in
theorem vl_101 {sc_ : Nat × (Nat → Int)} (a1_ : Int) (P_ : Int → Prop) (S0_ : sm_S) (h1_ : -1 ≤ a1_ ∧ a1_ ≤ 1012) (h3_ : S0_.1 6 0 13 ≤ 3) (hms_ : mms P_ S0_ (S0_.1 6 0 13) (S0_.1 6 0 13)) (hp_ : a1_ ≠ -1 → P_ a1_) : ∀ nn_ : Nat, (∀ (a9_ : Int) (k_ : Int) (S_ : sm_S), gi S_ → ai_fr (sx_W vw_101) S0_ S_ → ((0 ≤ k_ ∧ k_ ≤ S0_.1 6 0 13 ∧ a9_ = S0_.1 6 0 13 ∧ a1_ ≠ -1) ∧ (S_ = S0_) ∧ (∀ j_ : Nat, (j_ : Int) < k_ → S0_.2.2.1 68 0 j_ ≠ a1_) ∧ True) → ((100 - k_).toNat) < nn_ → sm_T (mt_P sc_) 0 101 (13, [some (.inr (.inr (some (6, 0)))), some (.inl a1_), some (.inl a9_), some (.inl k_)], [], S_) (fun ro9_ => ∃ u_ S1_, ro9_ = (.inl u_, S1_, 0) ∧ vq_101 a1_ P_ S0_ u_ S1_)) ∧ (∀ (a9_ : Int) (S_ : sm_S), gi S_ → ai_fr (sx_W vw_101) S0_ S_ → ((0 ≤ a9_ ∧ a9_ ≤ S0_.1 6 0 13 ∧ S_.1 6 0 13 = S0_.1 6 0 13 ∧ a1_ ≠ -1) ∧ (mms P_ S_ (S0_.1 6 0 13) a9_) ∧ True) → ((10 + a9_).toNat) < nn_ → sm_T (mt_P sc_) 0 101 (38, [some (.inr (.inr (some (6, 0)))), some (.inl a1_), some (.inl a9_), none], [], S_) (fun ro9_ => ∃ u_ S1_, ro9_ = (.inl u_, S1_, 0) ∧ vq_101 a1_ P_ S0_ u_ S1_)) := by
  intro nn_
  induction nn_ with
  | zero => exact ⟨fun _ _ _ _ _ _ h_ => absurd h_ (Nat.not_lt_zero _), fun _ _ _ _ _ h_ => absurd h_ (Nat.not_lt_zero _)⟩
  | succ nn_ ih_ =>
    refine ⟨?_, ?_⟩
    · rintro a9_ k_ S_ hI_ hF_ ⟨h0_, hS_, hj0_, -⟩ hm_
      have cm_ : 0 ≤ S_.1 6 0 13 ∧ S_.1 6 0 13 ≤ 4 := hI_.1 6 0 13 rfl
      have es_ : S_.1 6 0 13 = S0_.1 6 0 13 := by rw [hS_]
      have bx1_ : 0 ≤ S_.1 6 0 13 ∧ S_.1 6 0 13 ≤ 4 := hI_.1 6 0 13 rfl
      refine sm_T_go 3 (c1 := (18, [some (.inr (.inr (some (6, 0)))), some (.inl a1_), some (.inl a9_), some (.inl k_)], [.inl (S_.1 6 0 13), .inl k_], S_)) rfl ?_
      refine sm_T_br (a := 3) (z := 20) rfl (fun cx2_ => ?_) (fun cx2_ => ?_)
      · have cx2_ : (S_.1 6 0 13) ≤ k_ := of_decide_eq_true cx2_
        refine sm_T_go 0 (c1 := (38, [some (.inr (.inr (some (6, 0)))), some (.inl a1_), some (.inl a9_), some (.inl k_)], [], S_)) rfl ?_
        refine sm_T_wk [some (.inr (.inr (some (6, 0)))), some (.inl a1_), some (.inl a9_), none] (by exact ⟨rfl, rfl, rfl, trivial⟩) ?_
        refine ih_.2 a9_ S_ hI_ hF_ ⟨?_, ?_, trivial⟩ ?_
        · (rw [hS_]; omega)
        · (rw [hS_]; rw [show a9_ = S0_.1 6 0 13 by omega]; exact hms_)
        · omega
      · have cx2_ : ¬ ((S_.1 6 0 13) ≤ k_) := of_decide_eq_false cx2_
        refine sm_T_go 3 (c1 := (26, [some (.inr (.inr (some (6, 0)))), some (.inl a1_), some (.inl a9_), some (.inl k_)], [.inl k_, .inr (.inr (some (68, 0)))], S_)) rfl ?_
        refine sm_T_iald (n := 4) rfl rfl (by omega) (by omega) ?_
        have bx3_ : 0 ≤ S_.2.2.1 68 0 k_.toNat ∧ S_.2.2.1 68 0 k_.toNat ≤ 1012 := hI_.2 68 0 _
        refine sm_T_go 1 (c1 := (28, [some (.inr (.inr (some (6, 0)))), some (.inl a1_), some (.inl a9_), some (.inl k_)], [.inl a1_, .inl (S_.2.2.1 68 0 k_.toNat)], S_)) rfl ?_
        refine sm_T_br (a := 1) (z := 4) rfl (fun cx4_ => ?_) (fun cx4_ => ?_)
        · have cx4_ : (S_.2.2.1 68 0 k_.toNat) ≠ a1_ := of_decide_eq_true cx4_
          refine sm_T_inc (a := 3) (z := 1) (v := k_) (w := k_ + 1) rfl rfl (by omega) (by omega) (by omega) ?_ -- pc_ 32
          refine sm_T_go 1 (c1 := (13, [some (.inr (.inr (some (6, 0)))), some (.inl a1_), some (.inl a9_), some (.inl (k_ + 1))], [], S_)) rfl ?_
          refine ih_.1 a9_ (k_ + 1) S_ hI_ hF_ ⟨?_, ?_, ?_, trivial⟩ ?_
          · omega
          · exact hS_
          · intro j_ hj_
            by_cases y_ : (j_ : Int) = k_
            · rw [show j_ = k_.toNat by omega, ← hS_]; omega
            · exact hj0_ j_ (by omega)
          · omega
        · have cx4_ : ¬ ((S_.2.2.1 68 0 k_.toNat) ≠ a1_) := of_decide_eq_false cx4_
          refine sm_T_rv rfl ⟨_, _, rfl, rfl, hI_, hF_, ?_⟩
          rw [hS_] at *
          have q9_ : S0_.2.2.1 68 0 k_.toNat = a1_ := by omega
          exact ⟨by omega, by omega, hms_, fun _ => by omega, fun u_ => by (exfalso; omega), fun u_ => by (rw [show k_.toNat = 0 by omega] at q9_; exact absurd q9_ u_.2.2)⟩
    · rintro a9_ S_ hI_ hF_ ⟨h0_, hh_, -⟩ hm_
      have cm_ : 0 ≤ S_.1 6 0 13 ∧ S_.1 6 0 13 ≤ 4 := hI_.1 6 0 13 rfl
      refine sm_T_go 1 (c1 := (39, [some (.inr (.inr (some (6, 0)))), some (.inl a1_), some (.inl a9_), none], [.inl a9_], S_)) rfl ?_
      refine sm_T_b0 (a := 5) (z := 35) rfl (fun cx1_ => ?_) (fun cx1_ => ?_)
      · have cx1_ : a9_ ≤ 0 := of_decide_eq_true cx1_
        refine sm_T_go 4 (c1 := (80, [some (.inr (.inr (some (6, 0)))), some (.inl a1_), some (.inl a9_), none], [.inl a1_, .inl a9_, .inr (.inr (some (68, 0)))], S_)) rfl ?_
        refine sm_T_iast (n := 4) rfl rfl (by omega) (by omega) ?_
        have hIx2_ : gi (sm_aI S_ 68 0 a9_.toNat a1_) := gi_aI hI_ (show 0 ≤ a1_ ∧ a1_ ≤ 1012 from ⟨by omega, by omega⟩)
        have hFx3_ : ai_fr (sx_W vw_101) S0_ (sm_aI S_ 68 0 a9_.toNat a1_) := ai_fr_tr hF_ (ai_fr_aI rfl)
        have bx4_ : 0 ≤ S_.1 6 0 13 ∧ S_.1 6 0 13 ≤ 4 := hI_.1 6 0 13 rfl
        refine sm_T_go 4 (c1 := (87, [some (.inr (.inr (some (6, 0)))), some (.inl a1_), some (.inl a9_), none], [.inl 1, .inl (S_.1 6 0 13), .inr (.inr (some (6, 0)))], sm_aI S_ 68 0 a9_.toNat a1_)) rfl ?_
        refine sm_T_bin (w := (S_.1 6 0 13) + 1) rfl (bi_add (by omega) (by omega) (by omega)) ?_ -- pc_ 87
        have hIx5_ : gi (sm_pI (sm_aI S_ 68 0 a9_.toNat a1_) 6 0 13 ((S_.1 6 0 13) + 1)) := gi_pI hIx2_ (show 0 ≤ (S_.1 6 0 13) + 1 ∧ (S_.1 6 0 13) + 1 ≤ 4 from ⟨by omega, by omega⟩)
        have hFx6_ : ai_fr (sx_W vw_101) S0_ (sm_pI (sm_aI S_ 68 0 a9_.toNat a1_) 6 0 13 ((S_.1 6 0 13) + 1)) := ai_fr_tr hFx3_ (ai_fr_pI rfl)
        refine sm_T_go 1 (c1 := (91, [some (.inr (.inr (some (6, 0)))), some (.inl a1_), some (.inl a9_), none], [], sm_pI (sm_aI S_ 68 0 a9_.toNat a1_) 6 0 13 ((S_.1 6 0 13) + 1))) rfl ?_
        refine sm_T_rv rfl ⟨_, _, rfl, rfl, hIx5_, hFx6_, ?_⟩
        simp only [rf_eq]
        refine ⟨by omega, by omega, fun i_ hi_ hn_ => ?_, fun _ => by omega, fun u_ => ?_, fun u_ => by omega⟩
        · rw [rd_fa, rd_eq]; by_cases y_ : i_ = a9_.toNat; (rw [if_pos y_]; exact hp_ (by omega)); (rw [if_neg y_]; exact hh_ i_ (by omega) (by omega))
        · rw [rd_fa, rd_eq, if_pos (by omega)]
      · have cx1_ : ¬ (a9_ ≤ 0) := of_decide_eq_false cx1_
        refine sm_T_go 4 (c1 := (48, [some (.inr (.inr (some (6, 0)))), some (.inl a1_), some (.inl a9_), none], [.inl 1, .inl a9_, .inr (.inr (some (68, 0)))], S_)) rfl ?_
        refine sm_T_bin (w := a9_ - 1) rfl (bi_sub (by omega) (by omega) (by omega)) ?_ -- pc_ 48
        refine sm_T_iald (n := 4) rfl rfl (by omega) (by omega) ?_
        have bx7_ : 0 ≤ S_.2.2.1 68 0 (a9_ - 1).toNat ∧ S_.2.2.1 68 0 (a9_ - 1).toNat ≤ 1012 := hI_.2 68 0 _
        refine sm_T_go 1 (c1 := (51, [some (.inr (.inr (some (6, 0)))), some (.inl a1_), some (.inl a9_), none], [.inl a1_, .inl (S_.2.2.1 68 0 (a9_ - 1).toNat)], S_)) rfl ?_
        refine sm_T_br (a := 5) (z := 23) rfl (fun cx8_ => ?_) (fun cx8_ => ?_)
        · have cx8_ : (S_.2.2.1 68 0 (a9_ - 1).toNat) ≤ a1_ := of_decide_eq_true cx8_
          refine sm_T_go 4 (c1 := (80, [some (.inr (.inr (some (6, 0)))), some (.inl a1_), some (.inl a9_), none], [.inl a1_, .inl a9_, .inr (.inr (some (68, 0)))], S_)) rfl ?_
          refine sm_T_iast (n := 4) rfl rfl (by omega) (by omega) ?_
          have hIx9_ : gi (sm_aI S_ 68 0 a9_.toNat a1_) := gi_aI hI_ (show 0 ≤ a1_ ∧ a1_ ≤ 1012 from ⟨by omega, by omega⟩)
          have hFx10_ : ai_fr (sx_W vw_101) S0_ (sm_aI S_ 68 0 a9_.toNat a1_) := ai_fr_tr hF_ (ai_fr_aI rfl)
          have bx11_ : 0 ≤ S_.1 6 0 13 ∧ S_.1 6 0 13 ≤ 4 := hI_.1 6 0 13 rfl
          refine sm_T_go 4 (c1 := (87, [some (.inr (.inr (some (6, 0)))), some (.inl a1_), some (.inl a9_), none], [.inl 1, .inl (S_.1 6 0 13), .inr (.inr (some (6, 0)))], sm_aI S_ 68 0 a9_.toNat a1_)) rfl ?_
          refine sm_T_bin (w := (S_.1 6 0 13) + 1) rfl (bi_add (by omega) (by omega) (by omega)) ?_ -- pc_ 87
          have hIx12_ : gi (sm_pI (sm_aI S_ 68 0 a9_.toNat a1_) 6 0 13 ((S_.1 6 0 13) + 1)) := gi_pI hIx9_ (show 0 ≤ (S_.1 6 0 13) + 1 ∧ (S_.1 6 0 13) + 1 ≤ 4 from ⟨by omega, by omega⟩)
          have hFx13_ : ai_fr (sx_W vw_101) S0_ (sm_pI (sm_aI S_ 68 0 a9_.toNat a1_) 6 0 13 ((S_.1 6 0 13) + 1)) := ai_fr_tr hFx10_ (ai_fr_pI rfl)
          refine sm_T_go 1 (c1 := (91, [some (.inr (.inr (some (6, 0)))), some (.inl a1_), some (.inl a9_), none], [], sm_pI (sm_aI S_ 68 0 a9_.toNat a1_) 6 0 13 ((S_.1 6 0 13) + 1))) rfl ?_
          refine sm_T_rv rfl ⟨_, _, rfl, rfl, hIx12_, hFx13_, ?_⟩
          simp only [rf_eq]
          refine ⟨by omega, by omega, fun i_ hi_ hn_ => ?_, fun _ => by omega, fun u_ => ?_, fun u_ => by omega⟩
          · rw [rd_fa, rd_eq]; by_cases y_ : i_ = a9_.toNat; (rw [if_pos y_]; exact hp_ (by omega)); (rw [if_neg y_]; exact hh_ i_ (by omega) (by omega))
          · rw [rd_fa, rd_eq, if_pos (by omega)]
        · have cx8_ : ¬ ((S_.2.2.1 68 0 (a9_ - 1).toNat) ≤ a1_) := of_decide_eq_false cx8_
          refine sm_T_go 7 (c1 := (65, [some (.inr (.inr (some (6, 0)))), some (.inl a1_), some (.inl a9_), none], [.inl 1, .inl a9_, .inr (.inr (some (68, 0))), .inl a9_, .inr (.inr (some (68, 0)))], S_)) rfl ?_
          refine sm_T_bin (w := a9_ - 1) rfl (bi_sub (by omega) (by omega) (by omega)) ?_ -- pc_ 65
          refine sm_T_iald (n := 4) rfl rfl (by omega) (by omega) ?_
          refine sm_T_iast (n := 4) rfl rfl (by omega) (by omega) ?_
          have hIx14_ : gi (sm_aI S_ 68 0 a9_.toNat (S_.2.2.1 68 0 (a9_ - 1).toNat)) := gi_aI hI_ (show 0 ≤ (S_.2.2.1 68 0 (a9_ - 1).toNat) ∧ (S_.2.2.1 68 0 (a9_ - 1).toNat) ≤ 1012 from ⟨by omega, by omega⟩)
          have hFx15_ : ai_fr (sx_W vw_101) S0_ (sm_aI S_ 68 0 a9_.toNat (S_.2.2.1 68 0 (a9_ - 1).toNat)) := ai_fr_tr hF_ (ai_fr_aI rfl)
          refine sm_T_inc (a := 2) (z := (-1)) (v := a9_) (w := a9_ - 1) rfl rfl (by omega) (by omega) (by omega) ?_ -- pc_ 68
          refine sm_T_go 1 (c1 := (38, [some (.inr (.inr (some (6, 0)))), some (.inl a1_), some (.inl (a9_ - 1)), none], [], sm_aI S_ 68 0 a9_.toNat (S_.2.2.1 68 0 (a9_ - 1).toNat))) rfl ?_
          refine ih_.2 (a9_ - 1) (sm_aI S_ 68 0 a9_.toNat (S_.2.2.1 68 0 (a9_ - 1).toNat)) hIx14_ hFx15_ ⟨?_, ?_, trivial⟩ ?_
          · (simp only [rd_af]; omega)
          · exact mms_mv hh_ (by omega)
          · omega
set_option maxHeartbeats 400000 in
theorem vc_101 {sc_ : Nat × (Nat → Int)} (a1_ : Int) (P_ : Int → Prop) (S0_ : sm_S) (hI_ : gi S0_) (h1_ : -1 ≤ a1_ ∧ a1_ ≤ 1012) (h3_ : S0_.1 6 0 13 ≤ 3) (hms_ : mms P_ S0_ (S0_.1 6 0 13) (S0_.1 6 0 13)) (hp_ : a1_ ≠ -1 → P_ a1_) : sm_T (mt_P sc_) 0 101 (0, [some (.inr (.inr (some (6, 0)))), some (.inl a1_), none, none], [], S0_) (fun ro9_ => ∃ u_ S1_, ro9_ = (.inl u_, S1_, 0) ∧ vq_101 a1_ P_ S0_ u_ S1_) := by
  have hF_ : ai_fr (sx_W vw_101) S0_ S0_ := ai_fr_rf
  have cm0_ : 0 ≤ S0_.1 6 0 13 ∧ S0_.1 6 0 13 ≤ 4 := hI_.1 6 0 13 rfl
  refine sm_T_go 2 (c1 := (2, [some (.inr (.inr (some (6, 0)))), some (.inl a1_), none, none], [.inl (-1), .inl a1_], S0_)) rfl ?_
  refine sm_T_br (a := 1) (z := 4) rfl (fun cx1_ => ?_) (fun cx1_ => ?_)
  · have cx1_ : a1_ ≠ (-1) := of_decide_eq_true cx1_
    have bx2_ : 0 ≤ S0_.1 6 0 13 ∧ S0_.1 6 0 13 ≤ 4 := hI_.1 6 0 13 rfl
    refine sm_T_go 5 (c1 := (13, [some (.inr (.inr (some (6, 0)))), some (.inl a1_), some (.inl (S0_.1 6 0 13)), some (.inl 0)], [], S0_)) rfl ?_
    refine (vl_101 a1_ P_ S0_ h1_ h3_ hms_ hp_ _).1 (S0_.1 6 0 13) 0 S0_ hI_ hF_ ⟨?_, ?_, ?_, trivial⟩ (Nat.lt_succ_self _)
    · omega
    · rfl
    · (intro j_ hj_; exfalso; omega)
  · have cx1_ : ¬ (a1_ ≠ (-1)) := of_decide_eq_false cx1_
    refine sm_T_rv rfl ⟨_, _, rfl, rfl, hI_, hF_, ?_⟩
    exact ⟨by omega, by omega, hms_, fun u_ => absurd (by omega) u_, fun u_ => absurd (by omega) u_.1, fun u_ => absurd (by omega) u_.1⟩
