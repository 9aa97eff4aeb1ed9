/-! Library.findInverter -/
def vw_89 : sx_Wl := ([(5, 2)], [], [])
def vq_89 (ii_ : Nat) (S0_ : sm_S) (u_ : Option sm_V) (S1_ : sm_S) : Prop := u_ = none ∧ gi S1_ ∧ ai_fr (sx_W vw_89) S0_ S1_ ∧ (True)
set_option maxHeartbeats 400000 in
theorem vl_89 {sc_ : Nat × (Nat → Int)} (ii_ : Nat) (S0_ : sm_S)  : ∀ nn_ : Nat, (∀ (k_ : Int) (S_ : sm_S), gi S_ → ai_fr (sx_W vw_89) S0_ S_ → ((0 ≤ k_ ∧ k_ ≤ 12) ∧ True) → ((20 - k_).toNat) < nn_ → sm_T (mt_P sc_) 0 89 (7, [some (.inr (.inr (some (5, ii_)))), some (.inl k_), none], [], S_) (fun r_ => ∃ u_ S1_, r_ = (.inl u_, S1_, 0) ∧ vq_89 ii_ S0_ u_ S1_)) := by
  intro nn_
  induction nn_ with
  | zero => exact fun _ _ _ _ _ h_ => absurd h_ (Nat.not_lt_zero _)
  | succ nn_ ih_ =>
    rintro k_ S_ hI_ hF_ ⟨h0_, -⟩ hm_
    have bc_ : 0 ≤ S_.1 5 ii_ 1 ∧ S_.1 5 ii_ 1 ≤ 12 := hI_.1 5 ii_ 1 rfl
    have bx1_ : 0 ≤ S_.1 5 ii_ 1 ∧ S_.1 5 ii_ 1 ≤ 12 := hI_.1 5 ii_ 1 rfl
    refine sm_T_go 3 (c1 := (12, [some (.inr (.inr (some (5, ii_)))), some (.inl k_), none], [.inl (S_.1 5 ii_ 1), .inl k_], S_)) rfl ?_
    refine sm_T_br (a := 3) (z := 70) rfl (fun cx2_ => ?_) (fun cx2_ => ?_)
    · have cx2_ : (S_.1 5 ii_ 1) ≤ k_ := of_decide_eq_true cx2_
      refine sm_T_rv rfl ⟨_, _, rfl, rfl, hI_, hF_, ?_⟩
      trivial
    · have cx2_ : ¬ ((S_.1 5 ii_ 1) ≤ k_) := of_decide_eq_false cx2_
      refine sm_T_go 3 (c1 := (20, [some (.inr (.inr (some (5, ii_)))), some (.inl k_), none], [.inl k_, .inr (.inr (some (55, (0 + ii_))))], S_)) rfl ?_
      refine sm_T_iald (n := 12) rfl rfl (by omega) (by omega) ?_
      have bx3_ : 0 ≤ S_.2.2.1 55 (0 + ii_) k_.toNat ∧ S_.2.2.1 55 (0 + ii_) k_.toNat ≤ 3 := hI_.2 55 (0 + ii_) _
      refine sm_T_go 1 (c1 := (22, [some (.inr (.inr (some (5, ii_)))), some (.inl k_), none], [.inl 1, .inl (S_.2.2.1 55 (0 + ii_) k_.toNat)], S_)) rfl ?_
      refine sm_T_br (a := 1) (z := 17) rfl (fun cx4_ => ?_) (fun cx4_ => ?_)
      · have cx4_ : (S_.2.2.1 55 (0 + ii_) k_.toNat) ≠ 1 := of_decide_eq_true cx4_
        refine sm_T_go 4 (c1 := (76, [some (.inr (.inr (some (5, ii_)))), some (.inl k_), some (.inl 0)], [], S_)) rfl ?_
        refine sm_T_inc (a := 1) (z := 1) (v := k_) (w := k_ + 1) rfl rfl (by omega) (by omega) (by omega) ?_
        refine sm_T_go 1 (c1 := (7, [some (.inr (.inr (some (5, ii_)))), some (.inl (k_ + 1)), some (.inl 0)], [], S_)) rfl ?_
        refine sm_T_wk [some (.inr (.inr (some (5, ii_)))), some (.inl (k_ + 1)), none] (by exact ⟨rfl, rfl, trivial⟩) ?_
        refine ih_ (k_ + 1) S_ hI_ hF_ ⟨?_, trivial⟩ ?_
        · omega
        · omega
      · have cx4_ : ¬ ((S_.2.2.1 55 (0 + ii_) k_.toNat) ≠ 1) := of_decide_eq_false cx4_
        refine sm_T_go 3 (c1 := (30, [some (.inr (.inr (some (5, ii_)))), some (.inl k_), none], [.inl k_, .inr (.inr (some (56, (0 + ii_))))], S_)) rfl ?_
        refine sm_T_iald (n := 12) rfl rfl (by omega) (by omega) ?_
        have bx5_ : 0 ≤ S_.2.2.1 56 (0 + ii_) k_.toNat ∧ S_.2.2.1 56 (0 + ii_) k_.toNat ≤ 255 := hI_.2 56 (0 + ii_) _
        refine sm_T_go 1 (c1 := (32, [some (.inr (.inr (some (5, ii_)))), some (.inl k_), none], [.inl 1, .inl (S_.2.2.1 56 (0 + ii_) k_.toNat)], S_)) rfl ?_
        refine sm_T_br (a := 1) (z := 7) rfl (fun cx6_ => ?_) (fun cx6_ => ?_)
        · have cx6_ : (S_.2.2.1 56 (0 + ii_) k_.toNat) ≠ 1 := of_decide_eq_true cx6_
          refine sm_T_go 4 (c1 := (76, [some (.inr (.inr (some (5, ii_)))), some (.inl k_), some (.inl 0)], [], S_)) rfl ?_
          refine sm_T_inc (a := 1) (z := 1) (v := k_) (w := k_ + 1) rfl rfl (by omega) (by omega) (by omega) ?_
          refine sm_T_go 1 (c1 := (7, [some (.inr (.inr (some (5, ii_)))), some (.inl (k_ + 1)), some (.inl 0)], [], S_)) rfl ?_
          refine sm_T_wk [some (.inr (.inr (some (5, ii_)))), some (.inl (k_ + 1)), none] (by exact ⟨rfl, rfl, trivial⟩) ?_
          refine ih_ (k_ + 1) S_ hI_ hF_ ⟨?_, trivial⟩ ?_
          · omega
          · omega
        · have cx6_ : ¬ ((S_.2.2.1 56 (0 + ii_) k_.toNat) ≠ 1) := of_decide_eq_false cx6_
          have bx7_ : (-1) ≤ S_.1 5 ii_ 2 ∧ S_.1 5 ii_ 2 ≤ 11 := hI_.1 5 ii_ 2 rfl
          refine sm_T_go 8 (c1 := (50, [some (.inr (.inr (some (5, ii_)))), some (.inl k_), some (.inl 1)], [.inl (-1), .inl (S_.1 5 ii_ 2)], S_)) rfl ?_
          refine sm_T_br (a := 0) (z := 21) rfl (fun cx8_ => ?_) (fun cx8_ => ?_)
          · have cx8_ : (S_.1 5 ii_ 2) = (-1) := of_decide_eq_true cx8_
            have hIx9_ : gi (sm_pI S_ 5 ii_ 2 k_) := gi_pI hI_ (show (-1) ≤ k_ ∧ k_ ≤ 11 from ⟨by omega, by omega⟩)
            have hFx10_ : ai_fr (sx_W vw_89) S0_ (sm_pI S_ 5 ii_ 2 k_) := ai_fr_tr hF_ (ai_fr_pI rfl)
            refine sm_T_go 3 (c1 := (76, [some (.inr (.inr (some (5, ii_)))), some (.inl k_), some (.inl 1)], [], sm_pI S_ 5 ii_ 2 k_)) rfl ?_
            refine sm_T_inc (a := 1) (z := 1) (v := k_) (w := k_ + 1) rfl rfl (by omega) (by omega) (by omega) ?_
            refine sm_T_go 1 (c1 := (7, [some (.inr (.inr (some (5, ii_)))), some (.inl (k_ + 1)), some (.inl 1)], [], sm_pI S_ 5 ii_ 2 k_)) rfl ?_
            refine sm_T_wk [some (.inr (.inr (some (5, ii_)))), some (.inl (k_ + 1)), none] (by exact ⟨rfl, rfl, trivial⟩) ?_
            refine ih_ (k_ + 1) (sm_pI S_ 5 ii_ 2 k_) hIx9_ hFx10_ ⟨?_, trivial⟩ ?_
            · omega
            · omega
          · have cx8_ : ¬ ((S_.1 5 ii_ 2) = (-1)) := of_decide_eq_false cx8_
            refine sm_T_go 3 (c1 := (58, [some (.inr (.inr (some (5, ii_)))), some (.inl k_), some (.inl 1)], [.inl k_, .inr (.inr (some (57, (0 + ii_))))], S_)) rfl ?_
            refine sm_T_iald (n := 12) rfl rfl (by omega) (by omega) ?_
            have bx11_ : 0 ≤ S_.2.2.1 57 (0 + ii_) k_.toNat ∧ S_.2.2.1 57 (0 + ii_) k_.toNat ≤ 1000 := hI_.2 57 (0 + ii_) _
            refine sm_T_go 4 (c1 := (67, [some (.inr (.inr (some (5, ii_)))), some (.inl k_), some (.inl 1)], [.inl (S_.1 5 ii_ 2), .inr (.inr (some (57, (0 + ii_)))), .inl (S_.2.2.1 57 (0 + ii_) k_.toNat)], S_)) rfl ?_
            refine sm_T_iald (n := 12) rfl rfl (by omega) (by omega) ?_
            have bx12_ : 0 ≤ S_.2.2.1 57 (0 + ii_) (S_.1 5 ii_ 2).toNat ∧ S_.2.2.1 57 (0 + ii_) (S_.1 5 ii_ 2).toNat ≤ 1000 := hI_.2 57 (0 + ii_) _
            refine sm_T_br (a := 3) (z := 8) rfl (fun cx13_ => ?_) (fun cx13_ => ?_)
            · have cx13_ : (S_.2.2.1 57 (0 + ii_) (S_.1 5 ii_ 2).toNat) ≤ (S_.2.2.1 57 (0 + ii_) k_.toNat) := of_decide_eq_true cx13_
              refine sm_T_inc (a := 1) (z := 1) (v := k_) (w := k_ + 1) rfl rfl (by omega) (by omega) (by omega) ?_
              refine sm_T_go 1 (c1 := (7, [some (.inr (.inr (some (5, ii_)))), some (.inl (k_ + 1)), some (.inl 1)], [], S_)) rfl ?_
              refine sm_T_wk [some (.inr (.inr (some (5, ii_)))), some (.inl (k_ + 1)), none] (by exact ⟨rfl, rfl, trivial⟩) ?_
              refine ih_ (k_ + 1) S_ hI_ hF_ ⟨?_, trivial⟩ ?_
              · omega
              · omega
            · have cx13_ : ¬ ((S_.2.2.1 57 (0 + ii_) (S_.1 5 ii_ 2).toNat) ≤ (S_.2.2.1 57 (0 + ii_) k_.toNat)) := of_decide_eq_false cx13_
              have hIx14_ : gi (sm_pI S_ 5 ii_ 2 k_) := gi_pI hI_ (show (-1) ≤ k_ ∧ k_ ≤ 11 from ⟨by omega, by omega⟩)
              have hFx15_ : ai_fr (sx_W vw_89) S0_ (sm_pI S_ 5 ii_ 2 k_) := ai_fr_tr hF_ (ai_fr_pI rfl)
              refine sm_T_go 3 (c1 := (76, [some (.inr (.inr (some (5, ii_)))), some (.inl k_), some (.inl 1)], [], sm_pI S_ 5 ii_ 2 k_)) rfl ?_
              refine sm_T_inc (a := 1) (z := 1) (v := k_) (w := k_ + 1) rfl rfl (by omega) (by omega) (by omega) ?_
              refine sm_T_go 1 (c1 := (7, [some (.inr (.inr (some (5, ii_)))), some (.inl (k_ + 1)), some (.inl 1)], [], sm_pI S_ 5 ii_ 2 k_)) rfl ?_
              refine sm_T_wk [some (.inr (.inr (some (5, ii_)))), some (.inl (k_ + 1)), none] (by exact ⟨rfl, rfl, trivial⟩) ?_
              refine ih_ (k_ + 1) (sm_pI S_ 5 ii_ 2 k_) hIx14_ hFx15_ ⟨?_, trivial⟩ ?_
              · omega
              · omega
set_option maxHeartbeats 400000 in
theorem vc_89 {sc_ : Nat × (Nat → Int)} (ii_ : Nat) (S0_ : sm_S) (hI_ : gi S0_)  : sm_T (mt_P sc_) 0 89 (0, [some (.inr (.inr (some (5, ii_)))), none, none], [], S0_) (fun r_ => ∃ u_ S1_, r_ = (.inl u_, S1_, 0) ∧ vq_89 ii_ S0_ u_ S1_) := by
  have hF_ : ai_fr (sx_W vw_89) S0_ S0_ := ai_fr_rf
  have hIx1_ : gi (sm_pI S0_ 5 ii_ 2 (-1)) := gi_pI hI_ (show (-1) ≤ (-1) ∧ (-1) ≤ 11 from ⟨by omega, by omega⟩)
  have hFx2_ : ai_fr (sx_W vw_89) S0_ (sm_pI S0_ 5 ii_ 2 (-1)) := ai_fr_tr hF_ (ai_fr_pI rfl)
  refine sm_T_go 5 (c1 := (7, [some (.inr (.inr (some (5, ii_)))), some (.inl 0), none], [], sm_pI S0_ 5 ii_ 2 (-1))) rfl ?_
  refine (vl_89 ii_ S0_ _) 0 (sm_pI S0_ 5 ii_ 2 (-1)) hIx1_ hFx2_ ⟨?_, trivial⟩ (Nat.lt_succ_self _)
  · omega
