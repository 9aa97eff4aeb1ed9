/-! M_.keepValue -/
def vw_342 : sx_Wl := ([], [144], [])
def vq_342 (nm_ : Int) (fr_ : Nat) (S0_ : sm_S) (u_ : Option sm_V) (S1_ : sm_S) : Prop := u_ = none ∧ gi S1_ ∧ ai_fr (sx_W vw_342) S0_ S1_ ∧ ((∀ j_, j_ < 8 → S1_.2.2.1 144 0 (8 * (40 * fr_ + nm_.toNat) + j_) = S0_.2.2.1 139 0 j_) ∧ ∀ j_, j_ < 8 * (40 * fr_ + nm_.toNat) ∨ 8 * (40 * fr_ + nm_.toNat) + 8 ≤ j_ → S1_.2.2.1 144 0 j_ = S0_.2.2.1 144 0 j_)
set_option maxHeartbeats 400000 in
theorem vl_342 {sc_ : Nat × (Nat → Int)} (nm_ : Int) (fr_ : Nat) (S0_ : sm_S) (hf_ : (S0_.1 13 0 29) = (fr_ : Int) ∧ fr_ ≤ 15) (hn1_ : 0 ≤ nm_ ∧ nm_ ≤ 39) : ∀ nn_ : Nat, (∀ (k_ : Int) (S_ : sm_S), gi S_ → ai_fr (sx_W vw_342) S0_ S_ → ((0 ≤ k_ ∧ k_ ≤ 8) ∧ (∀ j_, j_ < k_.toNat → S_.2.2.1 144 0 (8 * (40 * fr_ + nm_.toNat) + j_) = S0_.2.2.1 139 0 j_) ∧ (∀ j_, j_ < 8 * (40 * fr_ + nm_.toNat) ∨ 8 * (40 * fr_ + nm_.toNat) + 8 ≤ j_ → S_.2.2.1 144 0 j_ = S0_.2.2.1 144 0 j_) ∧ True) → ((8 - k_).toNat) < nn_ → sm_T (mt_P sc_) 0 342 (2, [some (.inr (.inr (some (13, 0)))), some (.inl nm_), some (.inl k_)], [], S_) (fun ro9_ => ∃ u_ S1_, ro9_ = (.inl u_, S1_, 0) ∧ vq_342 nm_ fr_ S0_ u_ S1_)) := by
  intro nn_
  induction nn_ with
  | zero => exact fun _ _ _ _ _ h_ => absurd h_ (Nat.not_lt_zero _)
  | succ nn_ ih_ =>
    rintro k_ S_ hI_ hF_ ⟨h0_, h1_, h2_, -⟩ hm_
    have f1_ : S_.1 13 0 29 = (fr_ : Int) := (hF_.1 13 0 29 rfl).trans hf_.1
    have l1_ := fr_arr (t := 139) (i := 0) hF_ rfl
    refine sm_T_go 2 (c1 := (5, [some (.inr (.inr (some (13, 0)))), some (.inl nm_), some (.inl k_)], [.inl 8, .inl k_], S_)) rfl ?_
    refine sm_T_br (a := 3) (z := 34) rfl (fun cx1_ => ?_) (fun cx1_ => ?_)
    · have cx1_ : 8 ≤ k_ := of_decide_eq_true cx1_
      refine sm_T_rv rfl ⟨_, _, rfl, rfl, hI_, hF_, ?_⟩
      exact ⟨fun j_ hj_ => h1_ j_ (by omega), h2_⟩
    · have cx1_ : ¬ (8 ≤ k_) := of_decide_eq_false cx1_
      have bx2_ : 0 ≤ S_.1 13 0 29 ∧ S_.1 13 0 29 ≤ 16 := hI_.1 13 0 29 rfl
      refine sm_T_go 6 (c1 := (20, [some (.inr (.inr (some (13, 0)))), some (.inl nm_), some (.inl k_)], [.inl (S_.1 13 0 29), .inl 40, .inl 8, .inr (.inr (some (144, 0)))], S_)) rfl ?_
      refine sm_T_bin (w := 40 * (S_.1 13 0 29)) rfl (bi_mul (by omega) (by omega) (by omega)) ?_
      refine sm_T_go 1 (c1 := (22, [some (.inr (.inr (some (13, 0)))), some (.inl nm_), some (.inl k_)], [.inl nm_, .inl (40 * (S_.1 13 0 29)), .inl 8, .inr (.inr (some (144, 0)))], S_)) rfl ?_
      refine sm_T_bin (w := 40 * (S_.1 13 0 29) + nm_) rfl (bi_add (by omega) (by omega) (by omega)) ?_
      refine sm_T_bin (w := 320 * (S_.1 13 0 29) + 8 * nm_) rfl (bi_mul (by omega) (by omega) (by omega)) ?_
      refine sm_T_go 1 (c1 := (25, [some (.inr (.inr (some (13, 0)))), some (.inl nm_), some (.inl k_)], [.inl k_, .inl (320 * (S_.1 13 0 29) + 8 * nm_), .inr (.inr (some (144, 0)))], S_)) rfl ?_
      refine sm_T_bin (w := 320 * (S_.1 13 0 29) + 8 * nm_ + k_) rfl (bi_add (by omega) (by omega) (by omega)) ?_
      refine sm_T_go 3 (c1 := (31, [some (.inr (.inr (some (13, 0)))), some (.inl nm_), some (.inl k_)], [.inl k_, .inr (.inr (some (139, 0))), .inl (320 * (S_.1 13 0 29) + 8 * nm_ + k_), .inr (.inr (some (144, 0)))], S_)) rfl ?_
      refine sm_T_iald (n := 8192) rfl rfl (by omega) (by omega) ?_
      have bx3_ : 0 ≤ S_.2.2.1 139 0 k_.toNat ∧ S_.2.2.1 139 0 k_.toNat ≤ 2047 := hI_.2 139 0 _
      refine sm_T_iast (n := 5120) rfl rfl (by omega) (by omega) ?_
      have hIx4_ : gi (sm_aI S_ 144 0 (320 * (S_.1 13 0 29) + 8 * nm_ + k_).toNat (S_.2.2.1 139 0 k_.toNat)) := gi_aI hI_ (show 0 ≤ (S_.2.2.1 139 0 k_.toNat) ∧ (S_.2.2.1 139 0 k_.toNat) ≤ 2047 from ⟨by omega, by omega⟩)
      have hFx5_ : ai_fr (sx_W vw_342) S0_ (sm_aI S_ 144 0 (320 * (S_.1 13 0 29) + 8 * nm_ + k_).toNat (S_.2.2.1 139 0 k_.toNat)) := ai_fr_tr hF_ (ai_fr_aI rfl)
      refine sm_T_inc (a := 2) (z := 1) (v := k_) (w := k_ + 1) rfl rfl (by omega) (by omega) (by omega) ?_
      refine sm_T_go 1 (c1 := (2, [some (.inr (.inr (some (13, 0)))), some (.inl nm_), some (.inl (k_ + 1))], [], sm_aI S_ 144 0 (320 * (S_.1 13 0 29) + 8 * nm_ + k_).toNat (S_.2.2.1 139 0 k_.toNat))) rfl ?_
      refine ih_ (k_ + 1) (sm_aI S_ 144 0 (320 * (S_.1 13 0 29) + 8 * nm_ + k_).toNat (S_.2.2.1 139 0 k_.toNat)) hIx4_ hFx5_ ⟨?_, ?_, ?_, trivial⟩ ?_
      · omega
      · intro j_ hj_
        by_cases z_ : j_ < k_.toNat
        · rw [rd_eq, if_neg (by omega)]; exact h1_ j_ z_
        · have zj_ : j_ = k_.toNat := by omega
          rw [rd_eq, if_pos (by omega), zj_, l1_]
      · (intro j_ hj_; rw [rd_eq, if_neg (by omega)]; exact h2_ j_ hj_)
      · omega
set_option maxHeartbeats 400000 in
theorem vc_342 {sc_ : Nat × (Nat → Int)} (nm_ : Int) (fr_ : Nat) (S0_ : sm_S) (hI_ : gi S0_) (hf_ : (S0_.1 13 0 29) = (fr_ : Int) ∧ fr_ ≤ 15) (hn1_ : 0 ≤ nm_ ∧ nm_ ≤ 39) : sm_T (mt_P sc_) 0 342 (0, [some (.inr (.inr (some (13, 0)))), some (.inl nm_), none], [], S0_) (fun ro9_ => ∃ u_ S1_, ro9_ = (.inl u_, S1_, 0) ∧ vq_342 nm_ fr_ S0_ u_ S1_) := by
  have hF_ : ai_fr (sx_W vw_342) S0_ S0_ := ai_fr_rf
  refine sm_T_go 2 (c1 := (2, [some (.inr (.inr (some (13, 0)))), some (.inl nm_), some (.inl 0)], [], S0_)) rfl ?_
  refine (vl_342 nm_ fr_ S0_ hf_ hn1_ _) 0 S0_ hI_ hF_ ⟨?_, ?_, ?_, trivial⟩ (Nat.lt_succ_self _)
  · omega
  · (intro j_ hj_; exact absurd hj_ (Nat.not_lt_zero _))
  · (intro j_ hj_; rfl)
