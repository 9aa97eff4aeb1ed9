/-! java/util/Arrays.fill -/
def vw_4s4 : sx_Wl := ([], [54], [])
def vq_4s4 (v0_ : Int) (ii_ : Nat) (S0_ : sm_S) (u_ : Option sm_V) (S1_ : sm_S) : Prop := u_ = none ∧ gi S1_ ∧ ai_fr (sx_W vw_4s4) S0_ S1_ ∧ (cdf ii_ S0_ S1_ ∧ (True))
set_option maxHeartbeats 400000 in
theorem vl_4s4 {sc_ : Nat × (Nat → Int)} (v0_ : Int) (ii_ : Nat) (S0_ : sm_S)  : ∀ nn_ : Nat, (∀ (v0_ : Int) (k_ : Int) (S_ : sm_S), gi S_ → ai_fr (sx_W vw_4s4) S0_ S_ → ((0 ≤ k_ ∧ k_ ≤ 486) ∧ (cdf ii_ S0_ S_) ∧ True) → ((489 - k_).toNat) < nn_ → sm_T (mt_P sc_) 0 4 (6, [some (.inr (.inr (some (54, (0 + ii_))))), some (.inr (.inl v0_)), none, some (.inl k_), some (.inl 486)], [], S_) (fun ro9_ => ∃ u_ S1_, ro9_ = (.inl u_, S1_, 0) ∧ vq_4s4 v0_ ii_ S0_ u_ S1_)) := by
  intro nn_
  induction nn_ with
  | zero => exact fun _ _ _ _ _ _ h_ => absurd h_ (Nat.not_lt_zero _)
  | succ nn_ ih_ =>
    rintro v0_ k_ S_ hI_ hF_ ⟨h0_, hC_, -⟩ hm_
    refine sm_T_go 2 (c1 := (9, [some (.inr (.inr (some (54, (0 + ii_))))), some (.inr (.inl v0_)), none, some (.inl k_), some (.inl 486)], [.inl 486, .inl k_], S_)) rfl ?_
    refine sm_T_br (a := 3) (z := 13) rfl (fun cx1_ => ?_) (fun cx1_ => ?_)
    · have cx1_ : 486 ≤ k_ := of_decide_eq_true cx1_
      refine sm_T_rv rfl ⟨_, _, rfl, rfl, hI_, hF_, ?_⟩
      refine ⟨hC_, ?_⟩
      trivial
    · have cx1_ : ¬ (486 ≤ k_) := of_decide_eq_false cx1_
      refine sm_T_go 3 (c1 := (15, [some (.inr (.inr (some (54, (0 + ii_))))), some (.inr (.inl v0_)), none, some (.inl k_), some (.inl 486)], [.inr (.inl v0_), .inl k_, .inr (.inr (some (54, (0 + ii_))))], S_)) rfl ?_
      refine sm_T_last (n := 486) rfl rfl (by omega) (by omega) ?_
      have hIx2_ : gi (sm_aL S_ 54 (0 + ii_) k_.toNat v0_) := gi_aL hI_
      have hFx3_ : ai_fr (sx_W vw_4s4) S0_ (sm_aL S_ 54 (0 + ii_) k_.toNat v0_) := ai_fr_tr hF_ (ai_fr_aL rfl)
      have hCx4_ : cdf ii_ S0_ (sm_aL S_ 54 (0 + ii_) k_.toNat v0_) := cdf_aL hC_
      refine sm_T_inc (a := 3) (z := 1) (v := k_) (w := k_ + 1) rfl rfl (by omega) (by omega) (by omega) ?_ -- pc_ 16
      refine sm_T_go 1 (c1 := (6, [some (.inr (.inr (some (54, (0 + ii_))))), some (.inr (.inl v0_)), none, some (.inl (k_ + 1)), some (.inl 486)], [], sm_aL S_ 54 (0 + ii_) k_.toNat v0_)) rfl ?_
      refine ih_ v0_ (k_ + 1) (sm_aL S_ 54 (0 + ii_) k_.toNat v0_) hIx2_ hFx3_ ⟨?_, ?_, trivial⟩ ?_
      · omega
      · exact hCx4_
      · omega
set_option maxHeartbeats 400000 in
theorem vc_4s4 {sc_ : Nat × (Nat → Int)} (v0_ : Int) (ii_ : Nat) (S0_ : sm_S) (hI_ : gi S0_)  : sm_T (mt_P sc_) 0 4 (0, [some (.inr (.inr (some (54, (0 + ii_))))), some (.inr (.inl v0_)), none, none, none], [], S0_) (fun ro9_ => ∃ u_ S1_, ro9_ = (.inl u_, S1_, 0) ∧ vq_4s4 v0_ ii_ S0_ u_ S1_) := by
  have hF_ : ai_fr (sx_W vw_4s4) S0_ S0_ := ai_fr_rf
  have hC_ : cdf ii_ S0_ S0_ := cdf_rf
  refine sm_T_go 5 (c1 := (6, [some (.inr (.inr (some (54, (0 + ii_))))), some (.inr (.inl v0_)), none, some (.inl 0), some (.inl 486)], [], S0_)) rfl ?_
  refine (vl_4s4 v0_ ii_ S0_ _) v0_ 0 S0_ hI_ hF_ ⟨?_, ?_, trivial⟩ (Nat.lt_succ_self _)
  · omega
  · exact hC_
