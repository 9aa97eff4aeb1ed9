/-! java/util/Arrays.fill -/
def vw_5b3 : sx_Wl := ([], [93], [])
def vq_5b3 (fr_ : Int) (to_ : Int) (v0_ : Int) (S0_ : sm_S) (u_ : Option sm_V) (S1_ : sm_S) : Prop := u_ = none ∧ gi S1_ ∧ ai_fr (sx_W vw_5b3) S0_ S1_ ∧ (∀ k_, S1_.2.2.2 93 0 k_ = S0_.2.2.2 93 0 k_ ∨ S1_.2.2.2 93 0 k_ = v0_)
set_option maxHeartbeats 400000 in
theorem vl_5b3 {sc_ : Nat × (Nat → Int)} (fr_ : Int) (to_ : Int) (v0_ : Int) (S0_ : sm_S) (ht_ : 0 ≤ fr_ ∧ fr_ ≤ to_ ∧ to_ ≤ 10368) : ∀ nn_ : Nat, (∀ (k_ : Int) (S_ : sm_S), gi S_ → ai_fr (sx_W vw_5b3) S0_ S_ → ((fr_ ≤ k_ ∧ k_ ≤ to_) ∧ (∀ j_, S_.2.2.2 93 0 j_ = S0_.2.2.2 93 0 j_ ∨ S_.2.2.2 93 0 j_ = v0_) ∧ True) → ((10373 - k_).toNat) < nn_ → sm_T (mt_P sc_) 1 5 (10, [some (.inr (.inr (some (93, 0)))), some (.inl fr_), some (.inl to_), some (.inr (.inl v0_)), none, some (.inl k_)], [], S_) (fun ro9_ => ∃ u_ S1_, ro9_ = (.inl u_, S1_, 0) ∧ vq_5b3 fr_ to_ v0_ S0_ u_ S1_)) := by
  intro nn_
  induction nn_ with
  | zero => exact fun _ _ _ _ _ h_ => absurd h_ (Nat.not_lt_zero _)
  | succ nn_ ih_ =>
    rintro k_ S_ hI_ hF_ ⟨h0_, h1_, -⟩ hm_
    refine sm_T_go 2 (c1 := (13, [some (.inr (.inr (some (93, 0)))), some (.inl fr_), some (.inl to_), some (.inr (.inl v0_)), none, some (.inl k_)], [.inl to_, .inl k_], S_)) rfl ?_
    refine sm_T_br (a := 3) (z := 14) rfl (fun cx1_ => ?_) (fun cx1_ => ?_)
    · have cx1_ : to_ ≤ k_ := of_decide_eq_true cx1_
      refine sm_T_rv rfl ⟨_, _, rfl, rfl, hI_, hF_, ?_⟩
      exact h1_
    · have cx1_ : ¬ (to_ ≤ k_) := of_decide_eq_false cx1_
      refine sm_T_go 3 (c1 := (20, [some (.inr (.inr (some (93, 0)))), some (.inl fr_), some (.inl to_), some (.inr (.inl v0_)), none, some (.inl k_)], [.inr (.inl v0_), .inl k_, .inr (.inr (some (93, 0)))], S_)) rfl ?_
      refine sm_T_last (n := 10368) rfl rfl (by omega) (by omega) ?_
      have hIx2_ : gi (sm_aL S_ 93 0 k_.toNat v0_) := gi_aL hI_
      have hFx3_ : ai_fr (sx_W vw_5b3) S0_ (sm_aL S_ 93 0 k_.toNat v0_) := ai_fr_tr hF_ (ai_fr_aL rfl)
      refine sm_T_inc (a := 5) (z := 1) (v := k_) (w := k_ + 1) rfl rfl (by omega) (by omega) (by omega) ?_ -- pc_ 21
      refine sm_T_go 1 (c1 := (10, [some (.inr (.inr (some (93, 0)))), some (.inl fr_), some (.inl to_), some (.inr (.inl v0_)), none, some (.inl (k_ + 1))], [], sm_aL S_ 93 0 k_.toNat v0_)) rfl ?_
      refine ih_ (k_ + 1) (sm_aL S_ 93 0 k_.toNat v0_) hIx2_ hFx3_ ⟨?_, ?_, trivial⟩ ?_
      · omega
      · intro j_
        rw [rd_leq]
        split
        · right; rfl
        · exact h1_ j_
      · omega
set_option maxHeartbeats 400000 in
theorem vc_5b3 {sc_ : Nat × (Nat → Int)} (fr_ : Int) (to_ : Int) (v0_ : Int) (S0_ : sm_S) (hI_ : gi S0_) (ht_ : 0 ≤ fr_ ∧ fr_ ≤ to_ ∧ to_ ≤ 10368) : sm_T (mt_P sc_) 1 5 (0, [some (.inr (.inr (some (93, 0)))), some (.inl fr_), some (.inl to_), some (.inr (.inl v0_)), none, none], [], S0_) (fun ro9_ => ∃ u_ S1_, ro9_ = (.inl u_, S1_, 0) ∧ vq_5b3 fr_ to_ v0_ S0_ u_ S1_) := by
  have hF_ : ai_fr (sx_W vw_5b3) S0_ S0_ := ai_fr_rf
  refine sm_T_go 4 (c1 := (4, [some (.inr (.inr (some (93, 0)))), some (.inl fr_), some (.inl to_), some (.inr (.inl v0_)), none, none], [.inl to_, .inl fr_, .inl 10368], S0_)) rfl ?_
  refine sm_T_cal (d1 := 0) (Q1 := vq_6 10368 fr_ to_ S0_) rfl rfl (by decide) (vc_6 10368 fr_ to_ S0_ hI_ (by omega)) (fun u_ Sx1_ px4_ => ?_)
  obtain ⟨rfl, hIx2_, hFx3_, px4_⟩ := px4_
  have hFx5_ : ai_fr (sx_W vw_5b3) S0_ Sx1_ := ai_fr_tr hF_ (fr_le hFx3_ rfl)
  refine sm_T_go 2 (c1 := (10, [some (.inr (.inr (some (93, 0)))), some (.inl fr_), some (.inl to_), some (.inr (.inl v0_)), none, some (.inl fr_)], [], Sx1_)) rfl ?_
  refine (vl_5b3 fr_ to_ v0_ S0_ ht_ _) fr_ Sx1_ hIx2_ hFx5_ ⟨?_, ?_, trivial⟩ (Nat.lt_succ_self _)
  · omega
  · (intro j_; first | exact Or.inl rfl | (left; rw [px4_]))
