/-! java/util/Arrays.fill -/
def vw_3d6 : sx_Wl := ([], [86], [])
def vq_3d6 (fr_ : Int) (to_ : Int) (v0_ : Int) (S0_ : sm_S) (u_ : Option sm_V) (S1_ : sm_S) : Prop := u_ = none ∧ gi S1_ ∧ ai_fr (sx_W vw_3d6) S0_ S1_ ∧ (∀ j_ : Nat, fr_ ≤ (j_ : Int) → (j_ : Int) < to_ → S1_.2.2.1 86 0 j_ = v0_)
set_option maxHeartbeats 400000 in
theorem vl_3d6 {sc_ : Nat × (Nat → Int)} (fr_ : Int) (to_ : Int) (v0_ : Int) (S0_ : sm_S) (hv_ : (-1) ≤ v0_ ∧ v0_ ≤ 100000) (ht_ : 0 ≤ fr_ ∧ fr_ ≤ to_ ∧ to_ ≤ 4712) : ∀ nn_ : Nat, (∀ (k_ : Int) (S_ : sm_S), gi S_ → ai_fr (sx_W vw_3d6) S0_ S_ → ((fr_ ≤ k_ ∧ k_ ≤ to_) ∧ (∀ j_ : Nat, fr_ ≤ (j_ : Int) → (j_ : Int) < k_ → S_.2.2.1 86 0 j_ = v0_) ∧ True) → ((4717 - k_).toNat) < nn_ → sm_T (mt_P sc_) 1 3 (10, [some (.inr (.inr (some (86, 0)))), some (.inl fr_), some (.inl to_), some (.inl v0_), some (.inl k_)], [], S_) (fun ro9_ => ∃ u_ S1_, ro9_ = (.inl u_, S1_, 0) ∧ vq_3d6 fr_ to_ v0_ S0_ u_ S1_)) := by
  intro nn_
  induction nn_ with
  | zero => exact fun _ _ _ _ _ h_ => absurd h_ (Nat.not_lt_zero _)
  | succ nn_ ih_ =>
    rintro k_ S_ hI_ hF_ ⟨h0_, h1_, -⟩ hm_
    refine sm_T_go 2 (c1 := (13, [some (.inr (.inr (some (86, 0)))), some (.inl fr_), some (.inl to_), some (.inl v0_), some (.inl k_)], [.inl to_, .inl k_], S_)) rfl ?_
    refine sm_T_br (a := 3) (z := 14) rfl (fun cx1_ => ?_) (fun cx1_ => ?_)
    · have cx1_ : to_ ≤ k_ := of_decide_eq_true cx1_
      refine sm_T_rv rfl ⟨_, _, rfl, rfl, hI_, hF_, ?_⟩
      exact fun j_ u_ w_ => h1_ j_ u_ (by omega)
    · have cx1_ : ¬ (to_ ≤ k_) := of_decide_eq_false cx1_
      refine sm_T_go 3 (c1 := (20, [some (.inr (.inr (some (86, 0)))), some (.inl fr_), some (.inl to_), some (.inl v0_), some (.inl k_)], [.inl v0_, .inl k_, .inr (.inr (some (86, 0)))], S_)) rfl ?_
      refine sm_T_iast (n := 4712) rfl rfl (by omega) (by omega) ?_
      have hIx2_ : gi (sm_aI S_ 86 0 k_.toNat v0_) := gi_aI hI_ (show (-1) ≤ v0_ ∧ v0_ ≤ 100000 from ⟨by omega, by omega⟩)
      have hFx3_ : ai_fr (sx_W vw_3d6) S0_ (sm_aI S_ 86 0 k_.toNat v0_) := ai_fr_tr hF_ (ai_fr_aI rfl)
      refine sm_T_inc (a := 4) (z := 1) (v := k_) (w := k_ + 1) rfl rfl (by omega) (by omega) (by omega) ?_ -- pc_ 21
      refine sm_T_go 1 (c1 := (10, [some (.inr (.inr (some (86, 0)))), some (.inl fr_), some (.inl to_), some (.inl v0_), some (.inl (k_ + 1))], [], sm_aI S_ 86 0 k_.toNat v0_)) rfl ?_
      refine ih_ (k_ + 1) (sm_aI S_ 86 0 k_.toNat v0_) hIx2_ hFx3_ ⟨?_, ?_, trivial⟩ ?_
      · omega
      · intro j_ u_ w_
        rw [rd_eq]
        by_cases z_ : j_ = k_.toNat
        · rw [if_pos z_]
        · rw [if_neg z_]; exact h1_ j_ u_ (by omega)
      · omega
set_option maxHeartbeats 400000 in
theorem vc_3d6 {sc_ : Nat × (Nat → Int)} (fr_ : Int) (to_ : Int) (v0_ : Int) (S0_ : sm_S) (hI_ : gi S0_) (hv_ : (-1) ≤ v0_ ∧ v0_ ≤ 100000) (ht_ : 0 ≤ fr_ ∧ fr_ ≤ to_ ∧ to_ ≤ 4712) : sm_T (mt_P sc_) 1 3 (0, [some (.inr (.inr (some (86, 0)))), some (.inl fr_), some (.inl to_), some (.inl v0_), none], [], S0_) (fun ro9_ => ∃ u_ S1_, ro9_ = (.inl u_, S1_, 0) ∧ vq_3d6 fr_ to_ v0_ S0_ u_ S1_) := by
  have hF_ : ai_fr (sx_W vw_3d6) S0_ S0_ := ai_fr_rf
  refine sm_T_go 4 (c1 := (4, [some (.inr (.inr (some (86, 0)))), some (.inl fr_), some (.inl to_), some (.inl v0_), none], [.inl to_, .inl fr_, .inl 4712], S0_)) rfl ?_
  refine sm_T_cal (d1 := 0) (Q1 := vq_6 4712 fr_ to_ S0_) rfl rfl (by decide) (vc_6 4712 fr_ to_ S0_ hI_ (by omega)) (fun u_ Sx1_ px4_ => ?_)
  obtain ⟨rfl, hIx2_, hFx3_, px4_⟩ := px4_
  have hFx5_ : ai_fr (sx_W vw_3d6) S0_ Sx1_ := ai_fr_tr hF_ (fr_le hFx3_ rfl)
  refine sm_T_go 2 (c1 := (10, [some (.inr (.inr (some (86, 0)))), some (.inl fr_), some (.inl to_), some (.inl v0_), some (.inl fr_)], [], Sx1_)) rfl ?_
  refine (vl_3d6 fr_ to_ v0_ S0_ hv_ ht_ _) fr_ Sx1_ hIx2_ hFx5_ ⟨?_, ?_, trivial⟩ (Nat.lt_succ_self _)
  · omega
  · (intro j_ u_ w_; exfalso; omega)
