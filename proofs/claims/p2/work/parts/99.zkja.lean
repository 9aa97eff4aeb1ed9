/-! all nets routed; written by wip/p55/gen/vg -/

theorem bpp_fr {w_ : sx_Wl} {bi_ ci_ : Nat} {S_ S'_ : sm_S} (h_ : bpp bi_ ci_ S_) (g_ : ai_fr (sx_W w_) S_ S'_) (k1_ : (sx_W w_).1 2 1 = false := by rfl) (k2_ : (sx_W w_).1 2 2 = false := by rfl) (k3_ : (sx_W w_).1 2 3 = false := by rfl) (k8_ : (sx_W w_).1 2 8 = false := by rfl) (a1_ : (sx_W w_).2.1 16 = false := by rfl) (a2_ : (sx_W w_).2.1 17 = false := by rfl) : bpp bi_ ci_ S'_ := by
  unfold bpp
  rw [fr_arr g_ a1_, fr_arr g_ a2_, g_.1 2 ci_ 1 k1_, g_.1 2 ci_ 2 k2_, g_.1 2 ci_ 3 k3_, g_.1 2 ci_ 8 k8_]
  exact h_
/-! java/util/Arrays.fill -/
def vw_2o2 : sx_Wl := ([], [22], [])
def vq_2o2 (v0_ : Int) (bb_ : Nat) (S0_ : sm_S) (u_ : Option sm_V) (S1_ : sm_S) : Prop := u_ = none ∧ gi S1_ ∧ ai_fr (sx_W vw_2o2) S0_ S1_ ∧ (cdf bb_ S0_ S1_ ∧ (∀ j_, j_ < 4712 → S1_.2.2.1 22 (0 + bb_) j_ = v0_))
set_option maxHeartbeats 400000 in
theorem vl_2o2 {sc_ : Nat × (Nat → Int)} (v0_ : Int) (bb_ : Nat) (S0_ : sm_S) (hv_ : (-1) ≤ v0_ ∧ v0_ ≤ 161) : ∀ nn_ : Nat, (∀ (k_ : Int) (S_ : sm_S), gi S_ → ai_fr (sx_W vw_2o2) S0_ S_ → ((0 ≤ k_ ∧ k_ ≤ 4712) ∧ (∀ j_, j_ < k_.toNat → S_.2.2.1 22 (0 + bb_) j_ = v0_) ∧ (cdf bb_ S0_ S_) ∧ True) → ((4712 - k_).toNat) < nn_ → sm_T (mt_P sc_) 0 2 (5, [some (.inr (.inr (some (22, (0 + bb_))))), some (.inl v0_), some (.inl k_), some (.inl 4712)], [], S_) (fun ro9_ => ∃ u_ S1_, ro9_ = (.inl u_, S1_, 0) ∧ vq_2o2 v0_ bb_ S0_ u_ S1_)) := by
  intro nn_
  induction nn_ with
  | zero => exact fun _ _ _ _ _ h_ => absurd h_ (Nat.not_lt_zero _)
  | succ nn_ ih_ =>
    rintro k_ S_ hI_ hF_ ⟨h0_, h1_, hC_, -⟩ hm_
    refine sm_T_go 2 (c1 := (7, [some (.inr (.inr (some (22, (0 + bb_))))), some (.inl v0_), some (.inl k_), some (.inl 4712)], [.inl 4712, .inl k_], S_)) rfl ?_
    refine sm_T_br (a := 3) (z := 13) rfl (fun cx1_ => ?_) (fun cx1_ => ?_)
    · have cx1_ : 4712 ≤ k_ := of_decide_eq_true cx1_
      refine sm_T_rv rfl ⟨_, _, rfl, rfl, hI_, hF_, ?_⟩
      refine ⟨hC_, ?_⟩
      exact fun j_ hj_ => h1_ j_ (by omega)
    · have cx1_ : ¬ (4712 ≤ k_) := of_decide_eq_false cx1_
      refine sm_T_go 3 (c1 := (13, [some (.inr (.inr (some (22, (0 + bb_))))), some (.inl v0_), some (.inl k_), some (.inl 4712)], [.inl v0_, .inl k_, .inr (.inr (some (22, (0 + bb_))))], S_)) rfl ?_
      refine sm_T_iast (n := 4712) rfl rfl (by omega) (by omega) ?_
      have hIx2_ : gi (sm_aI S_ 22 (0 + bb_) k_.toNat v0_) := gi_aI hI_ (show (-1) ≤ v0_ ∧ v0_ ≤ 161 from ⟨by omega, by omega⟩)
      have hFx3_ : ai_fr (sx_W vw_2o2) S0_ (sm_aI S_ 22 (0 + bb_) k_.toNat v0_) := ai_fr_tr hF_ (ai_fr_aI rfl)
      have hCx4_ : cdf bb_ S0_ (sm_aI S_ 22 (0 + bb_) k_.toNat v0_) := cdf_aI hC_ (Or.inr (by rw [show cof 22 = 0 from rfl] <;> omega))
      refine sm_T_inc (a := 2) (z := 1) (v := k_) (w := k_ + 1) rfl rfl (by omega) (by omega) (by omega) ?_ -- pc_ 14
      refine sm_T_go 1 (c1 := (5, [some (.inr (.inr (some (22, (0 + bb_))))), some (.inl v0_), some (.inl (k_ + 1)), some (.inl 4712)], [], sm_aI S_ 22 (0 + bb_) k_.toNat v0_)) rfl ?_
      refine ih_ (k_ + 1) (sm_aI S_ 22 (0 + bb_) k_.toNat v0_) hIx2_ hFx3_ ⟨?_, ?_, ?_, trivial⟩ ?_
      · omega
      · intro j_ hj_
        rw [rd_eq]
        by_cases z_ : j_ = k_.toNat
        · rw [if_pos z_]
        · rw [if_neg z_]; exact h1_ j_ (by omega)
      · exact hCx4_
      · omega
set_option maxHeartbeats 400000 in
theorem vc_2o2 {sc_ : Nat × (Nat → Int)} (v0_ : Int) (bb_ : Nat) (S0_ : sm_S) (hI_ : gi S0_) (hv_ : (-1) ≤ v0_ ∧ v0_ ≤ 161) : sm_T (mt_P sc_) 0 2 (0, [some (.inr (.inr (some (22, (0 + bb_))))), some (.inl v0_), none, none], [], S0_) (fun ro9_ => ∃ u_ S1_, ro9_ = (.inl u_, S1_, 0) ∧ vq_2o2 v0_ bb_ S0_ u_ S1_) := by
  have hF_ : ai_fr (sx_W vw_2o2) S0_ S0_ := ai_fr_rf
  have hC_ : cdf bb_ S0_ S0_ := cdf_rf
  refine sm_T_go 5 (c1 := (5, [some (.inr (.inr (some (22, (0 + bb_))))), some (.inl v0_), some (.inl 0), some (.inl 4712)], [], S0_)) rfl ?_
  refine (vl_2o2 v0_ bb_ S0_ hv_ _) 0 S0_ hI_ hF_ ⟨?_, ?_, ?_, trivial⟩ (Nat.lt_succ_self _)
  · omega
  · (intro j_ hj_; exact absurd hj_ (Nat.not_lt_zero _))
  · exact hC_
