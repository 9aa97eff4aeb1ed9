/-! M_.free -/
def vw_362d : sx_Wl := ([], [], [])
def vq_362d (k_ : Int) (S0_ : sm_S) (u_ : Option sm_V) (S1_ : sm_S) : Prop := S0_ = S1_ ∧ ∃ v_ : Int, u_ = some (.inl v_) ∧ ((v_ = -1 ∧ ∀ j_ : Nat, j_ < 6 → (S1_.2.2.1 153 0 (j_)) = 1) ∨ (∃ u_ : Nat, v_ = (u_ : Int) ∧ u_ < 6 ∧ (S1_.2.2.1 153 0 (u_)) = 0 ∧ ∀ j_ : Nat, j_ < u_ → (S1_.2.2.1 153 0 (j_)) = 1))
set_option maxHeartbeats 400000 in
theorem vl_362d {sc_ : Nat × (Nat → Int)} (k_ : Int) (S0_ : sm_S) (hk_ : k_ = 6) : ∀ nn_ : Nat, (∀ (i_ : Int) (S_ : sm_S), gi S_ → ai_fr (sx_W vw_362d) S0_ S_ → ((0 ≤ i_ ∧ i_ ≤ 6) ∧ (∀ j_ : Nat, j_ < i_.toNat → (S_.2.2.1 153 0 (j_)) = 1) ∧ (S_ = S0_) ∧ True) → ((20 - i_).toNat) < nn_ → sm_T (mt_P sc_) 0 362 (2, [some (.inr (.inr (some (153, 0)))), some (.inl k_), some (.inl i_)], [], S_) (fun r_ => ∃ u_ S1_, r_ = (.inl u_, S1_, 0) ∧ vq_362d k_ S0_ u_ S1_)) := by
  intro nn_
  induction nn_ with
  | zero => exact fun _ _ _ _ _ h_ => absurd h_ (Nat.not_lt_zero _)
  | succ nn_ ih_ =>
    rintro i_ S_ hI_ hF_ ⟨h0_, h1_, hS_, -⟩ hm_
    refine sm_T_go 2 (c1 := (4, [some (.inr (.inr (some (153, 0)))), some (.inl k_), some (.inl i_)], [.inl k_, .inl i_], S_)) rfl ?_
    refine sm_T_br (a := 3) (z := 17) rfl (fun cx1_ => ?_) (fun cx1_ => ?_)
    · have cx1_ : k_ ≤ i_ := of_decide_eq_true cx1_
      refine sm_T_go 1 (c1 := (22, [some (.inr (.inr (some (153, 0)))), some (.inl k_), some (.inl i_)], [.inl (-1)], S_)) rfl ?_
      refine sm_T_ri rfl ⟨_, _, rfl, (by first | rfl | exact hS_.symm), _, rfl, ?_⟩
      left
      refine ⟨rfl, fun j_ hj_ => ?_⟩
      exact h1_ j_ (by omega)
    · have cx1_ : ¬ (k_ ≤ i_) := of_decide_eq_false cx1_
      refine sm_T_go 2 (c1 := (9, [some (.inr (.inr (some (153, 0)))), some (.inl k_), some (.inl i_)], [.inl i_, .inr (.inr (some (153, 0)))], S_)) rfl ?_
      refine sm_T_zald (n := 6) rfl rfl (by omega) (by omega) ?_
      have bx2_ : 0 ≤ S_.2.2.1 153 0 i_.toNat ∧ S_.2.2.1 153 0 i_.toNat ≤ 1 := hI_.2 153 0 _
      refine sm_T_b0 (a := 1) (z := 5) rfl (fun cx3_ => ?_) (fun cx3_ => ?_)
      · have cx3_ : (S_.2.2.1 153 0 i_.toNat) ≠ 0 := of_decide_eq_true cx3_
        refine sm_T_inc (a := 2) (z := 1) (v := i_) (w := i_ + 1) rfl rfl (by omega) (by omega) (by omega) ?_
        refine sm_T_go 1 (c1 := (2, [some (.inr (.inr (some (153, 0)))), some (.inl k_), some (.inl (i_ + 1))], [], S_)) rfl ?_
        refine ih_ (i_ + 1) S_ hI_ hF_ ⟨?_, ?_, ?_, trivial⟩ ?_
        · omega
        · intro j_ hj_
          by_cases z_ : j_ = i_.toNat
          · rw [z_]; omega
          · exact h1_ j_ (by omega)
        · first | rfl | exact hS_
        · omega
      · have cx3_ : ¬ ((S_.2.2.1 153 0 i_.toNat) ≠ 0) := of_decide_eq_false cx3_
        refine sm_T_go 1 (c1 := (14, [some (.inr (.inr (some (153, 0)))), some (.inl k_), some (.inl i_)], [.inl i_], S_)) rfl ?_
        refine sm_T_ri rfl ⟨_, _, rfl, (by first | rfl | exact hS_.symm), _, rfl, ?_⟩
        right
        exact ⟨i_.toNat, by omega, by omega, by omega, h1_⟩
set_option maxHeartbeats 400000 in
theorem vc_362d {sc_ : Nat × (Nat → Int)} (k_ : Int) (S0_ : sm_S) (hI_ : gi S0_) (hk_ : k_ = 6) : sm_T (mt_P sc_) 0 362 (0, [some (.inr (.inr (some (153, 0)))), some (.inl k_), none], [], S0_) (fun r_ => ∃ u_ S1_, r_ = (.inl u_, S1_, 0) ∧ vq_362d k_ S0_ u_ S1_) := by
  have hF_ : ai_fr (sx_W vw_362d) S0_ S0_ := ai_fr_rf
  refine sm_T_go 2 (c1 := (2, [some (.inr (.inr (some (153, 0)))), some (.inl k_), some (.inl 0)], [], S0_)) rfl ?_
  refine (vl_362d k_ S0_ hk_ _) 0 S0_ hI_ hF_ ⟨?_, ?_, ?_, trivial⟩ (Nat.lt_succ_self _)
  · omega
  · (intro j_ hj_; exact absurd hj_ (Nat.not_lt_zero _))
  · first | rfl | exact hS_
