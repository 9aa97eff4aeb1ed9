/-! Times.restTime -/
def vw_210 : sx_Wl := ([], [], [])
def vq_210 (a1_ : Int) (S0_ : sm_S) (u_ : Option sm_V) (S1_ : sm_S) : Prop := S0_ = S1_ ∧ ∃ v_ : Int, u_ = some (.inl v_) ∧ (True)
set_option maxHeartbeats 400000 in
theorem vl_210 {sc_ : Nat × (Nat → Int)} (a1_ : Int) (S0_ : sm_S) (h1_ : 0 ≤ a1_ ∧ a1_ ≤ 162) : ∀ nn_ : Nat, (∀ (ls_ : Int) (k_ : Int) (S_ : sm_S), gi S_ → ai_fr (sx_W vw_210) S0_ S_ → ((0 ≤ k_ ∧ k_ ≤ 20000) ∧ (S_ = S0_) ∧ True) → ((30000 - k_).toNat) < nn_ → sm_T (mt_P sc_) 0 210 (4, [some (.inr (.inr (some (11, 0)))), some (.inl a1_), some (.inl ls_), some (.inl k_)], [], S_) (fun ro9_ => ∃ u_ S1_, ro9_ = (.inl u_, S1_, 0) ∧ vq_210 a1_ S0_ u_ S1_)) := by
  intro nn_
  induction nn_ with
  | zero => exact fun _ _ _ _ _ _ h_ => absurd h_ (Nat.not_lt_zero _)
  | succ nn_ ih_ =>
    rintro ls_ k_ S_ hI_ hF_ ⟨h0_, hS_, -⟩ hm_
    refine sm_T_go 4 (c1 := (10, [some (.inr (.inr (some (11, 0)))), some (.inl a1_), some (.inl ls_), some (.inl k_)], [.inl a1_, .inr (.inr (some (108, 0))), .inl k_], S_)) rfl ?_
    refine sm_T_iald (n := 163) rfl rfl (by omega) (by omega) ?_
    have bx1_ : 0 ≤ S_.2.2.1 108 0 a1_.toNat ∧ S_.2.2.1 108 0 a1_.toNat ≤ 20000 := hI_.2 108 0 _
    refine sm_T_br (a := 3) (z := 20) rfl (fun cx2_ => ?_) (fun cx2_ => ?_)
    · have cx2_ : (S_.2.2.1 108 0 a1_.toNat) ≤ k_ := of_decide_eq_true cx2_
      refine sm_T_go 1 (c1 := (32, [some (.inr (.inr (some (11, 0)))), some (.inl a1_), some (.inl ls_), some (.inl k_)], [.inl ls_], S_)) rfl ?_
      refine sm_T_ri rfl ⟨_, _, rfl, (by first | rfl | exact hS_.symm), _, rfl, ?_⟩
      trivial
    · have cx2_ : ¬ ((S_.2.2.1 108 0 a1_.toNat) ≤ k_) := of_decide_eq_false cx2_
      refine sm_T_go 4 (c1 := (20, [some (.inr (.inr (some (11, 0)))), some (.inl a1_), some (.inl ls_), some (.inl k_)], [.inl k_, .inr (.inr (some (109, 0))), .inl ls_], S_)) rfl ?_
      refine sm_T_iald (n := 20000) rfl rfl (by omega) (by omega) ?_
      have bx3_ : (-2147483648) ≤ S_.2.2.1 109 0 k_.toNat ∧ S_.2.2.1 109 0 k_.toNat ≤ 2147483647 := hI_.2 109 0 _
      refine sm_T_nt (u := some (.inl (sm_mx ls_ (S_.2.2.1 109 0 k_.toNat)))) (S1 := S_) rfl rfl rfl ?_
      have bx4_ := sm_mx_d ls_ (S_.2.2.1 109 0 k_.toNat)
      refine sm_T_go 1 (c1 := (25, [some (.inr (.inr (some (11, 0)))), some (.inl a1_), some (.inl (sm_mx ls_ (S_.2.2.1 109 0 k_.toNat))), some (.inl k_)], [], S_)) rfl ?_
      refine sm_T_inc (a := 3) (z := 1) (v := k_) (w := k_ + 1) rfl rfl (by omega) (by omega) (by omega) ?_ -- pc_ 25
      refine sm_T_go 1 (c1 := (4, [some (.inr (.inr (some (11, 0)))), some (.inl a1_), some (.inl (sm_mx ls_ (S_.2.2.1 109 0 k_.toNat))), some (.inl (k_ + 1))], [], S_)) rfl ?_
      refine ih_ (sm_mx ls_ (S_.2.2.1 109 0 k_.toNat)) (k_ + 1) S_ hI_ hF_ ⟨?_, ?_, trivial⟩ ?_
      · omega
      · first | rfl | exact hS_
      · omega
set_option maxHeartbeats 400000 in
theorem vc_210 {sc_ : Nat × (Nat → Int)} (a1_ : Int) (S0_ : sm_S) (hI_ : gi S0_) (h1_ : 0 ≤ a1_ ∧ a1_ ≤ 162) : sm_T (mt_P sc_) 0 210 (0, [some (.inr (.inr (some (11, 0)))), some (.inl a1_), none, none], [], S0_) (fun ro9_ => ∃ u_ S1_, ro9_ = (.inl u_, S1_, 0) ∧ vq_210 a1_ S0_ u_ S1_) := by
  have hF_ : ai_fr (sx_W vw_210) S0_ S0_ := ai_fr_rf
  refine sm_T_go 4 (c1 := (4, [some (.inr (.inr (some (11, 0)))), some (.inl a1_), some (.inl 0), some (.inl 0)], [], S0_)) rfl ?_
  refine (vl_210 a1_ S0_ h1_ _) 0 0 S0_ hI_ hF_ ⟨?_, ?_, trivial⟩ (Nat.lt_succ_self _)
  · omega
  · first | rfl | exact hS_
