/-! Mapper.placeIn -/
def vw_106 : sx_Wl := ([], [], [])
def vq_106 (a1_ : Int) (a2_ : Int) (S0_ : sm_S) (u_ : Option sm_V) (S1_ : sm_S) : Prop := S0_ = S1_ ∧ ∃ v_ : Int, u_ = some (.inl v_) ∧ (-1 ≤ v_ ∧ v_ ≤ 2)
set_option maxHeartbeats 400000 in
theorem vl_106 {sc_ : Nat × (Nat → Int)} (a1_ : Int) (a2_ : Int) (S0_ : sm_S) (h1_ : 0 ≤ a1_ ∧ a1_ ≤ 1023) : ∀ nn_ : Nat, (∀ (k_ : Int) (S_ : sm_S), gi S_ → ai_fr (sx_W vw_106) S0_ S_ → ((0 ≤ k_ ∧ k_ ≤ 3) ∧ (S_ = S0_) ∧ True) → ((10 - k_).toNat) < nn_ → sm_T (mt_P sc_) 0 106 (2, [some (.inr (.inr (some (6, 0)))), some (.inl a1_), some (.inl a2_), some (.inl k_)], [], S_) (fun ro9_ => ∃ u_ S1_, ro9_ = (.inl u_, S1_, 0) ∧ vq_106 a1_ a2_ S0_ u_ S1_)) := by
  intro nn_
  induction nn_ with
  | zero => exact fun _ _ _ _ _ h_ => absurd h_ (Nat.not_lt_zero _)
  | succ nn_ ih_ =>
    rintro k_ S_ hI_ hF_ ⟨h0_, hS_, -⟩ hm_
    refine sm_T_go 2 (c1 := (4, [some (.inr (.inr (some (6, 0)))), some (.inl a1_), some (.inl a2_), some (.inl k_)], [.inl 3, .inl k_], S_)) rfl ?_
    refine sm_T_br (a := 3) (z := 25) rfl (fun cx1_ => ?_) (fun cx1_ => ?_)
    · have cx1_ : 3 ≤ k_ := of_decide_eq_true cx1_
      refine sm_T_go 1 (c1 := (30, [some (.inr (.inr (some (6, 0)))), some (.inl a1_), some (.inl a2_), some (.inl k_)], [.inl (-1)], S_)) rfl ?_
      refine sm_T_ri rfl ⟨_, _, rfl, (by first | rfl | exact hS_.symm), _, rfl, ?_⟩
      omega
    · have cx1_ : ¬ (3 ≤ k_) := of_decide_eq_false cx1_
      refine sm_T_go 4 (c1 := (13, [some (.inr (.inr (some (6, 0)))), some (.inl a1_), some (.inl a2_), some (.inl k_)], [.inl a1_, .inl 3, .inr (.inr (some (65, 0)))], S_)) rfl ?_
      refine sm_T_bin (w := 3 * a1_) rfl (bi_mul (by omega) (by omega) (by omega)) ?_ -- pc_ 13
      refine sm_T_go 1 (c1 := (15, [some (.inr (.inr (some (6, 0)))), some (.inl a1_), some (.inl a2_), some (.inl k_)], [.inl k_, .inl (3 * a1_), .inr (.inr (some (65, 0)))], S_)) rfl ?_
      refine sm_T_bin (w := 3 * a1_ + k_) rfl (bi_add (by omega) (by omega) (by omega)) ?_ -- pc_ 15
      refine sm_T_iald (n := 3072) rfl rfl (by omega) (by omega) ?_
      have bx2_ : (-1) ≤ S_.2.2.1 65 0 (3 * a1_ + k_).toNat ∧ S_.2.2.1 65 0 (3 * a1_ + k_).toNat ≤ 1012 := hI_.2 65 0 _
      refine sm_T_go 1 (c1 := (18, [some (.inr (.inr (some (6, 0)))), some (.inl a1_), some (.inl a2_), some (.inl k_)], [.inl a2_, .inl (S_.2.2.1 65 0 (3 * a1_ + k_).toNat)], S_)) rfl ?_
      refine sm_T_br (a := 1) (z := 5) rfl (fun cx3_ => ?_) (fun cx3_ => ?_)
      · have cx3_ : (S_.2.2.1 65 0 (3 * a1_ + k_).toNat) ≠ a2_ := of_decide_eq_true cx3_
        refine sm_T_inc (a := 3) (z := 1) (v := k_) (w := k_ + 1) rfl rfl (by omega) (by omega) (by omega) ?_ -- pc_ 23
        refine sm_T_go 1 (c1 := (2, [some (.inr (.inr (some (6, 0)))), some (.inl a1_), some (.inl a2_), some (.inl (k_ + 1))], [], S_)) rfl ?_
        refine ih_ (k_ + 1) S_ hI_ hF_ ⟨?_, ?_, trivial⟩ ?_
        · omega
        · first | rfl | exact hS_
        · omega
      · have cx3_ : ¬ ((S_.2.2.1 65 0 (3 * a1_ + k_).toNat) ≠ a2_) := of_decide_eq_false cx3_
        refine sm_T_go 1 (c1 := (22, [some (.inr (.inr (some (6, 0)))), some (.inl a1_), some (.inl a2_), some (.inl k_)], [.inl k_], S_)) rfl ?_
        refine sm_T_ri rfl ⟨_, _, rfl, (by first | rfl | exact hS_.symm), _, rfl, ?_⟩
        omega
set_option maxHeartbeats 400000 in
theorem vc_106 {sc_ : Nat × (Nat → Int)} (a1_ : Int) (a2_ : Int) (S0_ : sm_S) (hI_ : gi S0_) (h1_ : 0 ≤ a1_ ∧ a1_ ≤ 1023) : sm_T (mt_P sc_) 0 106 (0, [some (.inr (.inr (some (6, 0)))), some (.inl a1_), some (.inl a2_), none], [], S0_) (fun ro9_ => ∃ u_ S1_, ro9_ = (.inl u_, S1_, 0) ∧ vq_106 a1_ a2_ S0_ u_ S1_) := by
  have hF_ : ai_fr (sx_W vw_106) S0_ S0_ := ai_fr_rf
  refine sm_T_go 2 (c1 := (2, [some (.inr (.inr (some (6, 0)))), some (.inl a1_), some (.inl a2_), some (.inl 0)], [], S0_)) rfl ?_
  refine (vl_106 a1_ a2_ S0_ h1_ _) 0 S0_ hI_ hF_ ⟨?_, ?_, trivial⟩ (Nat.lt_succ_self _)
  · omega
  · first | rfl | exact hS_
