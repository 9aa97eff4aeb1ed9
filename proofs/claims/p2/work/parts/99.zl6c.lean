/-! Chip.gateArea -/
def vw_60 : sx_Wl := ([], [], [])
def vq_60 (ii_ : Nat) (S0_ : sm_S) (u_ : Option sm_V) (S1_ : sm_S) : Prop := S0_ = S1_ ∧ ∃ v_ : Int, u_ = some (.inl v_) ∧ (((-2147483648) ≤ v_ ∧ v_ ≤ 2147483647))
set_option maxHeartbeats 400000 in
theorem vl_60 {sc_ : Nat × (Nat → Int)} (ii_ : Nat) (S0_ : sm_S)  : ∀ nn_ : Nat, (∀ (x1_ : Int) (x2_ : Int) (S_ : sm_S), gi S_ → ai_fr (sx_W vw_60) S0_ S_ → (((-2147483648) ≤ x1_ ∧ x1_ ≤ 2147483647 ∧ 0 ≤ x2_ ∧ x2_ ≤ 150) ∧ (S_ = S0_) ∧ True) → ((4379 * 24 + 29 * (-x2_ + 150) + 24 : Int).toNat) < nn_ → sm_T (mt_P sc_) 0 60 (4, [some (.inr (.inr (some (2, ii_)))), some (.inl x1_), some (.inl x2_)], [], S_) (fun ro9_ => ∃ u_ S1_, ro9_ = (.inl u_, S1_, 0) ∧ vq_60 ii_ S0_ u_ S1_)) := by
  intro nn_
  induction nn_ with
  | zero => exact fun _ _ _ _ _ _ h_ => absurd h_ (Nat.not_lt_zero _)
  | succ nn_ ih_ =>
    rintro x1_ x2_ S_ hI_ hF_ ⟨b0_, hS_, -⟩ hm_
    have bx1_ : 0 ≤ S_.1 2 ii_ 8 ∧ S_.1 2 ii_ 8 ≤ 150 := hI_.1 2 ii_ 8 rfl
    refine sm_T_go 3 (c1 := (9, [some (.inr (.inr (some (2, ii_)))), some (.inl x1_), some (.inl x2_)], [.inl (S_.1 2 ii_ 8), .inl x2_], S_)) rfl ?_
    refine sm_T_br (a := 3) (z := 26) rfl (fun cx2_ => ?_) (fun cx2_ => ?_)
    · have cx2_ : (S_.1 2 ii_ 8) ≤ x2_ := of_decide_eq_true cx2_
      refine sm_T_go 1 (c1 := (36, [some (.inr (.inr (some (2, ii_)))), some (.inl x1_), some (.inl x2_)], [.inl x1_], S_)) rfl ?_
      refine sm_T_ri rfl ⟨_, _, rfl, (by first | rfl | exact hS_.symm), _, rfl, ?_⟩
      refine ⟨by omega, by omega⟩
    · have cx2_ : ¬ ((S_.1 2 ii_ 8) ≤ x2_) := of_decide_eq_false cx2_
      refine sm_T_go 7 (c1 := (25, [some (.inr (.inr (some (2, ii_)))), some (.inl x1_), some (.inl x2_)], [.inl x2_, .inr (.inr (some (35, (0 + ii_)))), .inr (.inr (some (57, (0 + (3 + ii_))))), .inl x1_], S_)) rfl ?_
      refine sm_T_iald (n := 150) rfl rfl (by omega) (by omega) ?_
      have bx3_ : 0 ≤ S_.2.2.1 35 (0 + ii_) x2_.toNat ∧ S_.2.2.1 35 (0 + ii_) x2_.toNat ≤ 11 := hI_.2 35 (0 + ii_) _
      refine sm_T_iald (n := 12) rfl rfl (by omega) (by omega) ?_
      have bx4_ : 0 ≤ S_.2.2.1 57 (0 + (3 + ii_)) (S_.2.2.1 35 (0 + ii_) x2_.toNat).toNat ∧ S_.2.2.1 57 (0 + (3 + ii_)) (S_.2.2.1 35 (0 + ii_) x2_.toNat).toNat ≤ 1000 := hI_.2 57 (0 + (3 + ii_)) _
      refine sm_T_bin (w := (i_add x1_ (S_.2.2.1 57 (0 + (3 + ii_)) (S_.2.2.1 35 (0 + ii_) x2_.toNat).toNat))) rfl rfl ?_ -- pc_ 27
      have bx5_ := i_add_r x1_ (S_.2.2.1 57 (0 + (3 + ii_)) (S_.2.2.1 35 (0 + ii_) x2_.toNat).toNat)
      refine sm_T_go 1 (c1 := (29, [some (.inr (.inr (some (2, ii_)))), some (.inl (i_add x1_ (S_.2.2.1 57 (0 + (3 + ii_)) (S_.2.2.1 35 (0 + ii_) x2_.toNat).toNat))), some (.inl x2_)], [], S_)) rfl ?_
      refine sm_T_inc (a := 2) (z := 1) (v := x2_) (w := x2_ + 1) rfl rfl (by omega) (by omega) (by omega) ?_ -- pc_ 29
      refine sm_T_go 1 (c1 := (4, [some (.inr (.inr (some (2, ii_)))), some (.inl (i_add x1_ (S_.2.2.1 57 (0 + (3 + ii_)) (S_.2.2.1 35 (0 + ii_) x2_.toNat).toNat))), some (.inl (x2_ + 1))], [], S_)) rfl ?_
      refine ih_ (i_add x1_ (S_.2.2.1 57 (0 + (3 + ii_)) (S_.2.2.1 35 (0 + ii_) x2_.toNat).toNat)) (x2_ + 1) S_ hI_ hF_ ⟨?_, ?_, trivial⟩ ?_
      · omega
      · first | rfl | exact hS_
      · omega
set_option maxHeartbeats 400000 in
theorem vc_60 {sc_ : Nat × (Nat → Int)} (ii_ : Nat) (S0_ : sm_S) (hI_ : gi S0_)  : sm_T (mt_P sc_) 0 60 (0, [some (.inr (.inr (some (2, ii_)))), none, none], [], S0_) (fun ro9_ => ∃ u_ S1_, ro9_ = (.inl u_, S1_, 0) ∧ vq_60 ii_ S0_ u_ S1_) := by
  have hF_ : ai_fr (sx_W vw_60) S0_ S0_ := ai_fr_rf
  refine sm_T_go 4 (c1 := (4, [some (.inr (.inr (some (2, ii_)))), some (.inl 0), some (.inl 0)], [], S0_)) rfl ?_
  refine (vl_60 ii_ S0_ _) 0 0 S0_ hI_ hF_ ⟨?_, ?_, trivial⟩ (Nat.lt_succ_self _)
  · omega
  · first | rfl | exact hS_
