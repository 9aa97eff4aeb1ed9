/-! Layout.thinBox -/
def vw_81 : sx_Wl := ([], [], [])
def vq_81 (a1_ : Int) (ii_ : Nat) (S0_ : sm_S) (u_ : Option sm_V) (S1_ : sm_S) : Prop := S0_ = S1_ ∧ ∃ v_ : Int, u_ = some (.inl v_) ∧ (-1 ≤ v_ ∧ v_ ≤ 1999)
set_option maxHeartbeats 400000 in
theorem vl_81 {sc_ : Nat × (Nat → Int)} (a1_ : Int) (ii_ : Nat) (S0_ : sm_S) (h1_ : 0 ≤ a1_ ∧ a1_ ≤ 2147483647) : ∀ nn_ : Nat, (∀ (rs_ : Int) (k_ : Int) (S_ : sm_S), gi S_ → ai_fr (sx_W vw_81) S0_ S_ → ((0 ≤ k_ ∧ k_ ≤ 2000 ∧ -2147483648 ≤ rs_ ∧ rs_ ≤ 2147483647) ∧ (S_ = S0_) ∧ True) → ((3000 - k_).toNat) < nn_ → sm_T (mt_P sc_) 1 81 (4, [some (.inr (.inr (some (4, ii_)))), some (.inl a1_), some (.inl rs_), some (.inl k_)], [], S_) (fun ro9_ => ∃ u_ S1_, ro9_ = (.inl u_, S1_, 0) ∧ vq_81 a1_ ii_ S0_ u_ S1_)) := by
  intro nn_
  induction nn_ with
  | zero => exact fun _ _ _ _ _ _ h_ => absurd h_ (Nat.not_lt_zero _)
  | succ nn_ ih_ =>
    rintro rs_ k_ S_ hI_ hF_ ⟨h0_, hS_, -⟩ hm_
    have cn_ : 0 ≤ S_.1 4 ii_ 1 ∧ S_.1 4 ii_ 1 ≤ 2000 := hI_.1 4 ii_ 1 rfl
    have bx1_ : 0 ≤ S_.1 4 ii_ 1 ∧ S_.1 4 ii_ 1 ≤ 2000 := hI_.1 4 ii_ 1 rfl
    refine sm_T_go 3 (c1 := (9, [some (.inr (.inr (some (4, ii_)))), some (.inl a1_), some (.inl rs_), some (.inl k_)], [.inl (S_.1 4 ii_ 1), .inl k_], S_)) rfl ?_
    refine sm_T_br (a := 3) (z := 26) rfl (fun cx2_ => ?_) (fun cx2_ => ?_)
    · have cx2_ : (S_.1 4 ii_ 1) ≤ k_ := of_decide_eq_true cx2_
      refine sm_T_go 1 (c1 := (36, [some (.inr (.inr (some (4, ii_)))), some (.inl a1_), some (.inl rs_), some (.inl k_)], [.inl (-1)], S_)) rfl ?_
      refine sm_T_ri rfl ⟨_, _, rfl, (by first | rfl | exact hS_.symm), _, rfl, ?_⟩
      omega
    · have cx2_ : ¬ ((S_.1 4 ii_ 1) ≤ k_) := of_decide_eq_false cx2_
      refine sm_T_go 2 (c1 := (14, [some (.inr (.inr (some (4, ii_)))), some (.inl a1_), some (.inl rs_), some (.inl k_)], [.inl k_, .inr (.inr (some (4, ii_)))], S_)) rfl ?_
      refine sm_T_cal (d1 := 0) (Q1 := vq_76 k_ ii_ S_) rfl rfl (by decide) (vc_76 k_ ii_ S_ hI_ (by omega)) (fun u_ Sx3_ px6_ => ?_)
      obtain ⟨rfl, vx8_, rfl, px6_⟩ := px6_
      refine sm_T_b0 (a := 0) (z := 12) rfl (fun cx9_ => ?_) (fun cx9_ => ?_)
      · have cx9_ : vx8_ = 0 := of_decide_eq_true cx9_
        refine sm_T_inc (a := 3) (z := 1) (v := k_) (w := k_ + 1) rfl rfl (by omega) (by omega) (by omega) ?_ -- pc_ 29
        refine sm_T_go 1 (c1 := (4, [some (.inr (.inr (some (4, ii_)))), some (.inl a1_), some (.inl rs_), some (.inl (k_ + 1))], [], S_)) rfl ?_
        refine ih_ rs_ (k_ + 1) S_ hI_ hF_ ⟨?_, ?_, trivial⟩ ?_
        · omega
        · first | rfl | exact hS_
        · omega
      · have cx9_ : ¬ (vx8_ = 0) := of_decide_eq_false cx9_
        refine sm_T_go 1 (c1 := (21, [some (.inr (.inr (some (4, ii_)))), some (.inl a1_), some (.inl rs_), some (.inl k_)], [.inl rs_], S_)) rfl ?_
        refine sm_T_b0 (a := 1) (z := 5) rfl (fun cx10_ => ?_) (fun cx10_ => ?_)
        · have cx10_ : rs_ ≠ 0 := of_decide_eq_true cx10_
          refine sm_T_incw (a_ := 2) (z_ := (-1)) (v_ := rs_) rfl rfl ?_ -- pc_ 26
          have bx11_ := i_add_r rs_ (-1)
          refine sm_T_inc (a := 3) (z := 1) (v := k_) (w := k_ + 1) rfl rfl (by omega) (by omega) (by omega) ?_ -- pc_ 29
          refine sm_T_go 1 (c1 := (4, [some (.inr (.inr (some (4, ii_)))), some (.inl a1_), some (.inl (i_add rs_ (-1))), some (.inl (k_ + 1))], [], S_)) rfl ?_
          refine ih_ (i_add rs_ (-1)) (k_ + 1) S_ hI_ hF_ ⟨?_, ?_, trivial⟩ ?_
          · omega
          · first | rfl | exact hS_
          · omega
        · have cx10_ : ¬ (rs_ ≠ 0) := of_decide_eq_false cx10_
          refine sm_T_go 1 (c1 := (25, [some (.inr (.inr (some (4, ii_)))), some (.inl a1_), some (.inl rs_), some (.inl k_)], [.inl k_], S_)) rfl ?_
          refine sm_T_ri rfl ⟨_, _, rfl, (by first | rfl | exact hS_.symm), _, rfl, ?_⟩
          omega
set_option maxHeartbeats 400000 in
theorem vc_81 {sc_ : Nat × (Nat → Int)} (a1_ : Int) (ii_ : Nat) (S0_ : sm_S) (hI_ : gi S0_) (h1_ : 0 ≤ a1_ ∧ a1_ ≤ 2147483647) : sm_T (mt_P sc_) 1 81 (0, [some (.inr (.inr (some (4, ii_)))), some (.inl a1_), none, none], [], S0_) (fun ro9_ => ∃ u_ S1_, ro9_ = (.inl u_, S1_, 0) ∧ vq_81 a1_ ii_ S0_ u_ S1_) := by
  have hF_ : ai_fr (sx_W vw_81) S0_ S0_ := ai_fr_rf
  refine sm_T_go 4 (c1 := (4, [some (.inr (.inr (some (4, ii_)))), some (.inl a1_), some (.inl a1_), some (.inl 0)], [], S0_)) rfl ?_
  refine (vl_81 a1_ ii_ S0_ h1_ _) a1_ 0 S0_ hI_ hF_ ⟨?_, ?_, trivial⟩ (Nat.lt_succ_self _)
  · omega
  · first | rfl | exact hS_
