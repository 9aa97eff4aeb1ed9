/-! Layout.sideOf -/
def vw_80 : sx_Wl := ([], [], [])
def vq_80 (a1_ : Int) (a2_ : Int) (ii_ : Nat) (S0_ : sm_S) (u_ : Option sm_V) (S1_ : sm_S) : Prop := S0_ = S1_ ∧ ∃ v_ : Int, u_ = some (.inl v_) ∧ (-1 ≤ v_ ∧ v_ ≤ 2000)
set_option maxHeartbeats 400000 in
theorem vl_80 {sc_ : Nat × (Nat → Int)} (a1_ : Int) (a2_ : Int) (ii_ : Nat) (S0_ : sm_S) (h1_ : 0 ≤ a1_ ∧ a1_ ≤ 2147483647) : ∀ nn_ : Nat, (∀ (rs_ : Int) (a_ : Int) (S_ : sm_S), gi S_ → ai_fr (sx_W vw_80) S0_ S_ → ((0 ≤ a_ ∧ a_ ≤ 1999 ∧ -2147483648 ≤ rs_ ∧ rs_ ≤ 2147483647) ∧ (S_ = S0_) ∧ True) → ((9000 - a_).toNat) < nn_ → sm_T (mt_P sc_) 2 80 (32, [some (.inr (.inr (some (4, ii_)))), some (.inl a1_), some (.inl a2_), some (.inl rs_), some (.inl a_), none], [], S_) (fun ro9_ => ∃ u_ S1_, ro9_ = (.inl u_, S1_, 0) ∧ vq_80 a1_ a2_ ii_ S0_ u_ S1_)) ∧ (∀ (rs_ : Int) (a_ : Int) (b_ : Int) (S_ : sm_S), gi S_ → ai_fr (sx_W vw_80) S0_ S_ → ((0 ≤ a_ ∧ a_ ≤ 1999 ∧ a_ < b_ ∧ b_ ≤ 2000 ∧ -2147483648 ≤ rs_ ∧ rs_ ≤ 2147483647) ∧ (S_ = S0_) ∧ True) → ((4000 - b_).toNat) < nn_ → sm_T (mt_P sc_) 2 80 (83, [some (.inr (.inr (some (4, ii_)))), some (.inl a1_), some (.inl a2_), some (.inl rs_), some (.inl a_), some (.inl b_)], [], S_) (fun ro9_ => ∃ u_ S1_, ro9_ = (.inl u_, S1_, 0) ∧ vq_80 a1_ a2_ ii_ S0_ u_ S1_)) := by
  intro nn_
  induction nn_ with
  | zero => exact ⟨fun _ _ _ _ _ _ h_ => absurd h_ (Nat.not_lt_zero _), fun _ _ _ _ _ _ _ h_ => absurd h_ (Nat.not_lt_zero _)⟩
  | succ nn_ ih_ =>
    refine ⟨?_, ?_⟩
    · rintro rs_ a_ S_ hI_ hF_ ⟨h0_, hS_, -⟩ hm_
      have cn_ : 0 ≤ S_.1 4 ii_ 1 ∧ S_.1 4 ii_ 1 ≤ 2000 := hI_.1 4 ii_ 1 rfl
      have bx1_ : 0 ≤ S_.1 4 ii_ 1 ∧ S_.1 4 ii_ 1 ≤ 2000 := hI_.1 4 ii_ 1 rfl
      refine sm_T_go 4 (c1 := (39, [some (.inr (.inr (some (4, ii_)))), some (.inl a1_), some (.inl a2_), some (.inl rs_), some (.inl a_), none], [.inl 1, .inl (S_.1 4 ii_ 1), .inl a_], S_)) rfl ?_
      refine sm_T_bin (w := (S_.1 4 ii_ 1) - 1) rfl (bi_sub (by omega) (by omega) (by omega)) ?_ -- pc_ 39
      refine sm_T_br (a := 3) (z := 30) rfl (fun cx2_ => ?_) (fun cx2_ => ?_)
      · have cx2_ : (S_.1 4 ii_ 1) - 1 ≤ a_ := of_decide_eq_true cx2_
        refine sm_T_go 1 (c1 := (71, [some (.inr (.inr (some (4, ii_)))), some (.inl a1_), some (.inl a2_), some (.inl rs_), some (.inl a_), none], [.inl a2_], S_)) rfl ?_
        refine sm_T_b0 (a := 1) (z := 6) rfl (fun cx3_ => ?_) (fun cx3_ => ?_)
        · have cx3_ : a2_ ≠ 0 := of_decide_eq_true cx3_
          refine sm_T_go 2 (c1 := (80, [some (.inr (.inr (some (4, ii_)))), some (.inl a1_), some (.inl a2_), some (.inl rs_), some (.inl a_), none], [.inl 1, .inl a_], S_)) rfl ?_
          refine sm_T_bin (w := a_ + 1) rfl (bi_add (by omega) (by omega) (by omega)) ?_ -- pc_ 80
          refine sm_T_go 1 (c1 := (83, [some (.inr (.inr (some (4, ii_)))), some (.inl a1_), some (.inl a2_), some (.inl rs_), some (.inl a_), some (.inl (a_ + 1))], [], S_)) rfl ?_
          refine ih_.2 rs_ a_ (a_ + 1) S_ hI_ hF_ ⟨?_, ?_, trivial⟩ ?_
          · omega
          · first | rfl | exact hS_
          · omega
        · have cx3_ : ¬ (a2_ ≠ 0) := of_decide_eq_false cx3_
          refine sm_T_go 1 (c1 := (76, [some (.inr (.inr (some (4, ii_)))), some (.inl a1_), some (.inl a2_), some (.inl rs_), some (.inl a_), none], [.inl a_], S_)) rfl ?_
          refine sm_T_ri rfl ⟨_, _, rfl, (by first | rfl | exact hS_.symm), _, rfl, ?_⟩
          omega
      · have cx2_ : ¬ ((S_.1 4 ii_ 1) - 1 ≤ a_) := of_decide_eq_false cx2_
        refine sm_T_go 4 (c1 := (50, [some (.inr (.inr (some (4, ii_)))), some (.inl a1_), some (.inl a2_), some (.inl rs_), some (.inl a_), none], [.inl a_, .inr (.inr (some (50, (0 + ii_)))), .inl rs_], S_)) rfl ?_
        refine sm_T_iald (n := 2000) rfl rfl (by omega) (by omega) ?_
        have bx4_ : (-2147483648) ≤ S_.2.2.1 50 (0 + ii_) a_.toNat ∧ S_.2.2.1 50 (0 + ii_) a_.toNat ≤ 2147483647 := hI_.2 50 (0 + ii_) _
        refine sm_T_br (a := 2) (z := 19) rfl (fun cx5_ => ?_) (fun cx5_ => ?_)
        · have cx5_ : rs_ < (S_.2.2.1 50 (0 + ii_) a_.toNat) := of_decide_eq_true cx5_
          refine sm_T_go 1 (c1 := (71, [some (.inr (.inr (some (4, ii_)))), some (.inl a1_), some (.inl a2_), some (.inl rs_), some (.inl a_), none], [.inl a2_], S_)) rfl ?_
          refine sm_T_b0 (a := 1) (z := 6) rfl (fun cx6_ => ?_) (fun cx6_ => ?_)
          · have cx6_ : a2_ ≠ 0 := of_decide_eq_true cx6_
            refine sm_T_go 2 (c1 := (80, [some (.inr (.inr (some (4, ii_)))), some (.inl a1_), some (.inl a2_), some (.inl rs_), some (.inl a_), none], [.inl 1, .inl a_], S_)) rfl ?_
            refine sm_T_bin (w := a_ + 1) rfl (bi_add (by omega) (by omega) (by omega)) ?_ -- pc_ 80
            refine sm_T_go 1 (c1 := (83, [some (.inr (.inr (some (4, ii_)))), some (.inl a1_), some (.inl a2_), some (.inl rs_), some (.inl a_), some (.inl (a_ + 1))], [], S_)) rfl ?_
            refine ih_.2 rs_ a_ (a_ + 1) S_ hI_ hF_ ⟨?_, ?_, trivial⟩ ?_
            · omega
            · first | rfl | exact hS_
            · omega
          · have cx6_ : ¬ (a2_ ≠ 0) := of_decide_eq_false cx6_
            refine sm_T_go 1 (c1 := (76, [some (.inr (.inr (some (4, ii_)))), some (.inl a1_), some (.inl a2_), some (.inl rs_), some (.inl a_), none], [.inl a_], S_)) rfl ?_
            refine sm_T_ri rfl ⟨_, _, rfl, (by first | rfl | exact hS_.symm), _, rfl, ?_⟩
            omega
        · have cx5_ : ¬ (rs_ < (S_.2.2.1 50 (0 + ii_) a_.toNat)) := of_decide_eq_false cx5_
          refine sm_T_go 4 (c1 := (61, [some (.inr (.inr (some (4, ii_)))), some (.inl a1_), some (.inl a2_), some (.inl rs_), some (.inl a_), none], [.inl a_, .inr (.inr (some (50, (0 + ii_)))), .inl rs_], S_)) rfl ?_
          refine sm_T_iald (n := 2000) rfl rfl (by omega) (by omega) ?_
          refine sm_T_bin (w := (i_sub rs_ (S_.2.2.1 50 (0 + ii_) a_.toNat))) rfl rfl ?_ -- pc_ 62
          have bx7_ := i_sub_r rs_ (S_.2.2.1 50 (0 + ii_) a_.toNat)
          refine sm_T_go 1 (c1 := (64, [some (.inr (.inr (some (4, ii_)))), some (.inl a1_), some (.inl a2_), some (.inl (i_sub rs_ (S_.2.2.1 50 (0 + ii_) a_.toNat))), some (.inl a_), none], [], S_)) rfl ?_
          refine sm_T_inc (a := 4) (z := 1) (v := a_) (w := a_ + 1) rfl rfl (by omega) (by omega) (by omega) ?_ -- pc_ 64
          refine sm_T_go 1 (c1 := (32, [some (.inr (.inr (some (4, ii_)))), some (.inl a1_), some (.inl a2_), some (.inl (i_sub rs_ (S_.2.2.1 50 (0 + ii_) a_.toNat))), some (.inl (a_ + 1)), none], [], S_)) rfl ?_
          refine ih_.1 (i_sub rs_ (S_.2.2.1 50 (0 + ii_) a_.toNat)) (a_ + 1) S_ hI_ hF_ ⟨?_, ?_, trivial⟩ ?_
          · omega
          · first | rfl | exact hS_
          · omega
    · rintro rs_ a_ b_ S_ hI_ hF_ ⟨h0_, hS_, -⟩ hm_
      have cn_ : 0 ≤ S_.1 4 ii_ 1 ∧ S_.1 4 ii_ 1 ≤ 2000 := hI_.1 4 ii_ 1 rfl
      have bx1_ : 0 ≤ S_.1 4 ii_ 1 ∧ S_.1 4 ii_ 1 ≤ 2000 := hI_.1 4 ii_ 1 rfl
      refine sm_T_go 3 (c1 := (89, [some (.inr (.inr (some (4, ii_)))), some (.inl a1_), some (.inl a2_), some (.inl rs_), some (.inl a_), some (.inl b_)], [.inl (S_.1 4 ii_ 1), .inl b_], S_)) rfl ?_
      refine sm_T_br (a := 3) (z := 30) rfl (fun cx2_ => ?_) (fun cx2_ => ?_)
      · have cx2_ : (S_.1 4 ii_ 1) ≤ b_ := of_decide_eq_true cx2_
        refine sm_T_go 1 (c1 := (120, [some (.inr (.inr (some (4, ii_)))), some (.inl a1_), some (.inl a2_), some (.inl rs_), some (.inl a_), some (.inl b_)], [.inl (-1)], S_)) rfl ?_
        refine sm_T_ri rfl ⟨_, _, rfl, (by first | rfl | exact hS_.symm), _, rfl, ?_⟩
        omega
      · have cx2_ : ¬ ((S_.1 4 ii_ 1) ≤ b_) := of_decide_eq_false cx2_
        refine sm_T_go 3 (c1 := (97, [some (.inr (.inr (some (4, ii_)))), some (.inl a1_), some (.inl a2_), some (.inl rs_), some (.inl a_), some (.inl b_)], [.inl b_, .inl a_, .inr (.inr (some (4, ii_)))], S_)) rfl ?_
        refine sm_T_cal (d1 := 0) (Q1 := vq_77 a_ b_ ii_ S_) rfl rfl (by decide) (vc_77 a_ b_ ii_ S_ hI_ (by omega) (by omega)) (fun u_ Sx3_ px6_ => ?_)
        obtain ⟨rfl, vx8_, rfl, px6_⟩ := px6_
        refine sm_T_b0 (a := 0) (z := 13) rfl (fun cx9_ => ?_) (fun cx9_ => ?_)
        · have cx9_ : vx8_ = 0 := of_decide_eq_true cx9_
          refine sm_T_inc (a := 5) (z := 1) (v := b_) (w := b_ + 1) rfl rfl (by omega) (by omega) (by omega) ?_ -- pc_ 113
          refine sm_T_go 1 (c1 := (83, [some (.inr (.inr (some (4, ii_)))), some (.inl a1_), some (.inl a2_), some (.inl rs_), some (.inl a_), some (.inl (b_ + 1))], [], S_)) rfl ?_
          refine ih_.2 rs_ a_ (b_ + 1) S_ hI_ hF_ ⟨?_, ?_, trivial⟩ ?_
          · omega
          · first | rfl | exact hS_
          · omega
        · have cx9_ : ¬ (vx8_ = 0) := of_decide_eq_false cx9_
          refine sm_T_go 1 (c1 := (104, [some (.inr (.inr (some (4, ii_)))), some (.inl a1_), some (.inl a2_), some (.inl rs_), some (.inl a_), some (.inl b_)], [.inl rs_], S_)) rfl ?_
          refine sm_T_b0 (a := 1) (z := 6) rfl (fun cx10_ => ?_) (fun cx10_ => ?_)
          · have cx10_ : rs_ ≠ 0 := of_decide_eq_true cx10_
            refine sm_T_incw (a_ := 3) (z_ := (-1)) (v_ := rs_) rfl rfl ?_ -- pc_ 110
            have bx11_ := i_add_r rs_ (-1)
            refine sm_T_inc (a := 5) (z := 1) (v := b_) (w := b_ + 1) rfl rfl (by omega) (by omega) (by omega) ?_ -- pc_ 113
            refine sm_T_go 1 (c1 := (83, [some (.inr (.inr (some (4, ii_)))), some (.inl a1_), some (.inl a2_), some (.inl (i_add rs_ (-1))), some (.inl a_), some (.inl (b_ + 1))], [], S_)) rfl ?_
            refine ih_.2 (i_add rs_ (-1)) a_ (b_ + 1) S_ hI_ hF_ ⟨?_, ?_, trivial⟩ ?_
            · omega
            · first | rfl | exact hS_
            · omega
          · have cx10_ : ¬ (rs_ ≠ 0) := of_decide_eq_false cx10_
            refine sm_T_go 1 (c1 := (109, [some (.inr (.inr (some (4, ii_)))), some (.inl a1_), some (.inl a2_), some (.inl rs_), some (.inl a_), some (.inl b_)], [.inl b_], S_)) rfl ?_
            refine sm_T_ri rfl ⟨_, _, rfl, (by first | rfl | exact hS_.symm), _, rfl, ?_⟩
            omega
set_option maxHeartbeats 400000 in
theorem vc_80 {sc_ : Nat × (Nat → Int)} (a1_ : Int) (a2_ : Int) (ii_ : Nat) (S0_ : sm_S) (hI_ : gi S0_) (h1_ : 0 ≤ a1_ ∧ a1_ ≤ 2147483647) : sm_T (mt_P sc_) 2 80 (0, [some (.inr (.inr (some (4, ii_)))), some (.inl a1_), some (.inl a2_), none, none, none], [], S0_) (fun ro9_ => ∃ u_ S1_, ro9_ = (.inl u_, S1_, 0) ∧ vq_80 a1_ a2_ ii_ S0_ u_ S1_) := by
  have hF_ : ai_fr (sx_W vw_80) S0_ S0_ := ai_fr_rf
  have bx1_ : 0 ≤ S0_.1 4 ii_ 8 ∧ S0_.1 4 ii_ 8 ≤ 2000 := hI_.1 4 ii_ 8 rfl
  refine sm_T_go 3 (c1 := (5, [some (.inr (.inr (some (4, ii_)))), some (.inl a1_), some (.inl a2_), none, none, none], [.inl (S0_.1 4 ii_ 8), .inl a1_], S0_)) rfl ?_
  refine sm_T_br (a := 3) (z := 17) rfl (fun cx2_ => ?_) (fun cx2_ => ?_)
  · have cx2_ : (S0_.1 4 ii_ 8) ≤ a1_ := of_decide_eq_true cx2_
    refine sm_T_go 3 (c1 := (27, [some (.inr (.inr (some (4, ii_)))), some (.inl a1_), some (.inl a2_), none, none, none], [.inl (S0_.1 4 ii_ 8), .inl a1_], S0_)) rfl ?_
    refine sm_T_bin (w := a1_ - (S0_.1 4 ii_ 8)) rfl (bi_sub (by omega) (by omega) (by omega)) ?_ -- pc_ 27
    refine sm_T_go 3 (c1 := (32, [some (.inr (.inr (some (4, ii_)))), some (.inl a1_), some (.inl a2_), some (.inl (a1_ - (S0_.1 4 ii_ 8))), some (.inl 0), none], [], S0_)) rfl ?_
    refine (vl_80 a1_ a2_ ii_ S0_ h1_ _).1 (a1_ - (S0_.1 4 ii_ 8)) 0 S0_ hI_ hF_ ⟨?_, ?_, trivial⟩ (Nat.lt_succ_self _)
    · omega
    · first | rfl | exact hS_
  · have cx2_ : ¬ ((S0_.1 4 ii_ 8) ≤ a1_) := of_decide_eq_false cx2_
    refine sm_T_go 1 (c1 := (9, [some (.inr (.inr (some (4, ii_)))), some (.inl a1_), some (.inl a2_), none, none, none], [.inl a2_], S0_)) rfl ?_
    refine sm_T_b0 (a := 1) (z := 11) rfl (fun cx3_ => ?_) (fun cx3_ => ?_)
    · have cx3_ : a2_ ≠ 0 := of_decide_eq_true cx3_
      refine sm_T_go 1 (c1 := (21, [some (.inr (.inr (some (4, ii_)))), some (.inl a1_), some (.inl a2_), none, none, none], [.inl (-1)], S0_)) rfl ?_
      refine sm_T_ri rfl ⟨_, _, rfl, (by first | rfl | exact hS_.symm), _, rfl, ?_⟩
      omega
    · have cx3_ : ¬ (a2_ ≠ 0) := of_decide_eq_false cx3_
      refine sm_T_go 2 (c1 := (14, [some (.inr (.inr (some (4, ii_)))), some (.inl a1_), some (.inl a2_), none, none, none], [.inl a1_, .inr (.inr (some (4, ii_)))], S0_)) rfl ?_
      refine sm_T_cal (d1 := 1) (Q1 := vq_81 a1_ ii_ S0_) rfl rfl (by decide) (vc_81 a1_ ii_ S0_ hI_ (by omega)) (fun u_ Sx4_ px7_ => ?_)
      obtain ⟨rfl, vx9_, rfl, px7_⟩ := px7_
      have t9_ := px7_
      refine sm_T_go 1 (c1 := (21, [some (.inr (.inr (some (4, ii_)))), some (.inl a1_), some (.inl a2_), none, none, none], [.inl vx9_], S0_)) rfl ?_
      refine sm_T_ri rfl ⟨_, _, rfl, (by first | rfl | exact hS_.symm), _, rfl, ?_⟩
      omega
