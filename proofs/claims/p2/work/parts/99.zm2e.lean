/-! Times.pathPart -/
def vw_198 : sx_Wl := ([], [], [])
def vq_198 (a1_ : Int) (a2_ : Int) (S0_ : sm_S) (u_ : Option sm_V) (S1_ : sm_S) : Prop := S0_ = S1_ ∧ ∃ v_ : Int, u_ = some (.inl v_) ∧ (True)
set_option maxHeartbeats 400000 in
theorem vc_198 {sc_ : Nat × (Nat → Int)} (a1_ : Int) (a2_ : Int) (S0_ : sm_S) (hI_ : gi S0_) (h1_ : 0 ≤ a1_ ∧ a1_ ≤ 39) (hp_ : tpo S0_) : sm_T (mt_P sc_) 0 198 (0, [some (.inr (.inr (some (11, 0)))), some (.inl a1_), some (.inl a2_), none, none], [], S0_) (fun ro9_ => ∃ u_ S1_, ro9_ = (.inl u_, S1_, 0) ∧ vq_198 a1_ a2_ S0_ u_ S1_) := by
  have hF_ : ai_fr (sx_W vw_198) S0_ S0_ := ai_fr_rf
  have bx1_ : 0 ≤ S0_.1 11 0 5 ∧ S0_.1 11 0 5 ≤ 41 := hI_.1 11 0 5 rfl
  refine sm_T_go 3 (c1 := (5, [some (.inr (.inr (some (11, 0)))), some (.inl a1_), some (.inl a2_), none, none], [.inl (S0_.1 11 0 5), .inl a1_], S0_)) rfl ?_
  refine sm_T_br (a := 2) (z := 5) rfl (fun cx2_ => ?_) (fun cx2_ => ?_)
  · have cx2_ : a1_ < (S0_.1 11 0 5) := of_decide_eq_true cx2_
    have t9_ := hp_.2 a1_.toNat (by omega) (by omega)
    have t8_ := t9_.1
    have t7_ := t9_.2.1
    refine sm_T_go 3 (c1 := (15, [some (.inr (.inr (some (11, 0)))), some (.inl a1_), some (.inl a2_), none, none], [.inl a1_, .inr (.inr (some (102, 0)))], S0_)) rfl ?_
    refine sm_T_iald (n := 41) rfl rfl (by omega) (by omega) ?_
    have bx3_ : 0 ≤ S0_.2.2.1 102 0 a1_.toNat ∧ S0_.2.2.1 102 0 a1_.toNat ≤ 40 := hI_.2 102 0 _
    refine sm_T_go 4 (c1 := (22, [some (.inr (.inr (some (11, 0)))), some (.inl a1_), some (.inl a2_), some (.inl (S0_.2.2.1 102 0 a1_.toNat)), none], [.inl (S0_.2.2.1 102 0 a1_.toNat), .inr (.inr (some (104, 0)))], S0_)) rfl ?_
    refine sm_T_iald (n := 41) rfl rfl (by omega) (by omega) ?_
    have bx4_ : 0 ≤ S0_.2.2.1 104 0 (S0_.2.2.1 102 0 a1_.toNat).toNat ∧ S0_.2.2.1 104 0 (S0_.2.2.1 102 0 a1_.toNat).toNat ≤ 152 := hI_.2 104 0 _
    refine sm_T_go 1 (c1 := (24, [some (.inr (.inr (some (11, 0)))), some (.inl a1_), some (.inl a2_), some (.inl (S0_.2.2.1 102 0 a1_.toNat)), none], [.inl 1, .inl (S0_.2.2.1 104 0 (S0_.2.2.1 102 0 a1_.toNat).toNat)], S0_)) rfl ?_
    refine sm_T_bin (w := (S0_.2.2.1 104 0 (S0_.2.2.1 102 0 a1_.toNat).toNat) - 1) rfl (bi_sub (by omega) (by omega) (by omega)) ?_ -- pc_ 24
    refine sm_T_go 2 (c1 := (28, [some (.inr (.inr (some (11, 0)))), some (.inl a1_), some (.inl a2_), some (.inl (S0_.2.2.1 102 0 a1_.toNat)), some (.inl ((S0_.2.2.1 104 0 (S0_.2.2.1 102 0 a1_.toNat).toNat) - 1))], [.inl a2_], S0_)) rfl ?_
    by_cases cx5_ : a2_ = (-3)
    · refine sm_T_sw (t := 81) rfl rfl (by rw [cx5_]; rfl) ?_
      refine sm_T_go 1 (c1 := (83, [some (.inr (.inr (some (11, 0)))), some (.inl a1_), some (.inl a2_), some (.inl (S0_.2.2.1 102 0 a1_.toNat)), some (.inl ((S0_.2.2.1 104 0 (S0_.2.2.1 102 0 a1_.toNat).toNat) - 1))], [.inl ((S0_.2.2.1 104 0 (S0_.2.2.1 102 0 a1_.toNat).toNat) - 1)], S0_)) rfl ?_
      refine sm_T_ri rfl ⟨_, _, rfl, rfl, _, rfl, ?_⟩
      trivial
    by_cases cx6_ : a2_ = (-2)
    · refine sm_T_sw (t := 63) rfl rfl (by rw [cx6_]; rfl) ?_
      refine sm_T_go 4 (c1 := (71, [some (.inr (.inr (some (11, 0)))), some (.inl a1_), some (.inl a2_), some (.inl (S0_.2.2.1 102 0 a1_.toNat)), some (.inl ((S0_.2.2.1 104 0 (S0_.2.2.1 102 0 a1_.toNat).toNat) - 1))], [.inl 152, .inl (S0_.2.2.1 102 0 a1_.toNat), .inr (.inr (some (105, 0)))], S0_)) rfl ?_
      refine sm_T_bin (w := 152 * (S0_.2.2.1 102 0 a1_.toNat)) rfl (bi_mul (by omega) (by omega) (by omega)) ?_ -- pc_ 71
      refine sm_T_go 1 (c1 := (74, [some (.inr (.inr (some (11, 0)))), some (.inl a1_), some (.inl a2_), some (.inl (S0_.2.2.1 102 0 a1_.toNat)), some (.inl ((S0_.2.2.1 104 0 (S0_.2.2.1 102 0 a1_.toNat).toNat) - 1))], [.inl ((S0_.2.2.1 104 0 (S0_.2.2.1 102 0 a1_.toNat).toNat) - 1), .inl (152 * (S0_.2.2.1 102 0 a1_.toNat)), .inr (.inr (some (105, 0)))], S0_)) rfl ?_
      refine sm_T_bin (w := 152 * (S0_.2.2.1 102 0 a1_.toNat) + (S0_.2.2.1 104 0 (S0_.2.2.1 102 0 a1_.toNat).toNat) - 1) rfl (bi_add (by omega) (by omega) (by omega)) ?_ -- pc_ 74
      refine sm_T_iald (n := 6232) rfl rfl (by omega) (by omega) ?_
      have bx7_ : 0 ≤ S0_.2.2.1 105 0 (152 * (S0_.2.2.1 102 0 a1_.toNat) + (S0_.2.2.1 104 0 (S0_.2.2.1 102 0 a1_.toNat).toNat) - 1).toNat ∧ S0_.2.2.1 105 0 (152 * (S0_.2.2.1 102 0 a1_.toNat) + (S0_.2.2.1 104 0 (S0_.2.2.1 102 0 a1_.toNat).toNat) - 1).toNat ≤ 10161 := hI_.2 105 0 _
      refine sm_T_go 1 (c1 := (79, [some (.inr (.inr (some (11, 0)))), some (.inl a1_), some (.inl a2_), some (.inl (S0_.2.2.1 102 0 a1_.toNat)), some (.inl ((S0_.2.2.1 104 0 (S0_.2.2.1 102 0 a1_.toNat).toNat) - 1))], [.inl 10000, .inl (S0_.2.2.1 105 0 (152 * (S0_.2.2.1 102 0 a1_.toNat) + (S0_.2.2.1 104 0 (S0_.2.2.1 102 0 a1_.toNat).toNat) - 1).toNat)], S0_)) rfl ?_
      refine sm_T_bin (w := (S0_.2.2.1 105 0 (152 * (S0_.2.2.1 102 0 a1_.toNat) + (S0_.2.2.1 104 0 (S0_.2.2.1 102 0 a1_.toNat).toNat) - 1).toNat) - 10000) rfl (bi_sub (by omega) (by omega) (by omega)) ?_ -- pc_ 79
      refine sm_T_ri rfl ⟨_, _, rfl, rfl, _, rfl, ?_⟩
      trivial
    by_cases cx8_ : a2_ = (-1)
    · refine sm_T_sw (t := 56) rfl rfl (by rw [cx8_]; rfl) ?_
      refine sm_T_go 3 (c1 := (61, [some (.inr (.inr (some (11, 0)))), some (.inl a1_), some (.inl a2_), some (.inl (S0_.2.2.1 102 0 a1_.toNat)), some (.inl ((S0_.2.2.1 104 0 (S0_.2.2.1 102 0 a1_.toNat).toNat) - 1))], [.inl (S0_.2.2.1 102 0 a1_.toNat), .inr (.inr (some (103, 0)))], S0_)) rfl ?_
      refine sm_T_iald (n := 41) rfl rfl (by omega) (by omega) ?_
      have bx9_ : (-2147483648) ≤ S0_.2.2.1 103 0 (S0_.2.2.1 102 0 a1_.toNat).toNat ∧ S0_.2.2.1 103 0 (S0_.2.2.1 102 0 a1_.toNat).toNat ≤ 2147483647 := hI_.2 103 0 _
      refine sm_T_ri rfl ⟨_, _, rfl, rfl, _, rfl, ?_⟩
      trivial
    refine sm_T_sw (t := 84) rfl rfl (by (have hh_ : a2_ < (-3) ∨ 0 ≤ a2_ := by omega); rcases hh_ with hh_ | hh_; (exact sm_swd (Or.inl hh_)); (exact sm_swd (Or.inr (by simp only [List.length_cons, List.length_nil]; omega)))) ?_
    refine sm_T_go 1 (c1 := (85, [some (.inr (.inr (some (11, 0)))), some (.inl a1_), some (.inl a2_), some (.inl (S0_.2.2.1 102 0 a1_.toNat)), some (.inl ((S0_.2.2.1 104 0 (S0_.2.2.1 102 0 a1_.toNat).toNat) - 1))], [.inl a2_], S0_)) rfl ?_
    refine sm_T_b0 (a := 2) (z := 24) rfl (fun cx10_ => ?_) (fun cx10_ => ?_)
    · have cx10_ : a2_ < 0 := of_decide_eq_true cx10_
      refine sm_T_go 1 (c1 := (110, [some (.inr (.inr (some (11, 0)))), some (.inl a1_), some (.inl a2_), some (.inl (S0_.2.2.1 102 0 a1_.toNat)), some (.inl ((S0_.2.2.1 104 0 (S0_.2.2.1 102 0 a1_.toNat).toNat) - 1))], [.inl (-1)], S0_)) rfl ?_
      refine sm_T_ri rfl ⟨_, _, rfl, rfl, _, rfl, ?_⟩
      trivial
    · have cx10_ : ¬ (a2_ < 0) := of_decide_eq_false cx10_
      refine sm_T_go 2 (c1 := (91, [some (.inr (.inr (some (11, 0)))), some (.inl a1_), some (.inl a2_), some (.inl (S0_.2.2.1 102 0 a1_.toNat)), some (.inl ((S0_.2.2.1 104 0 (S0_.2.2.1 102 0 a1_.toNat).toNat) - 1))], [.inl ((S0_.2.2.1 104 0 (S0_.2.2.1 102 0 a1_.toNat).toNat) - 1), .inl a2_], S0_)) rfl ?_
      refine sm_T_br (a := 3) (z := 18) rfl (fun cx11_ => ?_) (fun cx11_ => ?_)
      · have cx11_ : (S0_.2.2.1 104 0 (S0_.2.2.1 102 0 a1_.toNat).toNat) - 1 ≤ a2_ := of_decide_eq_true cx11_
        refine sm_T_go 1 (c1 := (110, [some (.inr (.inr (some (11, 0)))), some (.inl a1_), some (.inl a2_), some (.inl (S0_.2.2.1 102 0 a1_.toNat)), some (.inl ((S0_.2.2.1 104 0 (S0_.2.2.1 102 0 a1_.toNat).toNat) - 1))], [.inl (-1)], S0_)) rfl ?_
        refine sm_T_ri rfl ⟨_, _, rfl, rfl, _, rfl, ?_⟩
        trivial
      · have cx11_ : ¬ ((S0_.2.2.1 104 0 (S0_.2.2.1 102 0 a1_.toNat).toNat) - 1 ≤ a2_) := of_decide_eq_false cx11_
        refine sm_T_go 4 (c1 := (102, [some (.inr (.inr (some (11, 0)))), some (.inl a1_), some (.inl a2_), some (.inl (S0_.2.2.1 102 0 a1_.toNat)), some (.inl ((S0_.2.2.1 104 0 (S0_.2.2.1 102 0 a1_.toNat).toNat) - 1))], [.inl 152, .inl (S0_.2.2.1 102 0 a1_.toNat), .inr (.inr (some (105, 0)))], S0_)) rfl ?_
        refine sm_T_bin (w := 152 * (S0_.2.2.1 102 0 a1_.toNat)) rfl (bi_mul (by omega) (by omega) (by omega)) ?_ -- pc_ 102
        refine sm_T_go 1 (c1 := (104, [some (.inr (.inr (some (11, 0)))), some (.inl a1_), some (.inl a2_), some (.inl (S0_.2.2.1 102 0 a1_.toNat)), some (.inl ((S0_.2.2.1 104 0 (S0_.2.2.1 102 0 a1_.toNat).toNat) - 1))], [.inl a2_, .inl (152 * (S0_.2.2.1 102 0 a1_.toNat)), .inr (.inr (some (105, 0)))], S0_)) rfl ?_
        refine sm_T_bin (w := 152 * (S0_.2.2.1 102 0 a1_.toNat) + a2_) rfl (bi_add (by omega) (by omega) (by omega)) ?_ -- pc_ 104
        refine sm_T_iald (n := 6232) rfl rfl (by omega) (by omega) ?_
        have bx12_ : 0 ≤ S0_.2.2.1 105 0 (152 * (S0_.2.2.1 102 0 a1_.toNat) + a2_).toNat ∧ S0_.2.2.1 105 0 (152 * (S0_.2.2.1 102 0 a1_.toNat) + a2_).toNat ≤ 10161 := hI_.2 105 0 _
        refine sm_T_go 1 (c1 := (110, [some (.inr (.inr (some (11, 0)))), some (.inl a1_), some (.inl a2_), some (.inl (S0_.2.2.1 102 0 a1_.toNat)), some (.inl ((S0_.2.2.1 104 0 (S0_.2.2.1 102 0 a1_.toNat).toNat) - 1))], [.inl (S0_.2.2.1 105 0 (152 * (S0_.2.2.1 102 0 a1_.toNat) + a2_).toNat)], S0_)) rfl ?_
        refine sm_T_ri rfl ⟨_, _, rfl, rfl, _, rfl, ?_⟩
        trivial
  · have cx2_ : ¬ (a1_ < (S0_.1 11 0 5)) := of_decide_eq_false cx2_
    refine sm_T_go 1 (c1 := (9, [some (.inr (.inr (some (11, 0)))), some (.inl a1_), some (.inl a2_), none, none], [.inl (-1)], S0_)) rfl ?_
    refine sm_T_ri rfl ⟨_, _, rfl, rfl, _, rfl, ?_⟩
    trivial
