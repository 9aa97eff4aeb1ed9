/-! Router.neighbour -/
def vw_164 : sx_Wl := ([], [], [])
def vq_164 (a1_ : Int) (a2_ : Int) (S0_ : sm_S) (u_ : Option sm_V) (S1_ : sm_S) : Prop := S0_ = S1_ ∧ ∃ v_ : Int, u_ = some (.inl v_) ∧ (v_ = nb (S0_.1 8 0 1) (S0_.1 8 0 2) a1_ a2_)
set_option maxHeartbeats 2000000 in
theorem vc_164 {sc_ : Nat × (Nat → Int)} (a1_ : Int) (a2_ : Int) (S0_ : sm_S) (hI_ : gi S0_) (hg_ : rgw S0_) (h1_ : 0 ≤ a1_ ∧ a1_ < 2 * S0_.1 8 0 2) (h2_ : 0 ≤ a2_ ∧ a2_ ≤ 4) : sm_T (mt_P sc_) 0 164 (0, [some (.inr (.inr (some (8, 0)))), some (.inl a1_), some (.inl a2_), none, none, none], [], S0_) (fun ro9_ => ∃ u_ S1_, ro9_ = (.inl u_, S1_, 0) ∧ vq_164 a1_ a2_ S0_ u_ S1_) := by
  have hF_ : ai_fr (sx_W vw_164) S0_ S0_ := ai_fr_rf
  have cL_ : 0 ≤ S0_.1 8 0 2 ∧ S0_.1 8 0 2 ≤ 2356 := hI_.1 8 0 2 rfl
  have cw : 0 ≤ S0_.1 8 0 1 ∧ S0_.1 8 0 1 ≤ 62 := hI_.1 8 0 1 rfl
  have w9_ := hg_.1
  have bx1_ : 0 ≤ S0_.1 8 0 2 ∧ S0_.1 8 0 2 ≤ 2356 := hI_.1 8 0 2 rfl
  refine sm_T_go 3 (c1 := (5, [some (.inr (.inr (some (8, 0)))), some (.inl a1_), some (.inl a2_), none, none, none], [.inl (S0_.1 8 0 2), .inl a1_], S0_)) rfl ?_
  refine sm_T_br (a := 2) (z := 7) rfl (fun cx2_ => ?_) (fun cx2_ => ?_)
  · have cx2_ : a1_ < (S0_.1 8 0 2) := of_decide_eq_true cx2_
    have bx3_ : 0 ≤ S0_.1 8 0 1 ∧ S0_.1 8 0 1 ≤ 62 := hI_.1 8 0 1 rfl
    refine sm_T_go 8 (c1 := (34, [some (.inr (.inr (some (8, 0)))), some (.inl a1_), some (.inl a2_), some (.inl 0), some (.inl a1_), none], [.inl (S0_.1 8 0 1)], S0_)) rfl ?_
    refine sm_T_b0 (a := 5) (z := 13) rfl (fun cx4_ => ?_) (fun cx4_ => ?_)
    · have cx4_ : (S0_.1 8 0 1) ≤ 0 := of_decide_eq_true cx4_
      exfalso; omega
    · have cx4_ : ¬ ((S0_.1 8 0 1) ≤ 0) := of_decide_eq_false cx4_
      refine sm_T_go 3 (c1 := (43, [some (.inr (.inr (some (8, 0)))), some (.inl a1_), some (.inl a2_), some (.inl 0), some (.inl a1_), none], [.inl (S0_.1 8 0 1), .inl a1_], S0_)) rfl ?_
      refine sm_T_bin (w := (a1_ % (S0_.1 8 0 1))) rfl (bi_rem (by omega) (by omega) (by omega) (by omega)) ?_ -- pc_ 43
      refine sm_T_go 3 (c1 := (51, [some (.inr (.inr (some (8, 0)))), some (.inl a1_), some (.inl a2_), some (.inl 0), some (.inl a1_), some (.inl (a1_ % (S0_.1 8 0 1)))], [.inl a2_], S0_)) rfl ?_
      by_cases cx5_ : a2_ = 0
      · refine sm_T_sw (t := 80) rfl rfl (by rw [cx5_]; rfl) ?_
        refine sm_T_go 3 (c1 := (86, [some (.inr (.inr (some (8, 0)))), some (.inl a1_), some (.inl a2_), some (.inl 0), some (.inl a1_), some (.inl (a1_ % (S0_.1 8 0 1)))], [.inl (a1_ % (S0_.1 8 0 1))], S0_)) rfl ?_
        refine sm_T_b0 (a := 5) (z := 9) rfl (fun cx6_ => ?_) (fun cx6_ => ?_)
        · have cx6_ : (a1_ % (S0_.1 8 0 1)) ≤ 0 := of_decide_eq_true cx6_
          refine sm_T_go 1 (c1 := (96, [some (.inr (.inr (some (8, 0)))), some (.inl a1_), some (.inl a2_), some (.inl 0), some (.inl a1_), some (.inl (a1_ % (S0_.1 8 0 1)))], [.inl (-1)], S0_)) rfl ?_
          refine sm_T_ri rfl ⟨_, _, rfl, rfl, _, rfl, ?_⟩
          unfold nb
          by_cases u9_ : a1_ < S0_.1 8 0 2
          · first | (exfalso; omega) | (rw [if_pos u9_]; first | rw [if_pos (by omega), if_pos (by omega)] | rw [if_pos (by omega), if_neg (by omega)] | rw [if_neg (by omega), if_pos (by omega), if_pos (by omega)] | rw [if_neg (by omega), if_pos (by omega), if_neg (by omega)] | rw [if_neg (by omega), if_neg (by omega), if_pos (by omega)] | rw [if_neg (by omega), if_neg (by omega), if_neg (by omega)])
          · first | (exfalso; omega) | (rw [if_neg u9_]; first | rw [if_pos (by omega)] | rw [if_neg (by omega), if_pos (by omega), if_pos (by omega)] | rw [if_neg (by omega), if_pos (by omega), if_neg (by omega)] | rw [if_neg (by omega), if_neg (by omega), if_pos (by omega), if_pos (by omega)] | rw [if_neg (by omega), if_neg (by omega), if_pos (by omega), if_neg (by omega)] | rw [if_neg (by omega), if_neg (by omega), if_neg (by omega)])
        · have cx6_ : ¬ ((a1_ % (S0_.1 8 0 1)) ≤ 0) := of_decide_eq_false cx6_
          refine sm_T_go 2 (c1 := (91, [some (.inr (.inr (some (8, 0)))), some (.inl a1_), some (.inl a2_), some (.inl 0), some (.inl a1_), some (.inl (a1_ % (S0_.1 8 0 1)))], [.inl 1, .inl a1_], S0_)) rfl ?_
          refine sm_T_bin (w := a1_ - 1) rfl (bi_sub (by omega) (by omega) (by omega)) ?_ -- pc_ 91
          refine sm_T_go 1 (c1 := (96, [some (.inr (.inr (some (8, 0)))), some (.inl a1_), some (.inl a2_), some (.inl 0), some (.inl a1_), some (.inl (a1_ % (S0_.1 8 0 1)))], [.inl (a1_ - 1)], S0_)) rfl ?_
          refine sm_T_ri rfl ⟨_, _, rfl, rfl, _, rfl, ?_⟩
          unfold nb
          by_cases u9_ : a1_ < S0_.1 8 0 2
          · first | (exfalso; omega) | (rw [if_pos u9_]; first | rw [if_pos (by omega), if_pos (by omega)] | rw [if_pos (by omega), if_neg (by omega)] | rw [if_neg (by omega), if_pos (by omega), if_pos (by omega)] | rw [if_neg (by omega), if_pos (by omega), if_neg (by omega)] | rw [if_neg (by omega), if_neg (by omega), if_pos (by omega)] | rw [if_neg (by omega), if_neg (by omega), if_neg (by omega)])
          · first | (exfalso; omega) | (rw [if_neg u9_]; first | rw [if_pos (by omega)] | rw [if_neg (by omega), if_pos (by omega), if_pos (by omega)] | rw [if_neg (by omega), if_pos (by omega), if_neg (by omega)] | rw [if_neg (by omega), if_neg (by omega), if_pos (by omega), if_pos (by omega)] | rw [if_neg (by omega), if_neg (by omega), if_pos (by omega), if_neg (by omega)] | rw [if_neg (by omega), if_neg (by omega), if_neg (by omega)])
      by_cases cx7_ : a2_ = 1
      · refine sm_T_sw (t := 97) rfl rfl (by rw [cx7_]; rfl) ?_
        refine sm_T_go 6 (c1 := (108, [some (.inr (.inr (some (8, 0)))), some (.inl a1_), some (.inl a2_), some (.inl 0), some (.inl a1_), some (.inl (a1_ % (S0_.1 8 0 1)))], [.inl 1, .inl (S0_.1 8 0 1), .inl (a1_ % (S0_.1 8 0 1))], S0_)) rfl ?_
        refine sm_T_bin (w := (S0_.1 8 0 1) - 1) rfl (bi_sub (by omega) (by omega) (by omega)) ?_ -- pc_ 108
        refine sm_T_br (a := 3) (z := 9) rfl (fun cx8_ => ?_) (fun cx8_ => ?_)
        · have cx8_ : (S0_.1 8 0 1) - 1 ≤ (a1_ % (S0_.1 8 0 1)) := of_decide_eq_true cx8_
          refine sm_T_go 1 (c1 := (119, [some (.inr (.inr (some (8, 0)))), some (.inl a1_), some (.inl a2_), some (.inl 0), some (.inl a1_), some (.inl (a1_ % (S0_.1 8 0 1)))], [.inl (-1)], S0_)) rfl ?_
          refine sm_T_ri rfl ⟨_, _, rfl, rfl, _, rfl, ?_⟩
          unfold nb
          by_cases u9_ : a1_ < S0_.1 8 0 2
          · first | (exfalso; omega) | (rw [if_pos u9_]; first | rw [if_pos (by omega), if_pos (by omega)] | rw [if_pos (by omega), if_neg (by omega)] | rw [if_neg (by omega), if_pos (by omega), if_pos (by omega)] | rw [if_neg (by omega), if_pos (by omega), if_neg (by omega)] | rw [if_neg (by omega), if_neg (by omega), if_pos (by omega)] | rw [if_neg (by omega), if_neg (by omega), if_neg (by omega)])
          · first | (exfalso; omega) | (rw [if_neg u9_]; first | rw [if_pos (by omega)] | rw [if_neg (by omega), if_pos (by omega), if_pos (by omega)] | rw [if_neg (by omega), if_pos (by omega), if_neg (by omega)] | rw [if_neg (by omega), if_neg (by omega), if_pos (by omega), if_pos (by omega)] | rw [if_neg (by omega), if_neg (by omega), if_pos (by omega), if_neg (by omega)] | rw [if_neg (by omega), if_neg (by omega), if_neg (by omega)])
        · have cx8_ : ¬ ((S0_.1 8 0 1) - 1 ≤ (a1_ % (S0_.1 8 0 1))) := of_decide_eq_false cx8_
          refine sm_T_go 2 (c1 := (114, [some (.inr (.inr (some (8, 0)))), some (.inl a1_), some (.inl a2_), some (.inl 0), some (.inl a1_), some (.inl (a1_ % (S0_.1 8 0 1)))], [.inl 1, .inl a1_], S0_)) rfl ?_
          refine sm_T_bin (w := a1_ + 1) rfl (bi_add (by omega) (by omega) (by omega)) ?_ -- pc_ 114
          refine sm_T_go 1 (c1 := (119, [some (.inr (.inr (some (8, 0)))), some (.inl a1_), some (.inl a2_), some (.inl 0), some (.inl a1_), some (.inl (a1_ % (S0_.1 8 0 1)))], [.inl (a1_ + 1)], S0_)) rfl ?_
          refine sm_T_ri rfl ⟨_, _, rfl, rfl, _, rfl, ?_⟩
          unfold nb
          by_cases u9_ : a1_ < S0_.1 8 0 2
          · first | (exfalso; omega) | (rw [if_pos u9_]; first | rw [if_pos (by omega), if_pos (by omega)] | rw [if_pos (by omega), if_neg (by omega)] | rw [if_neg (by omega), if_pos (by omega), if_pos (by omega)] | rw [if_neg (by omega), if_pos (by omega), if_neg (by omega)] | rw [if_neg (by omega), if_neg (by omega), if_pos (by omega)] | rw [if_neg (by omega), if_neg (by omega), if_neg (by omega)])
          · first | (exfalso; omega) | (rw [if_neg u9_]; first | rw [if_pos (by omega)] | rw [if_neg (by omega), if_pos (by omega), if_pos (by omega)] | rw [if_neg (by omega), if_pos (by omega), if_neg (by omega)] | rw [if_neg (by omega), if_neg (by omega), if_pos (by omega), if_pos (by omega)] | rw [if_neg (by omega), if_neg (by omega), if_pos (by omega), if_neg (by omega)] | rw [if_neg (by omega), if_neg (by omega), if_neg (by omega)])
      by_cases cx9_ : a2_ = 2
      · refine sm_T_sw (t := 120) rfl rfl (by rw [cx9_]; rfl) ?_
        refine sm_T_go 3 (c1 := (143, [some (.inr (.inr (some (8, 0)))), some (.inl a1_), some (.inl a2_), some (.inl 0), some (.inl a1_), some (.inl (a1_ % (S0_.1 8 0 1)))], [.inl (-1)], S0_)) rfl ?_
        refine sm_T_ri rfl ⟨_, _, rfl, rfl, _, rfl, ?_⟩
        unfold nb
        by_cases u9_ : a1_ < S0_.1 8 0 2
        · first | (exfalso; omega) | (rw [if_pos u9_]; first | rw [if_pos (by omega), if_pos (by omega)] | rw [if_pos (by omega), if_neg (by omega)] | rw [if_neg (by omega), if_pos (by omega), if_pos (by omega)] | rw [if_neg (by omega), if_pos (by omega), if_neg (by omega)] | rw [if_neg (by omega), if_neg (by omega), if_pos (by omega)] | rw [if_neg (by omega), if_neg (by omega), if_neg (by omega)])
        · first | (exfalso; omega) | (rw [if_neg u9_]; first | rw [if_pos (by omega)] | rw [if_neg (by omega), if_pos (by omega), if_pos (by omega)] | rw [if_neg (by omega), if_pos (by omega), if_neg (by omega)] | rw [if_neg (by omega), if_neg (by omega), if_pos (by omega), if_pos (by omega)] | rw [if_neg (by omega), if_neg (by omega), if_pos (by omega), if_neg (by omega)] | rw [if_neg (by omega), if_neg (by omega), if_neg (by omega)])
      by_cases cx10_ : a2_ = 3
      · refine sm_T_sw (t := 144) rfl rfl (by rw [cx10_]; rfl) ?_
        refine sm_T_go 3 (c1 := (172, [some (.inr (.inr (some (8, 0)))), some (.inl a1_), some (.inl a2_), some (.inl 0), some (.inl a1_), some (.inl (a1_ % (S0_.1 8 0 1)))], [.inl (-1)], S0_)) rfl ?_
        refine sm_T_ri rfl ⟨_, _, rfl, rfl, _, rfl, ?_⟩
        unfold nb
        by_cases u9_ : a1_ < S0_.1 8 0 2
        · first | (exfalso; omega) | (rw [if_pos u9_]; first | rw [if_pos (by omega), if_pos (by omega)] | rw [if_pos (by omega), if_neg (by omega)] | rw [if_neg (by omega), if_pos (by omega), if_pos (by omega)] | rw [if_neg (by omega), if_pos (by omega), if_neg (by omega)] | rw [if_neg (by omega), if_neg (by omega), if_pos (by omega)] | rw [if_neg (by omega), if_neg (by omega), if_neg (by omega)])
        · first | (exfalso; omega) | (rw [if_neg u9_]; first | rw [if_pos (by omega)] | rw [if_neg (by omega), if_pos (by omega), if_pos (by omega)] | rw [if_neg (by omega), if_pos (by omega), if_neg (by omega)] | rw [if_neg (by omega), if_neg (by omega), if_pos (by omega), if_pos (by omega)] | rw [if_neg (by omega), if_neg (by omega), if_pos (by omega), if_neg (by omega)] | rw [if_neg (by omega), if_neg (by omega), if_neg (by omega)])
      refine sm_T_sw (t := 173) rfl rfl (by (have hh_ : a2_ < 0 ∨ 4 ≤ a2_ := by omega); rcases hh_ with hh_ | hh_; (exact sm_swd (Or.inl hh_)); (exact sm_swd (Or.inr (by simp only [List.length_cons, List.length_nil]; omega)))) ?_
      refine sm_T_go 5 (c1 := (187, [some (.inr (.inr (some (8, 0)))), some (.inl a1_), some (.inl a2_), some (.inl 0), some (.inl a1_), some (.inl (a1_ % (S0_.1 8 0 1)))], [.inl (S0_.1 8 0 2), .inl a1_], S0_)) rfl ?_
      refine sm_T_bin (w := a1_ + (S0_.1 8 0 2)) rfl (bi_add (by omega) (by omega) (by omega)) ?_ -- pc_ 187
      refine sm_T_ri rfl ⟨_, _, rfl, rfl, _, rfl, ?_⟩
      unfold nb
      by_cases u9_ : a1_ < S0_.1 8 0 2
      · first | (exfalso; omega) | (rw [if_pos u9_]; first | rw [if_pos (by omega), if_pos (by omega)] | rw [if_pos (by omega), if_neg (by omega)] | rw [if_neg (by omega), if_pos (by omega), if_pos (by omega)] | rw [if_neg (by omega), if_pos (by omega), if_neg (by omega)] | rw [if_neg (by omega), if_neg (by omega), if_pos (by omega)] | rw [if_neg (by omega), if_neg (by omega), if_neg (by omega)])
      · first | (exfalso; omega) | (rw [if_neg u9_]; first | rw [if_pos (by omega)] | rw [if_neg (by omega), if_pos (by omega), if_pos (by omega)] | rw [if_neg (by omega), if_pos (by omega), if_neg (by omega)] | rw [if_neg (by omega), if_neg (by omega), if_pos (by omega), if_pos (by omega)] | rw [if_neg (by omega), if_neg (by omega), if_pos (by omega), if_neg (by omega)] | rw [if_neg (by omega), if_neg (by omega), if_neg (by omega)])
  · have cx2_ : ¬ (a1_ < (S0_.1 8 0 2)) := of_decide_eq_false cx2_
    refine sm_T_go 8 (c1 := (23, [some (.inr (.inr (some (8, 0)))), some (.inl a1_), some (.inl a2_), some (.inl 1), none, none], [.inl (S0_.1 8 0 2), .inl a1_], S0_)) rfl ?_
    refine sm_T_bin (w := a1_ - (S0_.1 8 0 2)) rfl (bi_sub (by omega) (by omega) (by omega)) ?_ -- pc_ 23
    have bx11_ : 0 ≤ S0_.1 8 0 1 ∧ S0_.1 8 0 1 ≤ 62 := hI_.1 8 0 1 rfl
    refine sm_T_go 4 (c1 := (34, [some (.inr (.inr (some (8, 0)))), some (.inl a1_), some (.inl a2_), some (.inl 1), some (.inl (a1_ - (S0_.1 8 0 2))), none], [.inl (S0_.1 8 0 1)], S0_)) rfl ?_
    refine sm_T_b0 (a := 5) (z := 13) rfl (fun cx12_ => ?_) (fun cx12_ => ?_)
    · have cx12_ : (S0_.1 8 0 1) ≤ 0 := of_decide_eq_true cx12_
      exfalso; omega
    · have cx12_ : ¬ ((S0_.1 8 0 1) ≤ 0) := of_decide_eq_false cx12_
      refine sm_T_go 3 (c1 := (43, [some (.inr (.inr (some (8, 0)))), some (.inl a1_), some (.inl a2_), some (.inl 1), some (.inl (a1_ - (S0_.1 8 0 2))), none], [.inl (S0_.1 8 0 1), .inl (a1_ - (S0_.1 8 0 2))], S0_)) rfl ?_
      refine sm_T_bin (w := ((a1_ - (S0_.1 8 0 2)) % (S0_.1 8 0 1))) rfl (bi_rem (by omega) (by omega) (by omega) (by omega)) ?_ -- pc_ 43
      refine sm_T_go 3 (c1 := (51, [some (.inr (.inr (some (8, 0)))), some (.inl a1_), some (.inl a2_), some (.inl 1), some (.inl (a1_ - (S0_.1 8 0 2))), some (.inl ((a1_ - (S0_.1 8 0 2)) % (S0_.1 8 0 1)))], [.inl a2_], S0_)) rfl ?_
      by_cases cx13_ : a2_ = 0
      · refine sm_T_sw (t := 80) rfl rfl (by rw [cx13_]; rfl) ?_
        refine sm_T_go 3 (c1 := (96, [some (.inr (.inr (some (8, 0)))), some (.inl a1_), some (.inl a2_), some (.inl 1), some (.inl (a1_ - (S0_.1 8 0 2))), some (.inl ((a1_ - (S0_.1 8 0 2)) % (S0_.1 8 0 1)))], [.inl (-1)], S0_)) rfl ?_
        refine sm_T_ri rfl ⟨_, _, rfl, rfl, _, rfl, ?_⟩
        unfold nb
        by_cases u9_ : a1_ < S0_.1 8 0 2
        · first | (exfalso; omega) | (rw [if_pos u9_]; first | rw [if_pos (by omega), if_pos (by omega)] | rw [if_pos (by omega), if_neg (by omega)] | rw [if_neg (by omega), if_pos (by omega), if_pos (by omega)] | rw [if_neg (by omega), if_pos (by omega), if_neg (by omega)] | rw [if_neg (by omega), if_neg (by omega), if_pos (by omega)] | rw [if_neg (by omega), if_neg (by omega), if_neg (by omega)])
        · first | (exfalso; omega) | (rw [if_neg u9_]; first | rw [if_pos (by omega)] | rw [if_neg (by omega), if_pos (by omega), if_pos (by omega)] | rw [if_neg (by omega), if_pos (by omega), if_neg (by omega)] | rw [if_neg (by omega), if_neg (by omega), if_pos (by omega), if_pos (by omega)] | rw [if_neg (by omega), if_neg (by omega), if_pos (by omega), if_neg (by omega)] | rw [if_neg (by omega), if_neg (by omega), if_neg (by omega)])
      by_cases cx14_ : a2_ = 1
      · refine sm_T_sw (t := 97) rfl rfl (by rw [cx14_]; rfl) ?_
        refine sm_T_go 3 (c1 := (119, [some (.inr (.inr (some (8, 0)))), some (.inl a1_), some (.inl a2_), some (.inl 1), some (.inl (a1_ - (S0_.1 8 0 2))), some (.inl ((a1_ - (S0_.1 8 0 2)) % (S0_.1 8 0 1)))], [.inl (-1)], S0_)) rfl ?_
        refine sm_T_ri rfl ⟨_, _, rfl, rfl, _, rfl, ?_⟩
        unfold nb
        by_cases u9_ : a1_ < S0_.1 8 0 2
        · first | (exfalso; omega) | (rw [if_pos u9_]; first | rw [if_pos (by omega), if_pos (by omega)] | rw [if_pos (by omega), if_neg (by omega)] | rw [if_neg (by omega), if_pos (by omega), if_pos (by omega)] | rw [if_neg (by omega), if_pos (by omega), if_neg (by omega)] | rw [if_neg (by omega), if_neg (by omega), if_pos (by omega)] | rw [if_neg (by omega), if_neg (by omega), if_neg (by omega)])
        · first | (exfalso; omega) | (rw [if_neg u9_]; first | rw [if_pos (by omega)] | rw [if_neg (by omega), if_pos (by omega), if_pos (by omega)] | rw [if_neg (by omega), if_pos (by omega), if_neg (by omega)] | rw [if_neg (by omega), if_neg (by omega), if_pos (by omega), if_pos (by omega)] | rw [if_neg (by omega), if_neg (by omega), if_pos (by omega), if_neg (by omega)] | rw [if_neg (by omega), if_neg (by omega), if_neg (by omega)])
      by_cases cx15_ : a2_ = 2
      · refine sm_T_sw (t := 120) rfl rfl (by rw [cx15_]; rfl) ?_
        refine sm_T_go 5 (c1 := (130, [some (.inr (.inr (some (8, 0)))), some (.inl a1_), some (.inl a2_), some (.inl 1), some (.inl (a1_ - (S0_.1 8 0 2))), some (.inl ((a1_ - (S0_.1 8 0 2)) % (S0_.1 8 0 1)))], [.inl (S0_.1 8 0 1), .inl (a1_ - (S0_.1 8 0 2))], S0_)) rfl ?_
        refine sm_T_br (a := 2) (z := 12) rfl (fun cx16_ => ?_) (fun cx16_ => ?_)
        · have cx16_ : a1_ - (S0_.1 8 0 2) < (S0_.1 8 0 1) := of_decide_eq_true cx16_
          refine sm_T_go 1 (c1 := (143, [some (.inr (.inr (some (8, 0)))), some (.inl a1_), some (.inl a2_), some (.inl 1), some (.inl (a1_ - (S0_.1 8 0 2))), some (.inl ((a1_ - (S0_.1 8 0 2)) % (S0_.1 8 0 1)))], [.inl (-1)], S0_)) rfl ?_
          refine sm_T_ri rfl ⟨_, _, rfl, rfl, _, rfl, ?_⟩
          unfold nb
          by_cases u9_ : a1_ < S0_.1 8 0 2
          · first | (exfalso; omega) | (rw [if_pos u9_]; first | rw [if_pos (by omega), if_pos (by omega)] | rw [if_pos (by omega), if_neg (by omega)] | rw [if_neg (by omega), if_pos (by omega), if_pos (by omega)] | rw [if_neg (by omega), if_pos (by omega), if_neg (by omega)] | rw [if_neg (by omega), if_neg (by omega), if_pos (by omega)] | rw [if_neg (by omega), if_neg (by omega), if_neg (by omega)])
          · first | (exfalso; omega) | (rw [if_neg u9_]; first | rw [if_pos (by omega)] | rw [if_neg (by omega), if_pos (by omega), if_pos (by omega)] | rw [if_neg (by omega), if_pos (by omega), if_neg (by omega)] | rw [if_neg (by omega), if_neg (by omega), if_pos (by omega), if_pos (by omega)] | rw [if_neg (by omega), if_neg (by omega), if_pos (by omega), if_neg (by omega)] | rw [if_neg (by omega), if_neg (by omega), if_neg (by omega)])
        · have cx16_ : ¬ (a1_ - (S0_.1 8 0 2) < (S0_.1 8 0 1)) := of_decide_eq_false cx16_
          refine sm_T_go 3 (c1 := (138, [some (.inr (.inr (some (8, 0)))), some (.inl a1_), some (.inl a2_), some (.inl 1), some (.inl (a1_ - (S0_.1 8 0 2))), some (.inl ((a1_ - (S0_.1 8 0 2)) % (S0_.1 8 0 1)))], [.inl (S0_.1 8 0 1), .inl a1_], S0_)) rfl ?_
          refine sm_T_bin (w := a1_ - (S0_.1 8 0 1)) rfl (bi_sub (by omega) (by omega) (by omega)) ?_ -- pc_ 138
          refine sm_T_go 1 (c1 := (143, [some (.inr (.inr (some (8, 0)))), some (.inl a1_), some (.inl a2_), some (.inl 1), some (.inl (a1_ - (S0_.1 8 0 2))), some (.inl ((a1_ - (S0_.1 8 0 2)) % (S0_.1 8 0 1)))], [.inl (a1_ - (S0_.1 8 0 1))], S0_)) rfl ?_
          refine sm_T_ri rfl ⟨_, _, rfl, rfl, _, rfl, ?_⟩
          unfold nb
          by_cases u9_ : a1_ < S0_.1 8 0 2
          · first | (exfalso; omega) | (rw [if_pos u9_]; first | rw [if_pos (by omega), if_pos (by omega)] | rw [if_pos (by omega), if_neg (by omega)] | rw [if_neg (by omega), if_pos (by omega), if_pos (by omega)] | rw [if_neg (by omega), if_pos (by omega), if_neg (by omega)] | rw [if_neg (by omega), if_neg (by omega), if_pos (by omega)] | rw [if_neg (by omega), if_neg (by omega), if_neg (by omega)])
          · first | (exfalso; omega) | (rw [if_neg u9_]; first | rw [if_pos (by omega)] | rw [if_neg (by omega), if_pos (by omega), if_pos (by omega)] | rw [if_neg (by omega), if_pos (by omega), if_neg (by omega)] | rw [if_neg (by omega), if_neg (by omega), if_pos (by omega), if_pos (by omega)] | rw [if_neg (by omega), if_neg (by omega), if_pos (by omega), if_neg (by omega)] | rw [if_neg (by omega), if_neg (by omega), if_neg (by omega)])
      by_cases cx17_ : a2_ = 3
      · refine sm_T_sw (t := 144) rfl rfl (by rw [cx17_]; rfl) ?_
        refine sm_T_go 7 (c1 := (158, [some (.inr (.inr (some (8, 0)))), some (.inl a1_), some (.inl a2_), some (.inl 1), some (.inl (a1_ - (S0_.1 8 0 2))), some (.inl ((a1_ - (S0_.1 8 0 2)) % (S0_.1 8 0 1)))], [.inl (S0_.1 8 0 1), .inl (S0_.1 8 0 2), .inl (a1_ - (S0_.1 8 0 2))], S0_)) rfl ?_
        refine sm_T_bin (w := (S0_.1 8 0 2) - (S0_.1 8 0 1)) rfl (bi_sub (by omega) (by omega) (by omega)) ?_ -- pc_ 158
        refine sm_T_br (a := 3) (z := 12) rfl (fun cx18_ => ?_) (fun cx18_ => ?_)
        · have cx18_ : (S0_.1 8 0 2) - (S0_.1 8 0 1) ≤ a1_ - (S0_.1 8 0 2) := of_decide_eq_true cx18_
          refine sm_T_go 1 (c1 := (172, [some (.inr (.inr (some (8, 0)))), some (.inl a1_), some (.inl a2_), some (.inl 1), some (.inl (a1_ - (S0_.1 8 0 2))), some (.inl ((a1_ - (S0_.1 8 0 2)) % (S0_.1 8 0 1)))], [.inl (-1)], S0_)) rfl ?_
          refine sm_T_ri rfl ⟨_, _, rfl, rfl, _, rfl, ?_⟩
          unfold nb
          by_cases u9_ : a1_ < S0_.1 8 0 2
          · first | (exfalso; omega) | (rw [if_pos u9_]; first | rw [if_pos (by omega), if_pos (by omega)] | rw [if_pos (by omega), if_neg (by omega)] | rw [if_neg (by omega), if_pos (by omega), if_pos (by omega)] | rw [if_neg (by omega), if_pos (by omega), if_neg (by omega)] | rw [if_neg (by omega), if_neg (by omega), if_pos (by omega)] | rw [if_neg (by omega), if_neg (by omega), if_neg (by omega)])
          · first | (exfalso; omega) | (rw [if_neg u9_]; first | rw [if_pos (by omega)] | rw [if_neg (by omega), if_pos (by omega), if_pos (by omega)] | rw [if_neg (by omega), if_pos (by omega), if_neg (by omega)] | rw [if_neg (by omega), if_neg (by omega), if_pos (by omega), if_pos (by omega)] | rw [if_neg (by omega), if_neg (by omega), if_pos (by omega), if_neg (by omega)] | rw [if_neg (by omega), if_neg (by omega), if_neg (by omega)])
        · have cx18_ : ¬ ((S0_.1 8 0 2) - (S0_.1 8 0 1) ≤ a1_ - (S0_.1 8 0 2)) := of_decide_eq_false cx18_
          refine sm_T_go 3 (c1 := (167, [some (.inr (.inr (some (8, 0)))), some (.inl a1_), some (.inl a2_), some (.inl 1), some (.inl (a1_ - (S0_.1 8 0 2))), some (.inl ((a1_ - (S0_.1 8 0 2)) % (S0_.1 8 0 1)))], [.inl (S0_.1 8 0 1), .inl a1_], S0_)) rfl ?_
          refine sm_T_bin (w := a1_ + (S0_.1 8 0 1)) rfl (bi_add (by omega) (by omega) (by omega)) ?_ -- pc_ 167
          refine sm_T_go 1 (c1 := (172, [some (.inr (.inr (some (8, 0)))), some (.inl a1_), some (.inl a2_), some (.inl 1), some (.inl (a1_ - (S0_.1 8 0 2))), some (.inl ((a1_ - (S0_.1 8 0 2)) % (S0_.1 8 0 1)))], [.inl (a1_ + (S0_.1 8 0 1))], S0_)) rfl ?_
          refine sm_T_ri rfl ⟨_, _, rfl, rfl, _, rfl, ?_⟩
          unfold nb
          by_cases u9_ : a1_ < S0_.1 8 0 2
          · first | (exfalso; omega) | (rw [if_pos u9_]; first | rw [if_pos (by omega), if_pos (by omega)] | rw [if_pos (by omega), if_neg (by omega)] | rw [if_neg (by omega), if_pos (by omega), if_pos (by omega)] | rw [if_neg (by omega), if_pos (by omega), if_neg (by omega)] | rw [if_neg (by omega), if_neg (by omega), if_pos (by omega)] | rw [if_neg (by omega), if_neg (by omega), if_neg (by omega)])
          · first | (exfalso; omega) | (rw [if_neg u9_]; first | rw [if_pos (by omega)] | rw [if_neg (by omega), if_pos (by omega), if_pos (by omega)] | rw [if_neg (by omega), if_pos (by omega), if_neg (by omega)] | rw [if_neg (by omega), if_neg (by omega), if_pos (by omega), if_pos (by omega)] | rw [if_neg (by omega), if_neg (by omega), if_pos (by omega), if_neg (by omega)] | rw [if_neg (by omega), if_neg (by omega), if_neg (by omega)])
      refine sm_T_sw (t := 173) rfl rfl (by (have hh_ : a2_ < 0 ∨ 4 ≤ a2_ := by omega); rcases hh_ with hh_ | hh_; (exact sm_swd (Or.inl hh_)); (exact sm_swd (Or.inr (by simp only [List.length_cons, List.length_nil]; omega)))) ?_
      refine sm_T_go 4 (c1 := (188, [some (.inr (.inr (some (8, 0)))), some (.inl a1_), some (.inl a2_), some (.inl 1), some (.inl (a1_ - (S0_.1 8 0 2))), some (.inl ((a1_ - (S0_.1 8 0 2)) % (S0_.1 8 0 1)))], [.inl (a1_ - (S0_.1 8 0 2))], S0_)) rfl ?_
      refine sm_T_ri rfl ⟨_, _, rfl, rfl, _, rfl, ?_⟩
      unfold nb
      by_cases u9_ : a1_ < S0_.1 8 0 2
      · first | (exfalso; omega) | (rw [if_pos u9_]; first | rw [if_pos (by omega), if_pos (by omega)] | rw [if_pos (by omega), if_neg (by omega)] | rw [if_neg (by omega), if_pos (by omega), if_pos (by omega)] | rw [if_neg (by omega), if_pos (by omega), if_neg (by omega)] | rw [if_neg (by omega), if_neg (by omega), if_pos (by omega)] | rw [if_neg (by omega), if_neg (by omega), if_neg (by omega)])
      · first | (exfalso; omega) | (rw [if_neg u9_]; first | rw [if_pos (by omega)] | rw [if_neg (by omega), if_pos (by omega), if_pos (by omega)] | rw [if_neg (by omega), if_pos (by omega), if_neg (by omega)] | rw [if_neg (by omega), if_neg (by omega), if_pos (by omega), if_pos (by omega)] | rw [if_neg (by omega), if_neg (by omega), if_pos (by omega), if_neg (by omega)] | rw [if_neg (by omega), if_neg (by omega), if_neg (by omega)])
