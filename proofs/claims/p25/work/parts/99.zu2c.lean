/-! the class: cell; written by wip/p55/gen/vg -/
def oka_cell (lb_ k_ wh_ : Int) (S_ : sm_S) : Prop := (0 ≤ lb_ ∧ lb_ < 3 ∧ S_.1 5 lb_.toNat 0 = 1) ∧ (-1 ≤ k_ ∧ k_ < S_.1 5 lb_.toNat 1)
def okc_cell (lb_ k_ wh_ : Int) (S_ : sm_S) : Prop := oka_cell lb_ k_ wh_ S_ ∧ (0 ≤ wh_ ∧ wh_ ≤ 3)
def vac_cell (lb_ k_ wh_ : Int) (S_ : sm_S) : Int := if k_ = -1 then (if wh_ = 0 then S_.1 5 lb_.toNat 1 else if wh_ = 1 then S_.1 5 lb_.toNat 2 else 0) else if wh_ = 0 then S_.2.2.1 55 (0 + lb_.toNat) k_.toNat else if wh_ = 1 then S_.2.2.1 56 (0 + lb_.toNat) k_.toNat else if wh_ = 2 then S_.2.2.1 57 (0 + lb_.toNat) k_.toNat else S_.2.2.1 58 (0 + lb_.toNat) k_.toNat
/-! ChipFlow.cell -/
def vw_223t : sx_Wl := ([], [], [])
def vq_223t (lb_ : Int) (k_ : Int) (wh_ : Int) (S0_ : sm_S) (u_ : Option sm_V) (S1_ : sm_S) : Prop := ∃ v_ : Int, u_ = some (.inl v_) ∧ gi S1_ ∧ ai_fr (sx_W vw_223t) S0_ S1_ ∧ (S1_ = S0_ ∧ okc_cell lb_ k_ wh_ S0_ ∧ v_ = vac_cell lb_ k_ wh_ S0_)
def vx_223t (lb_ : Int) (k_ : Int) (wh_ : Int) (S0_ : sm_S) (ex_ : Nat) (S1_ : sm_S) : Prop := gi S1_ ∧ ai_fr (sx_W vw_223t) S0_ S1_ ∧ (S1_ = S0_ ∧ ((ex_ = 0 ∧ ¬ oka_cell lb_ k_ wh_ S0_) ∨ (ex_ = 1 ∧ oka_cell lb_ k_ wh_ S0_ ∧ ¬ okc_cell lb_ k_ wh_ S0_)))
set_option maxHeartbeats 400000 in
theorem vc_223t {sc_ : Nat × (Nat → Int)} (lb_ : Int) (k_ : Int) (wh_ : Int) (S0_ : sm_S) (hI_ : gi S0_)  : sm_T (mt_P sc_) 2 223 (0, [some (.inr (.inr (some (12, 0)))), some (.inl lb_), some (.inl k_), some (.inl wh_), none], [], S0_) (fun ro9_ => (∃ u_ S1_, ro9_ = (.inl u_, S1_, 0) ∧ vq_223t lb_ k_ wh_ S0_ u_ S1_) ∨ ∃ ex_ S1_, ro9_ = (.inr ex_, S1_, 1) ∧ ex_ ∈ ([0, 1] : List Nat) ∧ vx_223t lb_ k_ wh_ S0_ ex_ S1_) := by
  have hF_ : ai_fr (sx_W vw_223t) S0_ S0_ := ai_fr_rf
  refine sm_T_go 2 (c1 := (2, [some (.inr (.inr (some (12, 0)))), some (.inl lb_), some (.inl k_), some (.inl wh_), none], [.inl lb_, .inr (.inr (some (12, 0)))], S0_)) rfl ?_
  refine sm_T_cale (d1_ := 1) (Q1_ := vq_271t lb_ S0_) (Q2_ := (fun ex_ S1_ => ex_ ∈ ([0] : List Nat) ∧ vx_271t lb_ S0_ S1_)) rfl rfl (by decide) (vc_271t lb_ S0_ hI_ ) rfl (fun xx6_ Sx1_ px4_ => ?_) (fun u_ Sx1_ px4_ => ?_)
  · obtain ⟨px4m, hIx2_, hFx3_, px4_⟩ := px4_
    refine Or.inr ⟨_, _, rfl, by first | exact px4m | (simp only [List.mem_cons, List.not_mem_nil, or_false] at px4m ⊢; omega), hIx2_, ai_fr_tr hF_ (fr_le hFx3_ rfl), ?_⟩
    exact ⟨px4_.1, Or.inl ⟨List.mem_singleton.mp px4m, fun y9_ => px4_.2 y9_.1⟩⟩
  obtain ⟨rfl, -, -, rfl, px4_⟩ := px4_
  have a9_ := px4_
  refine sm_T_go 3 (c1 := (9, [some (.inr (.inr (some (12, 0)))), some (.inl lb_), some (.inl k_), some (.inl wh_), some (.inr (.inr (some (5, lb_.toNat))))], [.inl (-1), .inl k_], S0_)) rfl ?_
  refine sm_T_br (a := 2) (z := 16) rfl (fun cx7_ => ?_) (fun cx7_ => ?_)
  · have cx7_ : k_ < (-1) := of_decide_eq_true cx7_
    refine sm_T_go 1 (c1 := (26, [some (.inr (.inr (some (12, 0)))), some (.inl lb_), some (.inl k_), some (.inl wh_), some (.inr (.inr (some (5, lb_.toNat))))], [.inl 0], S0_)) rfl ?_
    refine sm_T_cale (d1_ := 0) (Q1_ := vq_265e 0 S0_) (Q2_ := (fun ex_ S1_ => ex_ ∈ ([0] : List Nat) ∧ vx_265e 0 S0_ S1_)) rfl rfl (by decide) (vc_265e 0 S0_ hI_ ) rfl (fun xx13_ Sx8_ px11_ => ?_) (fun u_ Sx8_ px11_ => ?_)
    · obtain ⟨px11m, hIx9_, hFx10_, px11_⟩ := px11_
      refine Or.inr ⟨_, _, rfl, by first | exact px11m | (simp only [List.mem_cons, List.not_mem_nil, or_false] at px11m ⊢; omega), hIx9_, ai_fr_tr hF_ (fr_le hFx10_ rfl), ?_⟩
      first | exact ⟨px11_.2, Or.inl ⟨List.mem_singleton.mp px11m, by (have y9_ := px11_.1; unfold oka_cell; omega)⟩⟩ | exact ⟨px11_.2, Or.inr ⟨List.mem_singleton.mp px11m, by (unfold oka_cell; omega), by (have y9_ := px11_.1; unfold okc_cell oka_cell; omega)⟩⟩
    · exact absurd rfl px11_.2.2.2.1
  · have cx7_ : ¬ (k_ < (-1)) := of_decide_eq_false cx7_
    have bx14_ : 0 ≤ S0_.1 5 lb_.toNat 1 ∧ S0_.1 5 lb_.toNat 1 ≤ 12 := hI_.1 5 lb_.toNat 1 rfl
    refine sm_T_go 3 (c1 := (18, [some (.inr (.inr (some (12, 0)))), some (.inl lb_), some (.inl k_), some (.inl wh_), some (.inr (.inr (some (5, lb_.toNat))))], [.inl (S0_.1 5 lb_.toNat 1), .inl k_], S0_)) rfl ?_
    refine sm_T_br (a := 3) (z := 7) rfl (fun cx15_ => ?_) (fun cx15_ => ?_)
    · have cx15_ : (S0_.1 5 lb_.toNat 1) ≤ k_ := of_decide_eq_true cx15_
      refine sm_T_go 1 (c1 := (26, [some (.inr (.inr (some (12, 0)))), some (.inl lb_), some (.inl k_), some (.inl wh_), some (.inr (.inr (some (5, lb_.toNat))))], [.inl 0], S0_)) rfl ?_
      refine sm_T_cale (d1_ := 0) (Q1_ := vq_265e 0 S0_) (Q2_ := (fun ex_ S1_ => ex_ ∈ ([0] : List Nat) ∧ vx_265e 0 S0_ S1_)) rfl rfl (by decide) (vc_265e 0 S0_ hI_ ) rfl (fun xx21_ Sx16_ px19_ => ?_) (fun u_ Sx16_ px19_ => ?_)
      · obtain ⟨px19m, hIx17_, hFx18_, px19_⟩ := px19_
        refine Or.inr ⟨_, _, rfl, by first | exact px19m | (simp only [List.mem_cons, List.not_mem_nil, or_false] at px19m ⊢; omega), hIx17_, ai_fr_tr hF_ (fr_le hFx18_ rfl), ?_⟩
        first | exact ⟨px19_.2, Or.inl ⟨List.mem_singleton.mp px19m, by (have y9_ := px19_.1; unfold oka_cell; omega)⟩⟩ | exact ⟨px19_.2, Or.inr ⟨List.mem_singleton.mp px19m, by (unfold oka_cell; omega), by (have y9_ := px19_.1; unfold okc_cell oka_cell; omega)⟩⟩
      · exact absurd rfl px19_.2.2.2.1
    · have cx15_ : ¬ ((S0_.1 5 lb_.toNat 1) ≤ k_) := of_decide_eq_false cx15_
      refine sm_T_go 2 (c1 := (26, [some (.inr (.inr (some (12, 0)))), some (.inl lb_), some (.inl k_), some (.inl wh_), some (.inr (.inr (some (5, lb_.toNat))))], [.inl 1], S0_)) rfl ?_
      refine sm_T_cale (d1_ := 0) (Q1_ := vq_265e 1 S0_) (Q2_ := (fun ex_ S1_ => ex_ ∈ ([0] : List Nat) ∧ vx_265e 1 S0_ S1_)) rfl rfl (by decide) (vc_265e 1 S0_ hI_ ) rfl (fun xx27_ Sx22_ px25_ => ?_) (fun u_ Sx22_ px25_ => ?_)
      · exact absurd px25_.2.2.2.1 (by decide)
      obtain ⟨rfl, -, -, px25_, rfl⟩ := px25_
      refine sm_T_go 1 (c1 := (30, [some (.inr (.inr (some (12, 0)))), some (.inl lb_), some (.inl k_), some (.inl wh_), some (.inr (.inr (some (5, lb_.toNat))))], [.inl wh_], S0_)) rfl ?_
      refine sm_T_b0 (a := 2) (z := 12) rfl (fun cx28_ => ?_) (fun cx28_ => ?_)
      · have cx28_ : wh_ < 0 := of_decide_eq_true cx28_
        refine sm_T_go 1 (c1 := (43, [some (.inr (.inr (some (12, 0)))), some (.inl lb_), some (.inl k_), some (.inl wh_), some (.inr (.inr (some (5, lb_.toNat))))], [.inl 0], S0_)) rfl ?_
        refine sm_T_cale (d1_ := 0) (Q1_ := vq_266e 0 S0_) (Q2_ := (fun ex_ S1_ => ex_ ∈ ([1] : List Nat) ∧ vx_266e 0 S0_ S1_)) rfl rfl (by decide) (vc_266e 0 S0_ hI_ ) rfl (fun xx34_ Sx29_ px32_ => ?_) (fun u_ Sx29_ px32_ => ?_)
        · obtain ⟨px32m, hIx30_, hFx31_, px32_⟩ := px32_
          refine Or.inr ⟨_, _, rfl, by first | exact px32m | (simp only [List.mem_cons, List.not_mem_nil, or_false] at px32m ⊢; omega), hIx30_, ai_fr_tr hF_ (fr_le hFx31_ rfl), ?_⟩
          first | exact ⟨px32_.2, Or.inl ⟨List.mem_singleton.mp px32m, by (have y9_ := px32_.1; unfold oka_cell; omega)⟩⟩ | exact ⟨px32_.2, Or.inr ⟨List.mem_singleton.mp px32m, by (unfold oka_cell; omega), by (have y9_ := px32_.1; unfold okc_cell oka_cell; omega)⟩⟩
        · exact absurd rfl px32_.2.2.2.1
      · have cx28_ : ¬ (wh_ < 0) := of_decide_eq_false cx28_
        refine sm_T_go 2 (c1 := (35, [some (.inr (.inr (some (12, 0)))), some (.inl lb_), some (.inl k_), some (.inl wh_), some (.inr (.inr (some (5, lb_.toNat))))], [.inl 3, .inl wh_], S0_)) rfl ?_
        refine sm_T_br (a := 4) (z := 7) rfl (fun cx35_ => ?_) (fun cx35_ => ?_)
        · have cx35_ : 3 < wh_ := of_decide_eq_true cx35_
          refine sm_T_go 1 (c1 := (43, [some (.inr (.inr (some (12, 0)))), some (.inl lb_), some (.inl k_), some (.inl wh_), some (.inr (.inr (some (5, lb_.toNat))))], [.inl 0], S0_)) rfl ?_
          refine sm_T_cale (d1_ := 0) (Q1_ := vq_266e 0 S0_) (Q2_ := (fun ex_ S1_ => ex_ ∈ ([1] : List Nat) ∧ vx_266e 0 S0_ S1_)) rfl rfl (by decide) (vc_266e 0 S0_ hI_ ) rfl (fun xx41_ Sx36_ px39_ => ?_) (fun u_ Sx36_ px39_ => ?_)
          · obtain ⟨px39m, hIx37_, hFx38_, px39_⟩ := px39_
            refine Or.inr ⟨_, _, rfl, by first | exact px39m | (simp only [List.mem_cons, List.not_mem_nil, or_false] at px39m ⊢; omega), hIx37_, ai_fr_tr hF_ (fr_le hFx38_ rfl), ?_⟩
            first | exact ⟨px39_.2, Or.inl ⟨List.mem_singleton.mp px39m, by (have y9_ := px39_.1; unfold oka_cell; omega)⟩⟩ | exact ⟨px39_.2, Or.inr ⟨List.mem_singleton.mp px39m, by (unfold oka_cell; omega), by (have y9_ := px39_.1; unfold okc_cell oka_cell; omega)⟩⟩
          · exact absurd rfl px39_.2.2.2.1
        · have cx35_ : ¬ (3 < wh_) := of_decide_eq_false cx35_
          refine sm_T_go 2 (c1 := (43, [some (.inr (.inr (some (12, 0)))), some (.inl lb_), some (.inl k_), some (.inl wh_), some (.inr (.inr (some (5, lb_.toNat))))], [.inl 1], S0_)) rfl ?_
          refine sm_T_cale (d1_ := 0) (Q1_ := vq_266e 1 S0_) (Q2_ := (fun ex_ S1_ => ex_ ∈ ([1] : List Nat) ∧ vx_266e 1 S0_ S1_)) rfl rfl (by decide) (vc_266e 1 S0_ hI_ ) rfl (fun xx47_ Sx42_ px45_ => ?_) (fun u_ Sx42_ px45_ => ?_)
          · exact absurd px45_.2.2.2.1 (by decide)
          obtain ⟨rfl, -, -, px45_, rfl⟩ := px45_
          refine sm_T_go 2 (c1 := (48, [some (.inr (.inr (some (12, 0)))), some (.inl lb_), some (.inl k_), some (.inl wh_), some (.inr (.inr (some (5, lb_.toNat))))], [.inl (-1), .inl k_], S0_)) rfl ?_
          refine sm_T_br (a := 1) (z := 30) rfl (fun cx48_ => ?_) (fun cx48_ => ?_)
          · have cx48_ : k_ ≠ (-1) := of_decide_eq_true cx48_
            refine sm_T_go 1 (c1 := (79, [some (.inr (.inr (some (12, 0)))), some (.inl lb_), some (.inl k_), some (.inl wh_), some (.inr (.inr (some (5, lb_.toNat))))], [.inl wh_], S0_)) rfl ?_
            by_cases cx49_ : wh_ = 0
            · refine sm_T_sw (t := 104) rfl rfl (by rw [cx49_]; rfl) ?_
              refine sm_T_go 3 (c1 := (110, [some (.inr (.inr (some (12, 0)))), some (.inl lb_), some (.inl k_), some (.inl wh_), some (.inr (.inr (some (5, lb_.toNat))))], [.inl k_, .inr (.inr (some (55, (0 + lb_.toNat))))], S0_)) rfl ?_
              refine sm_T_iald (n := 12) rfl rfl (by omega) (by omega) ?_
              have bx50_ : 0 ≤ S0_.2.2.1 55 (0 + lb_.toNat) k_.toNat ∧ S0_.2.2.1 55 (0 + lb_.toNat) k_.toNat ≤ 3 := hI_.2 55 (0 + lb_.toNat) _
              refine sm_T_ri rfl (Or.inl ⟨_, _, rfl, _, rfl, hI_, hF_, ?_⟩)
              refine ⟨rfl, by (unfold okc_cell oka_cell; omega), ?_⟩; unfold vac_cell; repeat (first | rfl | rw [if_pos (by omega)] | rw [if_neg (by omega)])
            by_cases cx51_ : wh_ = 1
            · refine sm_T_sw (t := 112) rfl rfl (by rw [cx51_]; rfl) ?_
              refine sm_T_go 3 (c1 := (118, [some (.inr (.inr (some (12, 0)))), some (.inl lb_), some (.inl k_), some (.inl wh_), some (.inr (.inr (some (5, lb_.toNat))))], [.inl k_, .inr (.inr (some (56, (0 + lb_.toNat))))], S0_)) rfl ?_
              refine sm_T_iald (n := 12) rfl rfl (by omega) (by omega) ?_
              have bx52_ : 0 ≤ S0_.2.2.1 56 (0 + lb_.toNat) k_.toNat ∧ S0_.2.2.1 56 (0 + lb_.toNat) k_.toNat ≤ 255 := hI_.2 56 (0 + lb_.toNat) _
              refine sm_T_ri rfl (Or.inl ⟨_, _, rfl, _, rfl, hI_, hF_, ?_⟩)
              refine ⟨rfl, by (unfold okc_cell oka_cell; omega), ?_⟩; unfold vac_cell; repeat (first | rfl | rw [if_pos (by omega)] | rw [if_neg (by omega)])
            by_cases cx53_ : wh_ = 2
            · refine sm_T_sw (t := 120) rfl rfl (by rw [cx53_]; rfl) ?_
              refine sm_T_go 3 (c1 := (126, [some (.inr (.inr (some (12, 0)))), some (.inl lb_), some (.inl k_), some (.inl wh_), some (.inr (.inr (some (5, lb_.toNat))))], [.inl k_, .inr (.inr (some (57, (0 + lb_.toNat))))], S0_)) rfl ?_
              refine sm_T_iald (n := 12) rfl rfl (by omega) (by omega) ?_
              have bx54_ : 0 ≤ S0_.2.2.1 57 (0 + lb_.toNat) k_.toNat ∧ S0_.2.2.1 57 (0 + lb_.toNat) k_.toNat ≤ 1000 := hI_.2 57 (0 + lb_.toNat) _
              refine sm_T_ri rfl (Or.inl ⟨_, _, rfl, _, rfl, hI_, hF_, ?_⟩)
              refine ⟨rfl, by (unfold okc_cell oka_cell; omega), ?_⟩; unfold vac_cell; repeat (first | rfl | rw [if_pos (by omega)] | rw [if_neg (by omega)])
            refine sm_T_sw (t := 128) rfl rfl (by (have hh_ : wh_ < 0 ∨ 3 ≤ wh_ := by omega); rcases hh_ with hh_ | hh_; (exact sm_swd (Or.inl hh_)); (exact sm_swd (Or.inr (by simp only [List.length_cons, List.length_nil]; omega)))) ?_
            refine sm_T_go 3 (c1 := (134, [some (.inr (.inr (some (12, 0)))), some (.inl lb_), some (.inl k_), some (.inl wh_), some (.inr (.inr (some (5, lb_.toNat))))], [.inl k_, .inr (.inr (some (58, (0 + lb_.toNat))))], S0_)) rfl ?_
            refine sm_T_iald (n := 12) rfl rfl (by omega) (by omega) ?_
            have bx55_ : 0 ≤ S0_.2.2.1 58 (0 + lb_.toNat) k_.toNat ∧ S0_.2.2.1 58 (0 + lb_.toNat) k_.toNat ≤ 100 := hI_.2 58 (0 + lb_.toNat) _
            refine sm_T_ri rfl (Or.inl ⟨_, _, rfl, _, rfl, hI_, hF_, ?_⟩)
            refine ⟨rfl, by (unfold okc_cell oka_cell; omega), ?_⟩; unfold vac_cell; repeat (first | rfl | rw [if_pos (by omega)] | rw [if_neg (by omega)])
          · have cx48_ : ¬ (k_ ≠ (-1)) := of_decide_eq_false cx48_
            refine sm_T_go 1 (c1 := (52, [some (.inr (.inr (some (12, 0)))), some (.inl lb_), some (.inl k_), some (.inl wh_), some (.inr (.inr (some (5, lb_.toNat))))], [.inl wh_], S0_)) rfl ?_
            refine sm_T_b0 (a := 1) (z := 11) rfl (fun cx56_ => ?_) (fun cx56_ => ?_)
            · have cx56_ : wh_ ≠ 0 := of_decide_eq_true cx56_
              refine sm_T_go 2 (c1 := (65, [some (.inr (.inr (some (12, 0)))), some (.inl lb_), some (.inl k_), some (.inl wh_), some (.inr (.inr (some (5, lb_.toNat))))], [.inl 1, .inl wh_], S0_)) rfl ?_
              refine sm_T_br (a := 1) (z := 11) rfl (fun cx57_ => ?_) (fun cx57_ => ?_)
              · have cx57_ : wh_ ≠ 1 := of_decide_eq_true cx57_
                refine sm_T_go 1 (c1 := (77, [some (.inr (.inr (some (12, 0)))), some (.inl lb_), some (.inl k_), some (.inl wh_), some (.inr (.inr (some (5, lb_.toNat))))], [.inl 0], S0_)) rfl ?_
                refine sm_T_ri rfl (Or.inl ⟨_, _, rfl, _, rfl, hI_, hF_, ?_⟩)
                refine ⟨rfl, by (unfold okc_cell oka_cell; omega), ?_⟩; unfold vac_cell; repeat (first | rfl | rw [if_pos (by omega)] | rw [if_neg (by omega)])
              · have cx57_ : ¬ (wh_ ≠ 1) := of_decide_eq_false cx57_
                have bx58_ : (-1) ≤ S0_.1 5 lb_.toNat 2 ∧ S0_.1 5 lb_.toNat 2 ≤ 11 := hI_.1 5 lb_.toNat 2 rfl
                refine sm_T_go 3 (c1 := (77, [some (.inr (.inr (some (12, 0)))), some (.inl lb_), some (.inl k_), some (.inl wh_), some (.inr (.inr (some (5, lb_.toNat))))], [.inl (S0_.1 5 lb_.toNat 2)], S0_)) rfl ?_
                refine sm_T_ri rfl (Or.inl ⟨_, _, rfl, _, rfl, hI_, hF_, ?_⟩)
                refine ⟨rfl, by (unfold okc_cell oka_cell; omega), ?_⟩; unfold vac_cell; repeat (first | rfl | rw [if_pos (by omega)] | rw [if_neg (by omega)])
            · have cx56_ : ¬ (wh_ ≠ 0) := of_decide_eq_false cx56_
              refine sm_T_go 3 (c1 := (77, [some (.inr (.inr (some (12, 0)))), some (.inl lb_), some (.inl k_), some (.inl wh_), some (.inr (.inr (some (5, lb_.toNat))))], [.inl (S0_.1 5 lb_.toNat 1)], S0_)) rfl ?_
              refine sm_T_ri rfl (Or.inl ⟨_, _, rfl, _, rfl, hI_, hF_, ?_⟩)
              refine ⟨rfl, by (unfold okc_cell oka_cell; omega), ?_⟩; unfold vac_cell; repeat (first | rfl | rw [if_pos (by omega)] | rw [if_neg (by omega)])
