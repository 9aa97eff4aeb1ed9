/-! the class: graph; written by wip/p55/gen/vg -/
def oka_graph (kk_ wh_ : Int) (S_ : sm_S) : Prop := (0 ≤ kk_ ∧ kk_ < 6 ∧ S_.1 3 kk_.toNat 0 = 1)
def okc_graph (kk_ wh_ : Int) (S_ : sm_S) : Prop := oka_graph kk_ wh_ S_ ∧ (0 ≤ wh_ ∧ wh_ ≤ 7)
def vac_graph (kk_ wh_ : Int) (S_ : sm_S) : Int := if wh_ = 0 then S_.1 3 kk_.toNat 1 else if wh_ = 1 then S_.1 3 kk_.toNat 2 else if wh_ = 2 then S_.1 3 kk_.toNat 3 else if wh_ = 3 then S_.1 3 kk_.toNat 4 - (1 + S_.1 3 kk_.toNat 1 + S_.1 3 kk_.toNat 2) else if wh_ = 4 then S_.1 3 kk_.toNat 7 else if wh_ = 5 then S_.1 3 kk_.toNat 8 else if wh_ = 6 then S_.1 3 kk_.toNat 9 else S_.1 3 kk_.toNat 5
/-! ChipFlow.graph -/
def vw_219t : sx_Wl := ([], [], [])
def vq_219t (kk_ : Int) (wh_ : Int) (S0_ : sm_S) (u_ : Option sm_V) (S1_ : sm_S) : Prop := ∃ v_ : Int, u_ = some (.inl v_) ∧ gi S1_ ∧ ai_fr (sx_W vw_219t) S0_ S1_ ∧ (S1_ = S0_ ∧ okc_graph kk_ wh_ S0_ ∧ v_ = vac_graph kk_ wh_ S0_)
def vx_219t (kk_ : Int) (wh_ : Int) (S0_ : sm_S) (ex_ : Nat) (S1_ : sm_S) : Prop := gi S1_ ∧ ai_fr (sx_W vw_219t) S0_ S1_ ∧ (S1_ = S0_ ∧ ((ex_ = 0 ∧ ¬ oka_graph kk_ wh_ S0_) ∨ (ex_ = 1 ∧ oka_graph kk_ wh_ S0_ ∧ ¬ okc_graph kk_ wh_ S0_)))
set_option maxHeartbeats 400000 in
theorem vc_219t {sc_ : Nat × (Nat → Int)} (kk_ : Int) (wh_ : Int) (S0_ : sm_S) (hI_ : gi S0_) (hJ_ : dAll S0_) : sm_T (mt_P sc_) 2 219 (0, [some (.inr (.inr (some (12, 0)))), some (.inl kk_), some (.inl wh_), none], [], S0_) (fun ro9_ => (∃ u_ S1_, ro9_ = (.inl u_, S1_, 0) ∧ vq_219t kk_ wh_ S0_ u_ S1_) ∨ ∃ ex_ S1_, ro9_ = (.inr ex_, S1_, 1) ∧ ex_ ∈ ([0, 1] : List Nat) ∧ vx_219t kk_ wh_ S0_ ex_ S1_) := by
  have hF_ : ai_fr (sx_W vw_219t) S0_ S0_ := ai_fr_rf
  refine sm_T_go 2 (c1 := (2, [some (.inr (.inr (some (12, 0)))), some (.inl kk_), some (.inl wh_), none], [.inl kk_, .inr (.inr (some (12, 0)))], S0_)) rfl ?_
  refine sm_T_cale (d1_ := 1) (Q1_ := vq_270t kk_ S0_) (Q2_ := (fun ex_ S1_ => ex_ ∈ ([0] : List Nat) ∧ vx_270t kk_ S0_ S1_)) rfl rfl (by decide) (vc_270t kk_ S0_ hI_ ) rfl (fun xx6_ Sx1_ px4_ => ?_) (fun u_ Sx1_ px4_ => ?_)
  · obtain ⟨px4m, hIx2_, hFx3_, px4_⟩ := px4_
    refine Or.inr ⟨_, _, rfl, by first | exact px4m | (simp only [List.mem_cons, List.not_mem_nil, or_false] at px4m ⊢; omega), hIx2_, ai_fr_tr hF_ (fr_le hFx3_ rfl), ?_⟩
    exact ⟨px4_.1, Or.inl ⟨List.mem_singleton.mp px4m, fun y9_ => px4_.2 y9_⟩⟩
  obtain ⟨rfl, -, -, rfl, px4_⟩ := px4_
  have a9_ := px4_
  have J9_ := dOk_b (hJ_ kk_.toNat (by omega) a9_.2)
  have J9a := J9_.1
  have J9b := J9_.2.1
  refine sm_T_go 2 (c1 := (7, [some (.inr (.inr (some (12, 0)))), some (.inl kk_), some (.inl wh_), some (.inr (.inr (some (3, kk_.toNat))))], [.inl wh_], S0_)) rfl ?_
  refine sm_T_b0 (a := 2) (z := 13) rfl (fun cx7_ => ?_) (fun cx7_ => ?_)
  · have cx7_ : wh_ < 0 := of_decide_eq_true cx7_
    refine sm_T_go 1 (c1 := (21, [some (.inr (.inr (some (12, 0)))), some (.inl kk_), some (.inl wh_), some (.inr (.inr (some (3, kk_.toNat))))], [.inl 0], S0_)) rfl ?_
    refine sm_T_cale (d1_ := 0) (Q1_ := vq_266e 0 S0_) (Q2_ := (fun ex_ S1_ => ex_ ∈ ([1] : List Nat) ∧ vx_266e 0 S0_ S1_)) rfl rfl (by decide) (vc_266e 0 S0_ hI_ ) rfl (fun xx13_ Sx8_ px11_ => ?_) (fun u_ Sx8_ px11_ => ?_)
    · obtain ⟨px11m, hIx9_, hFx10_, px11_⟩ := px11_
      refine Or.inr ⟨_, _, rfl, by first | exact px11m | (simp only [List.mem_cons, List.not_mem_nil, or_false] at px11m ⊢; omega), hIx9_, ai_fr_tr hF_ (fr_le hFx10_ rfl), ?_⟩
      first | exact ⟨px11_.2, Or.inl ⟨List.mem_singleton.mp px11m, by (have y9_ := px11_.1; unfold oka_graph; omega)⟩⟩ | exact ⟨px11_.2, Or.inr ⟨List.mem_singleton.mp px11m, by (unfold oka_graph; omega), by (have y9_ := px11_.1; unfold okc_graph oka_graph; omega)⟩⟩
    · exact absurd rfl px11_.2.2.2.1
  · have cx7_ : ¬ (wh_ < 0) := of_decide_eq_false cx7_
    refine sm_T_go 2 (c1 := (13, [some (.inr (.inr (some (12, 0)))), some (.inl kk_), some (.inl wh_), some (.inr (.inr (some (3, kk_.toNat))))], [.inl 7, .inl wh_], S0_)) rfl ?_
    refine sm_T_br (a := 4) (z := 7) rfl (fun cx14_ => ?_) (fun cx14_ => ?_)
    · have cx14_ : 7 < wh_ := of_decide_eq_true cx14_
      refine sm_T_go 1 (c1 := (21, [some (.inr (.inr (some (12, 0)))), some (.inl kk_), some (.inl wh_), some (.inr (.inr (some (3, kk_.toNat))))], [.inl 0], S0_)) rfl ?_
      refine sm_T_cale (d1_ := 0) (Q1_ := vq_266e 0 S0_) (Q2_ := (fun ex_ S1_ => ex_ ∈ ([1] : List Nat) ∧ vx_266e 0 S0_ S1_)) rfl rfl (by decide) (vc_266e 0 S0_ hI_ ) rfl (fun xx20_ Sx15_ px18_ => ?_) (fun u_ Sx15_ px18_ => ?_)
      · obtain ⟨px18m, hIx16_, hFx17_, px18_⟩ := px18_
        refine Or.inr ⟨_, _, rfl, by first | exact px18m | (simp only [List.mem_cons, List.not_mem_nil, or_false] at px18m ⊢; omega), hIx16_, ai_fr_tr hF_ (fr_le hFx17_ rfl), ?_⟩
        first | exact ⟨px18_.2, Or.inl ⟨List.mem_singleton.mp px18m, by (have y9_ := px18_.1; unfold oka_graph; omega)⟩⟩ | exact ⟨px18_.2, Or.inr ⟨List.mem_singleton.mp px18m, by (unfold oka_graph; omega), by (have y9_ := px18_.1; unfold okc_graph oka_graph; omega)⟩⟩
      · exact absurd rfl px18_.2.2.2.1
    · have cx14_ : ¬ (7 < wh_) := of_decide_eq_false cx14_
      refine sm_T_go 2 (c1 := (21, [some (.inr (.inr (some (12, 0)))), some (.inl kk_), some (.inl wh_), some (.inr (.inr (some (3, kk_.toNat))))], [.inl 1], S0_)) rfl ?_
      refine sm_T_cale (d1_ := 0) (Q1_ := vq_266e 1 S0_) (Q2_ := (fun ex_ S1_ => ex_ ∈ ([1] : List Nat) ∧ vx_266e 1 S0_ S1_)) rfl rfl (by decide) (vc_266e 1 S0_ hI_ ) rfl (fun xx26_ Sx21_ px24_ => ?_) (fun u_ Sx21_ px24_ => ?_)
      · exact absurd px24_.2.2.2.1 (by decide)
      obtain ⟨rfl, -, -, px24_, rfl⟩ := px24_
      refine sm_T_go 1 (c1 := (25, [some (.inr (.inr (some (12, 0)))), some (.inl kk_), some (.inl wh_), some (.inr (.inr (some (3, kk_.toNat))))], [.inl wh_], S0_)) rfl ?_
      by_cases cx27_ : wh_ = 0
      · refine sm_T_sw (t := 68) rfl rfl (by rw [cx27_]; rfl) ?_
        have bx28_ : 0 ≤ S0_.1 3 kk_.toNat 1 ∧ S0_.1 3 kk_.toNat 1 ≤ 320 := hI_.1 3 kk_.toNat 1 rfl
        refine sm_T_go 2 (c1 := (72, [some (.inr (.inr (some (12, 0)))), some (.inl kk_), some (.inl wh_), some (.inr (.inr (some (3, kk_.toNat))))], [.inl (S0_.1 3 kk_.toNat 1)], S0_)) rfl ?_
        refine sm_T_ri rfl (Or.inl ⟨_, _, rfl, _, rfl, hI_, hF_, ?_⟩)
        refine ⟨rfl, by (unfold okc_graph oka_graph; omega), ?_⟩; unfold vac_graph; repeat (first | rfl | rw [if_pos (by omega)] | rw [if_neg (by omega)] | omega)
      by_cases cx29_ : wh_ = 1
      · refine sm_T_sw (t := 73) rfl rfl (by rw [cx29_]; rfl) ?_
        have bx30_ : 0 ≤ S0_.1 3 kk_.toNat 2 ∧ S0_.1 3 kk_.toNat 2 ≤ 100000 := hI_.1 3 kk_.toNat 2 rfl
        refine sm_T_go 2 (c1 := (77, [some (.inr (.inr (some (12, 0)))), some (.inl kk_), some (.inl wh_), some (.inr (.inr (some (3, kk_.toNat))))], [.inl (S0_.1 3 kk_.toNat 2)], S0_)) rfl ?_
        refine sm_T_ri rfl (Or.inl ⟨_, _, rfl, _, rfl, hI_, hF_, ?_⟩)
        refine ⟨rfl, by (unfold okc_graph oka_graph; omega), ?_⟩; unfold vac_graph; repeat (first | rfl | rw [if_pos (by omega)] | rw [if_neg (by omega)] | omega)
      by_cases cx31_ : wh_ = 2
      · refine sm_T_sw (t := 78) rfl rfl (by rw [cx31_]; rfl) ?_
        have bx32_ : 0 ≤ S0_.1 3 kk_.toNat 3 ∧ S0_.1 3 kk_.toNat 3 ≤ 320 := hI_.1 3 kk_.toNat 3 rfl
        refine sm_T_go 2 (c1 := (82, [some (.inr (.inr (some (12, 0)))), some (.inl kk_), some (.inl wh_), some (.inr (.inr (some (3, kk_.toNat))))], [.inl (S0_.1 3 kk_.toNat 3)], S0_)) rfl ?_
        refine sm_T_ri rfl (Or.inl ⟨_, _, rfl, _, rfl, hI_, hF_, ?_⟩)
        refine ⟨rfl, by (unfold okc_graph oka_graph; omega), ?_⟩; unfold vac_graph; repeat (first | rfl | rw [if_pos (by omega)] | rw [if_neg (by omega)] | omega)
      by_cases cx33_ : wh_ = 3
      · refine sm_T_sw (t := 83) rfl rfl (by rw [cx33_]; rfl) ?_
        have bx34_ : 0 ≤ S0_.1 3 kk_.toNat 4 ∧ S0_.1 3 kk_.toNat 4 ≤ 1013 := hI_.1 3 kk_.toNat 4 rfl
        refine sm_T_go 3 (c1 := (88, [some (.inr (.inr (some (12, 0)))), some (.inl kk_), some (.inl wh_), some (.inr (.inr (some (3, kk_.toNat))))], [.inr (.inr (some (3, kk_.toNat))), .inl (S0_.1 3 kk_.toNat 4)], S0_)) rfl ?_
        refine sm_T_cal (d1 := 0) (Q1 := vq_63 kk_.toNat S0_) rfl rfl (by decide) (vc_63 kk_.toNat S0_ hI_ (by omega)) (fun u_ Sx35_ px38_ => ?_)
        obtain ⟨rfl, vx40_, rfl, px38_⟩ := px38_
        have f88_ := px38_
        refine sm_T_bin (w := (S0_.1 3 kk_.toNat 4) - vx40_) rfl (bi_sub (by omega) (by omega) (by omega)) ?_ -- pc_ 91
        refine sm_T_ri rfl (Or.inl ⟨_, _, rfl, _, rfl, hI_, hF_, ?_⟩)
        refine ⟨rfl, by (unfold okc_graph oka_graph; omega), ?_⟩; unfold vac_graph; repeat (first | rfl | rw [if_pos (by omega)] | rw [if_neg (by omega)] | omega)
      by_cases cx41_ : wh_ = 4
      · refine sm_T_sw (t := 93) rfl rfl (by rw [cx41_]; rfl) ?_
        have bx42_ : 0 ≤ S0_.1 3 kk_.toNat 7 ∧ S0_.1 3 kk_.toNat 7 ≤ 1000 := hI_.1 3 kk_.toNat 7 rfl
        refine sm_T_go 2 (c1 := (97, [some (.inr (.inr (some (12, 0)))), some (.inl kk_), some (.inl wh_), some (.inr (.inr (some (3, kk_.toNat))))], [.inl (S0_.1 3 kk_.toNat 7)], S0_)) rfl ?_
        refine sm_T_ri rfl (Or.inl ⟨_, _, rfl, _, rfl, hI_, hF_, ?_⟩)
        refine ⟨rfl, by (unfold okc_graph oka_graph; omega), ?_⟩; unfold vac_graph; repeat (first | rfl | rw [if_pos (by omega)] | rw [if_neg (by omega)] | omega)
      by_cases cx43_ : wh_ = 5
      · refine sm_T_sw (t := 98) rfl rfl (by rw [cx43_]; rfl) ?_
        have bx44_ : 0 ≤ S0_.1 3 kk_.toNat 8 ∧ S0_.1 3 kk_.toNat 8 ≤ 1000 := hI_.1 3 kk_.toNat 8 rfl
        refine sm_T_go 2 (c1 := (102, [some (.inr (.inr (some (12, 0)))), some (.inl kk_), some (.inl wh_), some (.inr (.inr (some (3, kk_.toNat))))], [.inl (S0_.1 3 kk_.toNat 8)], S0_)) rfl ?_
        refine sm_T_ri rfl (Or.inl ⟨_, _, rfl, _, rfl, hI_, hF_, ?_⟩)
        refine ⟨rfl, by (unfold okc_graph oka_graph; omega), ?_⟩; unfold vac_graph; repeat (first | rfl | rw [if_pos (by omega)] | rw [if_neg (by omega)] | omega)
      by_cases cx45_ : wh_ = 6
      · refine sm_T_sw (t := 103) rfl rfl (by rw [cx45_]; rfl) ?_
        have bx46_ : 0 ≤ S0_.1 3 kk_.toNat 9 ∧ S0_.1 3 kk_.toNat 9 ≤ 64 := hI_.1 3 kk_.toNat 9 rfl
        refine sm_T_go 2 (c1 := (107, [some (.inr (.inr (some (12, 0)))), some (.inl kk_), some (.inl wh_), some (.inr (.inr (some (3, kk_.toNat))))], [.inl (S0_.1 3 kk_.toNat 9)], S0_)) rfl ?_
        refine sm_T_ri rfl (Or.inl ⟨_, _, rfl, _, rfl, hI_, hF_, ?_⟩)
        refine ⟨rfl, by (unfold okc_graph oka_graph; omega), ?_⟩; unfold vac_graph; repeat (first | rfl | rw [if_pos (by omega)] | rw [if_neg (by omega)] | omega)
      refine sm_T_sw (t := 108) rfl rfl (by (have hh_ : wh_ < 0 ∨ 7 ≤ wh_ := by omega); rcases hh_ with hh_ | hh_; (exact sm_swd (Or.inl hh_)); (exact sm_swd (Or.inr (by simp only [List.length_cons, List.length_nil]; omega)))) ?_
      have bx47_ : 0 ≤ S0_.1 3 kk_.toNat 5 ∧ S0_.1 3 kk_.toNat 5 ≤ 63 := hI_.1 3 kk_.toNat 5 rfl
      refine sm_T_go 2 (c1 := (112, [some (.inr (.inr (some (12, 0)))), some (.inl kk_), some (.inl wh_), some (.inr (.inr (some (3, kk_.toNat))))], [.inl (S0_.1 3 kk_.toNat 5)], S0_)) rfl ?_
      refine sm_T_ri rfl (Or.inl ⟨_, _, rfl, _, rfl, hI_, hF_, ?_⟩)
      refine ⟨rfl, by (unfold okc_graph oka_graph; omega), ?_⟩; unfold vac_graph; repeat (first | rfl | rw [if_pos (by omega)] | rw [if_neg (by omega)] | omega)
