/-! the reference: graph; written by wip/p55/gen/vg -/
def ora_graph (a1_ a2_ : Int) (S_ : sm_S) : Prop := (0 ≤ a1_ ∧ a1_ < 6 ∧ S_.2.2.1 153 0 a1_.toNat = 1)
def okr_graph (a1_ a2_ : Int) (S_ : sm_S) : Prop := ora_graph a1_ a2_ S_ ∧ (0 ≤ a2_ ∧ a2_ ≤ 7)
def var_graph (a1_ a2_ : Int) (S_ : sm_S) : Int := if a2_ = 0 then S_.2.2.1 154 0 a1_.toNat else if a2_ = 1 then S_.2.2.1 155 0 a1_.toNat else if a2_ = 2 then S_.2.2.1 156 0 a1_.toNat else if a2_ = 3 then S_.2.2.1 159 0 a1_.toNat - S_.2.2.1 160 0 a1_.toNat else if a2_ = 4 then S_.2.2.1 161 0 a1_.toNat else if a2_ = 5 then S_.2.2.1 162 0 a1_.toNat else if a2_ = 6 then S_.2.2.1 163 0 a1_.toNat else S_.2.2.1 157 0 a1_.toNat
/-! M_.graph -/
def vw_375t : sx_Wl := ([(13, 0)], [], [])
def vq_375t (a1_ : Int) (a2_ : Int) (S0_ : sm_S) (u_ : Option sm_V) (S1_ : sm_S) : Prop := ∃ v_ : Int, u_ = some (.inl v_) ∧ gi S1_ ∧ ai_fr (sx_W vw_375t) S0_ S1_ ∧ (((-2147483648) ≤ v_ ∧ v_ ≤ 2147483647) ∧ (jR S1_ ∧ ((S1_.1 13 0 0 = 1 ∧ ¬ ora_graph a1_ a2_ S0_) ∨ (S1_.1 13 0 0 = 2 ∧ ora_graph a1_ a2_ S0_ ∧ ¬ okr_graph a1_ a2_ S0_) ∨ (S1_.1 13 0 0 = 0 ∧ okr_graph a1_ a2_ S0_ ∧ v_ = var_graph a1_ a2_ S0_))))
set_option maxHeartbeats 400000 in
set_option maxRecDepth 20000 in
theorem vc_375t {sc_ : Nat × (Nat → Int)} (a1_ : Int) (a2_ : Int) (S0_ : sm_S) (hI_ : gi S0_) (ha1_ : (-2147483648) ≤ a1_ ∧ a1_ ≤ 2147483647) (ha2_ : (-2147483648) ≤ a2_ ∧ a2_ ≤ 2147483647) (hJ_ : jR S0_) : sm_T (mt_P sc_) 1 375 (0, [some (.inr (.inr (some (13, 0)))), some (.inl a1_), some (.inl a2_)], [], S0_) (fun ro9_ => ∃ u_ S1_, ro9_ = (.inl u_, S1_, 0) ∧ vq_375t a1_ a2_ S0_ u_ S1_) := by
  have hF_ : ai_fr (sx_W vw_375t) S0_ S0_ := ai_fr_rf
  refine sm_T_go 3 (c1 := (3, [some (.inr (.inr (some (13, 0)))), some (.inl a1_), some (.inl a2_)], [.inl a1_, .inr (.inr (some (13, 0))), .inr (.inr (some (13, 0)))], S0_)) rfl ?_
  refine sm_T_cal (d1 := 0) (Q1 := vq_369 a1_ S0_) rfl rfl (by decide) (vc_369 a1_ S0_ hI_ (by omega)) (fun u_ Sx1_ px4_ => ?_)
  obtain ⟨rfl, vx6_, rfl, px4_⟩ := px4_
  refine sm_T_b0 (a := 1) (z := 7) rfl (fun cx7_ => ?_) (fun cx7_ => ?_)
  · have cx7_ : vx6_ ≠ 0 := of_decide_eq_true cx7_
    refine sm_T_go 3 (c1 := (17, [some (.inr (.inr (some (13, 0)))), some (.inl a1_), some (.inl a2_)], [.inl 7, .inl 0, .inl a2_, .inr (.inr (some (13, 0)))], S0_)) rfl ?_
    refine sm_T_cal (d1 := 0) (Q1 := vq_278 a2_ 0 7 S0_) rfl rfl (by decide) (vc_278 a2_ 0 7 S0_ hI_ ) (fun u_ Sx8_ px11_ => ?_)
    obtain ⟨rfl, vx13_, rfl, px11_⟩ := px11_
    refine sm_T_b0 (a := 1) (z := 7) rfl (fun cx14_ => ?_) (fun cx14_ => ?_)
    · have cx14_ : vx13_ ≠ 0 := of_decide_eq_true cx14_
      have hIx15_ : gi (sm_pI S0_ 13 0 0 0) := gi_pI hI_ (show 0 ≤ 0 ∧ 0 ≤ 4 from ⟨by omega, by omega⟩)
      have hFx16_ : ai_fr (sx_W vw_375t) S0_ (sm_pI S0_ 13 0 0 0) := ai_fr_tr hF_ (ai_fr_pI rfl)
      refine sm_T_go 6 (c1 := (41, [some (.inr (.inr (some (13, 0)))), some (.inl a1_), some (.inl a2_)], [.inl a2_], sm_pI S0_ 13 0 0 0)) rfl ?_
      by_cases cx17_ : a2_ = 0
      · refine sm_T_sw (t := 84) rfl rfl (by rw [cx17_]; rfl) ?_
        refine sm_T_go 3 (c1 := (89, [some (.inr (.inr (some (13, 0)))), some (.inl a1_), some (.inl a2_)], [.inl a1_, .inr (.inr (some (154, 0)))], sm_pI S0_ 13 0 0 0)) rfl ?_
        refine sm_T_iald (n := 6) rfl rfl (by omega) (by omega) ?_
        have bx18_ : 0 ≤ S0_.2.2.1 154 0 a1_.toNat ∧ S0_.2.2.1 154 0 a1_.toNat ≤ 12 := hI_.2 154 0 _
        refine sm_T_go 0 (c1 := (90, [some (.inr (.inr (some (13, 0)))), some (.inl a1_), some (.inl a2_)], [.inl (S0_.2.2.1 154 0 a1_.toNat)], sm_pI S0_ 13 0 0 0)) rfl ?_
        refine sm_T_ri rfl ⟨_, _, rfl, _, rfl, hIx15_, hFx16_, ?_⟩
        refine ⟨⟨by omega, by omega⟩, jR_fr hJ_ hIx15_ hFx16_, ?_⟩
        first | exact Or.inl ⟨rf_eq, by (unfold ora_graph; omega)⟩ | exact Or.inr (Or.inl ⟨rf_eq, by (unfold ora_graph; omega), by (unfold okr_graph ora_graph; omega)⟩) | (refine Or.inr (Or.inr ⟨rf_eq, by (unfold okr_graph ora_graph; omega), ?_⟩); unfold var_graph; repeat (first | rfl | assumption | rw [if_pos (by omega)] | rw [if_neg (by omega)]))
      by_cases cx19_ : a2_ = 1
      · refine sm_T_sw (t := 91) rfl rfl (by rw [cx19_]; rfl) ?_
        refine sm_T_go 3 (c1 := (96, [some (.inr (.inr (some (13, 0)))), some (.inl a1_), some (.inl a2_)], [.inl a1_, .inr (.inr (some (155, 0)))], sm_pI S0_ 13 0 0 0)) rfl ?_
        refine sm_T_iald (n := 6) rfl rfl (by omega) (by omega) ?_
        have bx20_ : 0 ≤ S0_.2.2.1 155 0 a1_.toNat ∧ S0_.2.2.1 155 0 a1_.toNat ≤ 6 := hI_.2 155 0 _
        refine sm_T_go 0 (c1 := (97, [some (.inr (.inr (some (13, 0)))), some (.inl a1_), some (.inl a2_)], [.inl (S0_.2.2.1 155 0 a1_.toNat)], sm_pI S0_ 13 0 0 0)) rfl ?_
        refine sm_T_ri rfl ⟨_, _, rfl, _, rfl, hIx15_, hFx16_, ?_⟩
        refine ⟨⟨by omega, by omega⟩, jR_fr hJ_ hIx15_ hFx16_, ?_⟩
        first | exact Or.inl ⟨rf_eq, by (unfold ora_graph; omega)⟩ | exact Or.inr (Or.inl ⟨rf_eq, by (unfold ora_graph; omega), by (unfold okr_graph ora_graph; omega)⟩) | (refine Or.inr (Or.inr ⟨rf_eq, by (unfold okr_graph ora_graph; omega), ?_⟩); unfold var_graph; repeat (first | rfl | assumption | rw [if_pos (by omega)] | rw [if_neg (by omega)]))
      by_cases cx21_ : a2_ = 2
      · refine sm_T_sw (t := 98) rfl rfl (by rw [cx21_]; rfl) ?_
        refine sm_T_go 3 (c1 := (103, [some (.inr (.inr (some (13, 0)))), some (.inl a1_), some (.inl a2_)], [.inl a1_, .inr (.inr (some (156, 0)))], sm_pI S0_ 13 0 0 0)) rfl ?_
        refine sm_T_iald (n := 6) rfl rfl (by omega) (by omega) ?_
        have bx22_ : 0 ≤ S0_.2.2.1 156 0 a1_.toNat ∧ S0_.2.2.1 156 0 a1_.toNat ≤ 16 := hI_.2 156 0 _
        refine sm_T_go 0 (c1 := (104, [some (.inr (.inr (some (13, 0)))), some (.inl a1_), some (.inl a2_)], [.inl (S0_.2.2.1 156 0 a1_.toNat)], sm_pI S0_ 13 0 0 0)) rfl ?_
        refine sm_T_ri rfl ⟨_, _, rfl, _, rfl, hIx15_, hFx16_, ?_⟩
        refine ⟨⟨by omega, by omega⟩, jR_fr hJ_ hIx15_ hFx16_, ?_⟩
        first | exact Or.inl ⟨rf_eq, by (unfold ora_graph; omega)⟩ | exact Or.inr (Or.inl ⟨rf_eq, by (unfold ora_graph; omega), by (unfold okr_graph ora_graph; omega)⟩) | (refine Or.inr (Or.inr ⟨rf_eq, by (unfold okr_graph ora_graph; omega), ?_⟩); unfold var_graph; repeat (first | rfl | assumption | rw [if_pos (by omega)] | rw [if_neg (by omega)]))
      by_cases cx23_ : a2_ = 3
      · refine sm_T_sw (t := 105) rfl rfl (by rw [cx23_]; rfl) ?_
        refine sm_T_go 3 (c1 := (110, [some (.inr (.inr (some (13, 0)))), some (.inl a1_), some (.inl a2_)], [.inl a1_, .inr (.inr (some (159, 0)))], sm_pI S0_ 13 0 0 0)) rfl ?_
        refine sm_T_iald (n := 6) rfl rfl (by omega) (by omega) ?_
        have bx24_ : 0 ≤ S0_.2.2.1 159 0 a1_.toNat ∧ S0_.2.2.1 159 0 a1_.toNat ≤ 1013 := hI_.2 159 0 _
        refine sm_T_go 3 (c1 := (116, [some (.inr (.inr (some (13, 0)))), some (.inl a1_), some (.inl a2_)], [.inl a1_, .inr (.inr (some (160, 0))), .inl (S0_.2.2.1 159 0 a1_.toNat)], sm_pI S0_ 13 0 0 0)) rfl ?_
        refine sm_T_iald (n := 6) rfl rfl (by omega) (by omega) ?_
        have bx25_ : 0 ≤ S0_.2.2.1 160 0 a1_.toNat ∧ S0_.2.2.1 160 0 a1_.toNat ≤ 19 := hI_.2 160 0 _
        refine sm_T_go 0 (c1 := (117, [some (.inr (.inr (some (13, 0)))), some (.inl a1_), some (.inl a2_)], [.inl (S0_.2.2.1 160 0 a1_.toNat), .inl (S0_.2.2.1 159 0 a1_.toNat)], sm_pI S0_ 13 0 0 0)) rfl ?_
        refine sm_T_bin (w := (S0_.2.2.1 159 0 a1_.toNat) - (S0_.2.2.1 160 0 a1_.toNat)) rfl (bi_sub (by omega) (by omega) (by omega)) ?_ -- pc_ 117
        refine sm_T_ri rfl ⟨_, _, rfl, _, rfl, hIx15_, hFx16_, ?_⟩
        refine ⟨⟨by omega, by omega⟩, jR_fr hJ_ hIx15_ hFx16_, ?_⟩
        first | exact Or.inl ⟨rf_eq, by (unfold ora_graph; omega)⟩ | exact Or.inr (Or.inl ⟨rf_eq, by (unfold ora_graph; omega), by (unfold okr_graph ora_graph; omega)⟩) | (refine Or.inr (Or.inr ⟨rf_eq, by (unfold okr_graph ora_graph; omega), ?_⟩); unfold var_graph; repeat (first | rfl | assumption | rw [if_pos (by omega)] | rw [if_neg (by omega)]))
      by_cases cx26_ : a2_ = 4
      · refine sm_T_sw (t := 119) rfl rfl (by rw [cx26_]; rfl) ?_
        refine sm_T_go 3 (c1 := (124, [some (.inr (.inr (some (13, 0)))), some (.inl a1_), some (.inl a2_)], [.inl a1_, .inr (.inr (some (161, 0)))], sm_pI S0_ 13 0 0 0)) rfl ?_
        refine sm_T_iald (n := 6) rfl rfl (by omega) (by omega) ?_
        have bx27_ : 0 ≤ S0_.2.2.1 161 0 a1_.toNat ∧ S0_.2.2.1 161 0 a1_.toNat ≤ 1000 := hI_.2 161 0 _
        refine sm_T_go 0 (c1 := (125, [some (.inr (.inr (some (13, 0)))), some (.inl a1_), some (.inl a2_)], [.inl (S0_.2.2.1 161 0 a1_.toNat)], sm_pI S0_ 13 0 0 0)) rfl ?_
        refine sm_T_ri rfl ⟨_, _, rfl, _, rfl, hIx15_, hFx16_, ?_⟩
        refine ⟨⟨by omega, by omega⟩, jR_fr hJ_ hIx15_ hFx16_, ?_⟩
        first | exact Or.inl ⟨rf_eq, by (unfold ora_graph; omega)⟩ | exact Or.inr (Or.inl ⟨rf_eq, by (unfold ora_graph; omega), by (unfold okr_graph ora_graph; omega)⟩) | (refine Or.inr (Or.inr ⟨rf_eq, by (unfold okr_graph ora_graph; omega), ?_⟩); unfold var_graph; repeat (first | rfl | assumption | rw [if_pos (by omega)] | rw [if_neg (by omega)]))
      by_cases cx28_ : a2_ = 5
      · refine sm_T_sw (t := 126) rfl rfl (by rw [cx28_]; rfl) ?_
        refine sm_T_go 3 (c1 := (131, [some (.inr (.inr (some (13, 0)))), some (.inl a1_), some (.inl a2_)], [.inl a1_, .inr (.inr (some (162, 0)))], sm_pI S0_ 13 0 0 0)) rfl ?_
        refine sm_T_iald (n := 6) rfl rfl (by omega) (by omega) ?_
        have bx29_ : 0 ≤ S0_.2.2.1 162 0 a1_.toNat ∧ S0_.2.2.1 162 0 a1_.toNat ≤ 1000 := hI_.2 162 0 _
        refine sm_T_go 0 (c1 := (132, [some (.inr (.inr (some (13, 0)))), some (.inl a1_), some (.inl a2_)], [.inl (S0_.2.2.1 162 0 a1_.toNat)], sm_pI S0_ 13 0 0 0)) rfl ?_
        refine sm_T_ri rfl ⟨_, _, rfl, _, rfl, hIx15_, hFx16_, ?_⟩
        refine ⟨⟨by omega, by omega⟩, jR_fr hJ_ hIx15_ hFx16_, ?_⟩
        first | exact Or.inl ⟨rf_eq, by (unfold ora_graph; omega)⟩ | exact Or.inr (Or.inl ⟨rf_eq, by (unfold ora_graph; omega), by (unfold okr_graph ora_graph; omega)⟩) | (refine Or.inr (Or.inr ⟨rf_eq, by (unfold okr_graph ora_graph; omega), ?_⟩); unfold var_graph; repeat (first | rfl | assumption | rw [if_pos (by omega)] | rw [if_neg (by omega)]))
      by_cases cx30_ : a2_ = 6
      · refine sm_T_sw (t := 133) rfl rfl (by rw [cx30_]; rfl) ?_
        refine sm_T_go 3 (c1 := (138, [some (.inr (.inr (some (13, 0)))), some (.inl a1_), some (.inl a2_)], [.inl a1_, .inr (.inr (some (163, 0)))], sm_pI S0_ 13 0 0 0)) rfl ?_
        refine sm_T_iald (n := 6) rfl rfl (by omega) (by omega) ?_
        have bx31_ : 0 ≤ S0_.2.2.1 163 0 a1_.toNat ∧ S0_.2.2.1 163 0 a1_.toNat ≤ 64 := hI_.2 163 0 _
        refine sm_T_go 0 (c1 := (139, [some (.inr (.inr (some (13, 0)))), some (.inl a1_), some (.inl a2_)], [.inl (S0_.2.2.1 163 0 a1_.toNat)], sm_pI S0_ 13 0 0 0)) rfl ?_
        refine sm_T_ri rfl ⟨_, _, rfl, _, rfl, hIx15_, hFx16_, ?_⟩
        refine ⟨⟨by omega, by omega⟩, jR_fr hJ_ hIx15_ hFx16_, ?_⟩
        first | exact Or.inl ⟨rf_eq, by (unfold ora_graph; omega)⟩ | exact Or.inr (Or.inl ⟨rf_eq, by (unfold ora_graph; omega), by (unfold okr_graph ora_graph; omega)⟩) | (refine Or.inr (Or.inr ⟨rf_eq, by (unfold okr_graph ora_graph; omega), ?_⟩); unfold var_graph; repeat (first | rfl | assumption | rw [if_pos (by omega)] | rw [if_neg (by omega)]))
      refine sm_T_sw (t := 140) rfl rfl (by (have hh_ : a2_ < 0 ∨ 7 ≤ a2_ := by omega); rcases hh_ with hh_ | hh_; (exact sm_swd (Or.inl hh_)); (exact sm_swd (Or.inr (by simp only [List.length_cons, List.length_nil]; omega)))) ?_
      refine sm_T_go 3 (c1 := (145, [some (.inr (.inr (some (13, 0)))), some (.inl a1_), some (.inl a2_)], [.inl a1_, .inr (.inr (some (157, 0)))], sm_pI S0_ 13 0 0 0)) rfl ?_
      refine sm_T_iald (n := 6) rfl rfl (by omega) (by omega) ?_
      have bx32_ : 0 ≤ S0_.2.2.1 157 0 a1_.toNat ∧ S0_.2.2.1 157 0 a1_.toNat ≤ 63 := hI_.2 157 0 _
      refine sm_T_go 0 (c1 := (146, [some (.inr (.inr (some (13, 0)))), some (.inl a1_), some (.inl a2_)], [.inl (S0_.2.2.1 157 0 a1_.toNat)], sm_pI S0_ 13 0 0 0)) rfl ?_
      refine sm_T_ri rfl ⟨_, _, rfl, _, rfl, hIx15_, hFx16_, ?_⟩
      refine ⟨⟨by omega, by omega⟩, jR_fr hJ_ hIx15_ hFx16_, ?_⟩
      first | exact Or.inl ⟨rf_eq, by (unfold ora_graph; omega)⟩ | exact Or.inr (Or.inl ⟨rf_eq, by (unfold ora_graph; omega), by (unfold okr_graph ora_graph; omega)⟩) | (refine Or.inr (Or.inr ⟨rf_eq, by (unfold okr_graph ora_graph; omega), ?_⟩); unfold var_graph; repeat (first | rfl | assumption | rw [if_pos (by omega)] | rw [if_neg (by omega)]))
    · have cx14_ : ¬ (vx13_ ≠ 0) := of_decide_eq_false cx14_
      have hIx33_ : gi (sm_pI S0_ 13 0 0 2) := gi_pI hI_ (show 0 ≤ 2 ∧ 2 ≤ 4 from ⟨by omega, by omega⟩)
      have hFx34_ : ai_fr (sx_W vw_375t) S0_ (sm_pI S0_ 13 0 0 2) := ai_fr_tr hF_ (ai_fr_pI rfl)
      refine sm_T_go 7 (c1 := (39, [some (.inr (.inr (some (13, 0)))), some (.inl a1_), some (.inl a2_)], [.inl 0], sm_pI S0_ 13 0 0 2)) rfl ?_
      refine sm_T_ri rfl ⟨_, _, rfl, _, rfl, hIx33_, hFx34_, ?_⟩
      refine ⟨⟨by omega, by omega⟩, jR_fr hJ_ hIx33_ hFx34_, ?_⟩
      first | exact Or.inl ⟨rf_eq, by (unfold ora_graph; omega)⟩ | exact Or.inr (Or.inl ⟨rf_eq, by (unfold ora_graph; omega), by (unfold okr_graph ora_graph; omega)⟩) | (refine Or.inr (Or.inr ⟨rf_eq, by (unfold okr_graph ora_graph; omega), ?_⟩); unfold var_graph; repeat (first | rfl | assumption | rw [if_pos (by omega)] | rw [if_neg (by omega)]))
  · have cx7_ : ¬ (vx6_ ≠ 0) := of_decide_eq_false cx7_
    have hIx35_ : gi (sm_pI S0_ 13 0 0 1) := gi_pI hI_ (show 0 ≤ 1 ∧ 1 ≤ 4 from ⟨by omega, by omega⟩)
    have hFx36_ : ai_fr (sx_W vw_375t) S0_ (sm_pI S0_ 13 0 0 1) := ai_fr_tr hF_ (ai_fr_pI rfl)
    refine sm_T_go 7 (c1 := (39, [some (.inr (.inr (some (13, 0)))), some (.inl a1_), some (.inl a2_)], [.inl 0], sm_pI S0_ 13 0 0 1)) rfl ?_
    refine sm_T_ri rfl ⟨_, _, rfl, _, rfl, hIx35_, hFx36_, ?_⟩
    refine ⟨⟨by omega, by omega⟩, jR_fr hJ_ hIx35_ hFx36_, ?_⟩
    first | exact Or.inl ⟨rf_eq, by (unfold ora_graph; omega)⟩ | exact Or.inr (Or.inl ⟨rf_eq, by (unfold ora_graph; omega), by (unfold okr_graph ora_graph; omega)⟩) | (refine Or.inr (Or.inr ⟨rf_eq, by (unfold okr_graph ora_graph; omega), ?_⟩); unfold var_graph; repeat (first | rfl | assumption | rw [if_pos (by omega)] | rw [if_neg (by omega)]))
