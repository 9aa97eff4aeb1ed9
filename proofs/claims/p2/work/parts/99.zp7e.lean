/-! ChipFlow.fails -/
def vw_262 : sx_Wl := ([], [41], [])
def vq_262 (kk_ : Int) (k_ : Int) (is_ : Int) (S0_ : sm_S) (u_ : Option sm_V) (S1_ : sm_S) : Prop := ∃ v_ : Int, u_ = some (.inl v_) ∧ gi S1_ ∧ ai_fr (sx_W vw_262) S0_ S1_ ∧ (jC S1_)
def vx_262 (kk_ : Int) (k_ : Int) (is_ : Int) (S0_ : sm_S) (S1_ : sm_S) : Prop := gi S1_ ∧ ai_fr (sx_W vw_262) S0_ S1_ ∧ (S1_ = S0_)
set_option maxHeartbeats 400000 in
theorem vc_262 {sc_ : Nat × (Nat → Int)} (kk_ : Int) (k_ : Int) (is_ : Int) (S0_ : sm_S) (hI_ : gi S0_) (hJ_ : jC S0_) : sm_T (mt_P sc_) 2 262 (0, [some (.inr (.inr (some (12, 0)))), some (.inl kk_), some (.inl k_), some (.inl is_), none, none], [], S0_) (fun ro9_ => (∃ u_ S1_, ro9_ = (.inl u_, S1_, 0) ∧ vq_262 kk_ k_ is_ S0_ u_ S1_) ∨ ∃ ex_ S1_, ro9_ = (.inr ex_, S1_, 1) ∧ ex_ ∈ ([0, 2] : List Nat) ∧ vx_262 kk_ k_ is_ S0_ S1_) := by
  have hF_ : ai_fr (sx_W vw_262) S0_ S0_ := ai_fr_rf
  refine sm_T_go 2 (c1 := (2, [some (.inr (.inr (some (12, 0)))), some (.inl kk_), some (.inl k_), some (.inl is_), none, none], [.inl kk_, .inr (.inr (some (12, 0)))], S0_)) rfl ?_
  refine sm_T_cale (d1_ := 1) (Q1_ := vq_272 kk_ S0_) (Q2_ := (fun ex_ S1_ => ex_ ∈ ([0] : List Nat) ∧ vx_272 kk_ S0_ S1_)) rfl rfl (by decide) (vc_272 kk_ S0_ hI_ ) rfl (fun xx6_ Sx1_ px4_ => ?_) (fun u_ Sx1_ px4_ => ?_)
  · obtain ⟨px4m, hIx2_, hFx3_, px4_⟩ := px4_
    refine Or.inr ⟨_, _, rfl, by first | exact px4m | (simp only [List.mem_cons, List.not_mem_nil, or_false] at px4m ⊢; omega), hIx2_, ai_fr_tr hF_ (fr_le hFx3_ rfl), ?_⟩
    first | exact px4_.2 | exact px4_ | rfl
  obtain ⟨rfl, -, -, rfl, px4_⟩ := px4_
  have a9_ := px4_
  have J9_ := hJ_.2.1 kk_.toNat (by omega) a9_.2
  have J1_ := J9_.1
  have q9_ := a9_.2
  have c8_ : 0 ≤ S0_.1 2 (kk_.toNat) 8 ∧ S0_.1 2 (kk_.toNat) 8 ≤ 150 := hI_.1 2 (kk_.toNat) 8 rfl
  have c1_ : 0 ≤ S0_.1 2 (kk_.toNat) 1 ∧ S0_.1 2 (kk_.toNat) 1 ≤ 12 := hI_.1 2 (kk_.toNat) 1 rfl
  have c2_ : 0 ≤ S0_.1 2 (kk_.toNat) 2 ∧ S0_.1 2 (kk_.toNat) 2 ≤ 6 := hI_.1 2 (kk_.toNat) 2 rfl
  refine sm_T_go 3 (c1 := (10, [some (.inr (.inr (some (12, 0)))), some (.inl kk_), some (.inl k_), some (.inl is_), some (.inr (.inr (some (2, kk_.toNat)))), none], [.inl k_, .inr (.inr (some (2, kk_.toNat)))], S0_)) rfl ?_
  refine sm_T_cale (d1_ := 1) (Q1_ := vq_269 k_ kk_.toNat S0_) (Q2_ := (fun ex_ S1_ => ex_ ∈ ([0, 2] : List Nat) ∧ vx_269 k_ kk_.toNat S0_ S1_)) rfl rfl (by decide) (vc_269 k_ kk_.toNat S0_ hI_ ) rfl (fun xx12_ Sx7_ px10_ => ?_) (fun u_ Sx7_ px10_ => ?_)
  · obtain ⟨px10m, hIx8_, hFx9_, px10_⟩ := px10_
    refine Or.inr ⟨_, _, rfl, by first | exact px10m | (simp only [List.mem_cons, List.not_mem_nil, or_false] at px10m ⊢; omega), hIx8_, ai_fr_tr hF_ (fr_le hFx9_ rfl), ?_⟩
    first | exact px10_.2 | exact px10_ | rfl
  obtain ⟨rfl, -, -, rfl, px10_⟩ := px10_
  have n10_ := px10_
  have c15_ : (-1) ≤ S0_.1 2 (kk_.toNat) 15 ∧ S0_.1 2 (kk_.toNat) 15 ≤ 1224 := hI_.1 2 (kk_.toNat) 15 rfl
  refine sm_T_go 3 (c1 := (19, [some (.inr (.inr (some (12, 0)))), some (.inl kk_), some (.inl k_), some (.inl is_), some (.inr (.inr (some (2, kk_.toNat)))), none], [.inl k_, .inr (.inr (some (41, (0 + kk_.toNat))))], S0_)) rfl ?_
  refine sm_T_iald (n := 1224) rfl rfl (by omega) (by omega) ?_
  have bx13_ : 0 ≤ S0_.2.2.1 41 (0 + kk_.toNat) k_.toNat ∧ S0_.2.2.1 41 (0 + kk_.toNat) k_.toNat ≤ 1 := hI_.2 41 (0 + kk_.toNat) _
  refine sm_T_b0 (a := 0) (z := 7) rfl (fun cx14_ => ?_) (fun cx14_ => ?_)
  · have cx14_ : (S0_.2.2.1 41 (0 + kk_.toNat) k_.toNat) = 0 := of_decide_eq_true cx14_
    refine sm_T_go 6 (c1 := (37, [some (.inr (.inr (some (12, 0)))), some (.inl kk_), some (.inl k_), some (.inl is_), some (.inr (.inr (some (2, kk_.toNat)))), some (.inl 0)], [.inl is_, .inl k_, .inr (.inr (some (41, (0 + kk_.toNat))))], S0_)) rfl ?_
    refine sm_T_b0 (a := 0) (z := 7) rfl (fun cx15_ => ?_) (fun cx15_ => ?_)
    · have cx15_ : is_ = 0 := of_decide_eq_true cx15_
      refine sm_T_go 1 (c1 := (45, [some (.inr (.inr (some (12, 0)))), some (.inl kk_), some (.inl k_), some (.inl is_), some (.inr (.inr (some (2, kk_.toNat)))), some (.inl 0)], [.inl 0, .inl k_, .inr (.inr (some (41, (0 + kk_.toNat))))], S0_)) rfl ?_
      refine sm_T_iast (n := 1224) rfl rfl (by omega) (by omega) ?_
      have hIx16_ : gi (sm_aI S0_ 41 (0 + kk_.toNat) k_.toNat 0) := gi_aI hI_ (show 0 ≤ 0 ∧ 0 ≤ 1 from ⟨by omega, by omega⟩)
      have hFx17_ : ai_fr (sx_W vw_262) S0_ (sm_aI S0_ 41 (0 + kk_.toNat) k_.toNat 0) := ai_fr_tr hF_ (ai_fr_aI rfl)
      refine sm_T_go 1 (c1 := (48, [some (.inr (.inr (some (12, 0)))), some (.inl kk_), some (.inl k_), some (.inl is_), some (.inr (.inr (some (2, kk_.toNat)))), some (.inl 0)], [.inl 0], sm_aI S0_ 41 (0 + kk_.toNat) k_.toNat 0)) rfl ?_
      refine sm_T_rz rfl (by omega) (Or.inl ⟨_, _, rfl, _, rfl, hIx16_, hFx17_, ?_⟩)
      exact jC_fr hJ_ hFx17_ (by decide) (by decide) (by decide) (by decide) (by decide) rfl rfl rfl rfl rfl rfl
    · have cx15_ : ¬ (is_ = 0) := of_decide_eq_false cx15_
      refine sm_T_go 2 (c1 := (45, [some (.inr (.inr (some (12, 0)))), some (.inl kk_), some (.inl k_), some (.inl is_), some (.inr (.inr (some (2, kk_.toNat)))), some (.inl 0)], [.inl 1, .inl k_, .inr (.inr (some (41, (0 + kk_.toNat))))], S0_)) rfl ?_
      refine sm_T_iast (n := 1224) rfl rfl (by omega) (by omega) ?_
      have hIx18_ : gi (sm_aI S0_ 41 (0 + kk_.toNat) k_.toNat 1) := gi_aI hI_ (show 0 ≤ 1 ∧ 1 ≤ 1 from ⟨by omega, by omega⟩)
      have hFx19_ : ai_fr (sx_W vw_262) S0_ (sm_aI S0_ 41 (0 + kk_.toNat) k_.toNat 1) := ai_fr_tr hF_ (ai_fr_aI rfl)
      refine sm_T_go 1 (c1 := (48, [some (.inr (.inr (some (12, 0)))), some (.inl kk_), some (.inl k_), some (.inl is_), some (.inr (.inr (some (2, kk_.toNat)))), some (.inl 0)], [.inl 0], sm_aI S0_ 41 (0 + kk_.toNat) k_.toNat 1)) rfl ?_
      refine sm_T_rz rfl (by omega) (Or.inl ⟨_, _, rfl, _, rfl, hIx18_, hFx19_, ?_⟩)
      exact jC_fr hJ_ hFx19_ (by decide) (by decide) (by decide) (by decide) (by decide) rfl rfl rfl rfl rfl rfl
  · have cx14_ : ¬ ((S0_.2.2.1 41 (0 + kk_.toNat) k_.toNat) = 0) := of_decide_eq_false cx14_
    refine sm_T_go 7 (c1 := (37, [some (.inr (.inr (some (12, 0)))), some (.inl kk_), some (.inl k_), some (.inl is_), some (.inr (.inr (some (2, kk_.toNat)))), some (.inl 1)], [.inl is_, .inl k_, .inr (.inr (some (41, (0 + kk_.toNat))))], S0_)) rfl ?_
    refine sm_T_b0 (a := 0) (z := 7) rfl (fun cx20_ => ?_) (fun cx20_ => ?_)
    · have cx20_ : is_ = 0 := of_decide_eq_true cx20_
      refine sm_T_go 1 (c1 := (45, [some (.inr (.inr (some (12, 0)))), some (.inl kk_), some (.inl k_), some (.inl is_), some (.inr (.inr (some (2, kk_.toNat)))), some (.inl 1)], [.inl 0, .inl k_, .inr (.inr (some (41, (0 + kk_.toNat))))], S0_)) rfl ?_
      refine sm_T_iast (n := 1224) rfl rfl (by omega) (by omega) ?_
      have hIx21_ : gi (sm_aI S0_ 41 (0 + kk_.toNat) k_.toNat 0) := gi_aI hI_ (show 0 ≤ 0 ∧ 0 ≤ 1 from ⟨by omega, by omega⟩)
      have hFx22_ : ai_fr (sx_W vw_262) S0_ (sm_aI S0_ 41 (0 + kk_.toNat) k_.toNat 0) := ai_fr_tr hF_ (ai_fr_aI rfl)
      refine sm_T_go 1 (c1 := (48, [some (.inr (.inr (some (12, 0)))), some (.inl kk_), some (.inl k_), some (.inl is_), some (.inr (.inr (some (2, kk_.toNat)))), some (.inl 1)], [.inl 1], sm_aI S0_ 41 (0 + kk_.toNat) k_.toNat 0)) rfl ?_
      refine sm_T_rz rfl (by omega) (Or.inl ⟨_, _, rfl, _, rfl, hIx21_, hFx22_, ?_⟩)
      exact jC_fr hJ_ hFx22_ (by decide) (by decide) (by decide) (by decide) (by decide) rfl rfl rfl rfl rfl rfl
    · have cx20_ : ¬ (is_ = 0) := of_decide_eq_false cx20_
      refine sm_T_go 2 (c1 := (45, [some (.inr (.inr (some (12, 0)))), some (.inl kk_), some (.inl k_), some (.inl is_), some (.inr (.inr (some (2, kk_.toNat)))), some (.inl 1)], [.inl 1, .inl k_, .inr (.inr (some (41, (0 + kk_.toNat))))], S0_)) rfl ?_
      refine sm_T_iast (n := 1224) rfl rfl (by omega) (by omega) ?_
      have hIx23_ : gi (sm_aI S0_ 41 (0 + kk_.toNat) k_.toNat 1) := gi_aI hI_ (show 0 ≤ 1 ∧ 1 ≤ 1 from ⟨by omega, by omega⟩)
      have hFx24_ : ai_fr (sx_W vw_262) S0_ (sm_aI S0_ 41 (0 + kk_.toNat) k_.toNat 1) := ai_fr_tr hF_ (ai_fr_aI rfl)
      refine sm_T_go 1 (c1 := (48, [some (.inr (.inr (some (12, 0)))), some (.inl kk_), some (.inl k_), some (.inl is_), some (.inr (.inr (some (2, kk_.toNat)))), some (.inl 1)], [.inl 1], sm_aI S0_ 41 (0 + kk_.toNat) k_.toNat 1)) rfl ?_
      refine sm_T_rz rfl (by omega) (Or.inl ⟨_, _, rfl, _, rfl, hIx23_, hFx24_, ?_⟩)
      exact jC_fr hJ_ hFx24_ (by decide) (by decide) (by decide) (by decide) (by decide) rfl rfl rfl rfl rfl rfl
