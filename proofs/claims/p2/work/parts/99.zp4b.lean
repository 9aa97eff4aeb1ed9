/-! ChipFlow.map -/
def vw_230 : sx_Wl := ([(0, 1), (0, 11), (0, 16), (2, 0), (2, 1), (2, 2), (2, 3), (2, 4), (2, 5), (2, 8), (2, 14), (2, 15), (2, 19), (4, 0), (5, 1), (5, 2), (6, 11), (6, 13), (9, 1), (9, 2), (9, 3)], [16, 17, 18, 19, 20, 21, 34, 35, 36, 37, 38, 39, 55, 56, 57, 58, 59, 60, 61, 62, 63, 64, 65, 66, 67, 68, 69, 70, 71, 72, 73, 92, 93, 94, 96], [(6, 0), (6, 1), (9, 0)])
def vq_230 (aa_ : Int) (lb_ : Int) (S0_ : sm_S) (u_ : Option sm_V) (S1_ : sm_S) : Prop := ∃ v_ : Int, u_ = some (.inl v_) ∧ gi S1_ ∧ ai_fr (sx_W vw_230) S0_ S1_ ∧ (jC S1_)
def vx_230 (aa_ : Int) (lb_ : Int) (S0_ : sm_S) (S1_ : sm_S) : Prop := gi S1_ ∧ ai_fr (sx_W vw_230) S0_ S1_ ∧ (S1_ = S0_)
set_option maxHeartbeats 400000 in
theorem vc_230 {sc_ : Nat × (Nat → Int)} (aa_ : Int) (lb_ : Int) (S0_ : sm_S) (hI_ : gi S0_) (hJ_ : jC S0_) : sm_T (mt_P sc_) 7 230 (0, [some (.inr (.inr (some (12, 0)))), some (.inl aa_), some (.inl lb_), none, none, none, none], [], S0_) (fun ro9_ => (∃ u_ S1_, ro9_ = (.inl u_, S1_, 0) ∧ vq_230 aa_ lb_ S0_ u_ S1_) ∨ ∃ ex_ S1_, ro9_ = (.inr ex_, S1_, 1) ∧ ex_ ∈ ([0, 3] : List Nat) ∧ vx_230 aa_ lb_ S0_ S1_) := by
  have hF_ : ai_fr (sx_W vw_230) S0_ S0_ := ai_fr_rf
  refine sm_T_go 2 (c1 := (2, [some (.inr (.inr (some (12, 0)))), some (.inl aa_), some (.inl lb_), none, none, none, none], [.inl aa_, .inr (.inr (some (12, 0)))], S0_)) rfl ?_
  refine sm_T_cale (d1_ := 1) (Q1_ := vq_270 aa_ S0_) (Q2_ := (fun ex_ S1_ => ex_ ∈ ([0] : List Nat) ∧ vx_270 aa_ S0_ S1_)) rfl rfl (by decide) (vc_270 aa_ S0_ hI_ ) rfl (fun xx6_ Sx1_ px4_ => ?_) (fun u_ Sx1_ px4_ => ?_)
  · obtain ⟨px4m, hIx2_, hFx3_, px4_⟩ := px4_
    refine Or.inr ⟨_, _, rfl, by first | exact px4m | (simp only [List.mem_cons, List.not_mem_nil, or_false] at px4m ⊢; omega), hIx2_, ai_fr_tr hF_ (fr_le hFx3_ rfl), ?_⟩
    first | exact px4_.2 | exact px4_ | rfl
  obtain ⟨rfl, -, -, rfl, px4_⟩ := px4_
  have d1_ := px4_
  have k1_ := hJ_.1 aa_.toNat (by omega) d1_.2
  have b1_ := dOk_b k1_
  have x1_ := b1_.1
  have y1_ := b1_.2.1
  obtain ⟨F9_, hg9_, hr9_, hs9_, -⟩ := hJ_.1 aa_.toNat (by omega) d1_.2
  refine sm_T_go 3 (c1 := (8, [some (.inr (.inr (some (12, 0)))), some (.inl aa_), some (.inl lb_), some (.inr (.inr (some (3, aa_.toNat)))), none, none, none], [.inl lb_, .inr (.inr (some (12, 0)))], S0_)) rfl ?_
  refine sm_T_cale (d1_ := 1) (Q1_ := vq_271 lb_ S0_) (Q2_ := (fun ex_ S1_ => ex_ ∈ ([0] : List Nat) ∧ vx_271 lb_ S0_ S1_)) rfl rfl (by decide) (vc_271 lb_ S0_ hI_ ) rfl (fun xx12_ Sx7_ px10_ => ?_) (fun u_ Sx7_ px10_ => ?_)
  · obtain ⟨px10m, hIx8_, hFx9_, px10_⟩ := px10_
    refine Or.inr ⟨_, _, rfl, by first | exact px10m | (simp only [List.mem_cons, List.not_mem_nil, or_false] at px10m ⊢; omega), hIx8_, ai_fr_tr hF_ (fr_le hFx9_ rfl), ?_⟩
    first | exact px10_.2 | exact px10_ | rfl
  obtain ⟨rfl, -, -, rfl, px10_⟩ := px10_
  have l8_ := px10_
  refine sm_T_go 2 (c1 := (14, [some (.inr (.inr (some (12, 0)))), some (.inl aa_), some (.inl lb_), some (.inr (.inr (some (3, aa_.toNat)))), some (.inr (.inr (some (5, lb_.toNat)))), none, none], [.inr (.inr (some (12, 0)))], S0_)) rfl ?_
  refine sm_T_cal (d1 := 0) (Q1 := vq_275  S0_) rfl rfl (by decide) (vc_275  S0_ hI_ ) (fun u_ Sx13_ px16_ => ?_)
  obtain ⟨rfl, vx18_, rfl, px16_⟩ := px16_
  have f14_ := px16_
  refine sm_T_go 3 (c1 := (22, [some (.inr (.inr (some (12, 0)))), some (.inl aa_), some (.inl lb_), some (.inr (.inr (some (3, aa_.toNat)))), some (.inr (.inr (some (5, lb_.toNat)))), some (.inl vx18_), none], [.inl (-1), .inl vx18_], S0_)) rfl ?_
  refine sm_T_br (a := 0) (z := 7) rfl (fun cx19_ => ?_) (fun cx19_ => ?_)
  · have cx19_ : vx18_ = (-1) := of_decide_eq_true cx19_
    refine sm_T_go 1 (c1 := (30, [some (.inr (.inr (some (12, 0)))), some (.inl aa_), some (.inl lb_), some (.inr (.inr (some (3, aa_.toNat)))), some (.inr (.inr (some (5, lb_.toNat)))), some (.inl vx18_), none], [.inl 0], S0_)) rfl ?_
    refine sm_T_cale (d1_ := 0) (Q1_ := vq_268e 0 S0_) (Q2_ := (fun ex_ S1_ => ex_ ∈ ([3] : List Nat) ∧ vx_268e 0 S0_ S1_)) rfl rfl (by decide) (vc_268e 0 S0_ hI_ ) rfl (fun xx25_ Sx20_ px23_ => ?_) (fun u_ Sx20_ px23_ => ?_)
    · obtain ⟨px23m, hIx21_, hFx22_, px23_⟩ := px23_
      refine Or.inr ⟨_, _, rfl, by first | exact px23m | (simp only [List.mem_cons, List.not_mem_nil, or_false] at px23m ⊢; omega), hIx21_, ai_fr_tr hF_ (fr_le hFx22_ rfl), ?_⟩
      first | exact px23_.2 | exact px23_ | rfl
    · exact absurd rfl px23_.2.2.2.1
  · have cx19_ : ¬ (vx18_ = (-1)) := of_decide_eq_false cx19_
    refine sm_T_go 2 (c1 := (30, [some (.inr (.inr (some (12, 0)))), some (.inl aa_), some (.inl lb_), some (.inr (.inr (some (3, aa_.toNat)))), some (.inr (.inr (some (5, lb_.toNat)))), some (.inl vx18_), none], [.inl 1], S0_)) rfl ?_
    refine sm_T_cale (d1_ := 0) (Q1_ := vq_268e 1 S0_) (Q2_ := (fun ex_ S1_ => ex_ ∈ ([3] : List Nat) ∧ vx_268e 1 S0_ S1_)) rfl rfl (by decide) (vc_268e 1 S0_ hI_ ) rfl (fun xx31_ Sx26_ px29_ => ?_) (fun u_ Sx26_ px29_ => ?_)
    · exact absurd px29_.2.2.2.1 (by decide)
    obtain ⟨rfl, -, -, px29_, rfl⟩ := px29_
    refine sm_T_go 7 (c1 := (46, [some (.inr (.inr (some (12, 0)))), some (.inl aa_), some (.inl lb_), some (.inr (.inr (some (3, aa_.toNat)))), some (.inr (.inr (some (5, lb_.toNat)))), some (.inl vx18_), none], [.inl vx18_, .inr (.inr (some (112, 0))), .inr (.inr (some (5, lb_.toNat))), .inr (.inr (some (3, aa_.toNat))), .inr (.inr (some (6, 0)))], S0_)) rfl ?_
    refine sm_T_aald (t0 := 6) (n := 4) rfl rfl (by omega) (by omega) ?_
    refine sm_T_cal (d1 := 6) (Q1 := vq_91 aa_.toNat lb_.toNat vx18_.toNat F9_ S0_) rfl rfl (by decide) (vc_91 aa_.toNat lb_.toNat vx18_.toNat F9_ S0_ hI_ (by exact k1_) (by exact hg9_) (by exact hr9_) (by exact hs9_) (by omega)) (fun u_ Sx32_ px35_ => ?_)
    obtain ⟨vx37_, rfl, hIx33_, hFx34_, px35_⟩ := px35_
    have hFx36_ : ai_fr (sx_W vw_230) S0_ Sx32_ := ai_fr_tr hF_ (fr_le hFx34_ rfl)
    obtain ⟨dx38_, px35_⟩ := px35_
    have c47_ := dx38_
    have p47_ := px35_
    have u47_ := fun q9_ => hFx34_.1 2 q9_ 0 rfl
    refine sm_T_go 2 (c1 := (54, [some (.inr (.inr (some (12, 0)))), some (.inl aa_), some (.inl lb_), some (.inr (.inr (some (3, aa_.toNat)))), some (.inr (.inr (some (5, lb_.toNat)))), some (.inl vx18_), some (.inl vx37_)], [.inl vx37_], Sx32_)) rfl ?_
    refine sm_T_b0 (a := 0) (z := 6) rfl (fun cx39_ => ?_) (fun cx39_ => ?_)
    · have cx39_ : vx37_ = 0 := of_decide_eq_true cx39_
      have p46_ := p47_.resolve_right (by omega)
      have e1_ := p46_.2.1.1
      have e2_ := p46_.2.1.2.1
      refine sm_T_go 5 (c1 := (70, [some (.inr (.inr (some (12, 0)))), some (.inl aa_), some (.inl lb_), some (.inr (.inr (some (3, aa_.toNat)))), some (.inr (.inr (some (5, lb_.toNat)))), some (.inl vx18_), some (.inl vx37_)], [.inl vx18_, .inr (.inr (some (112, 0))), .inr (.inr (some (9, 0)))], Sx32_)) rfl ?_
      refine sm_T_aald (t0 := 6) (n := 4) rfl rfl (by omega) (by omega) ?_
      refine sm_T_cal (d1 := 4) (Q1 := vq_169 vx18_.toNat Sx32_) rfl rfl (by decide) (vc_169 vx18_.toNat Sx32_ hIx33_ (by omega)) (fun u_ Sx40_ px43_ => ?_)
      obtain ⟨rfl, hIx41_, hFx42_, px43_⟩ := px43_
      have hFx44_ : ai_fr (sx_W vw_230) S0_ Sx40_ := ai_fr_tr hFx36_ (fr_le hFx42_ rfl)
      obtain ⟨dx45_, px43_⟩ := px43_
      have c71_ := dx45_
      have p71_ := px43_
      have g71_ := hFx42_
      refine sm_T_go 3 (c1 := (80, [some (.inr (.inr (some (12, 0)))), some (.inl aa_), some (.inl lb_), some (.inr (.inr (some (3, aa_.toNat)))), some (.inr (.inr (some (5, lb_.toNat)))), some (.inl vx18_), some (.inl vx37_)], [.inl vx18_, .inr (.inr (some (112, 0)))], Sx40_)) rfl ?_
      refine sm_T_aald (t0 := 6) (n := 4) rfl rfl (by omega) (by omega) ?_
      have hIx46_ : gi (sm_pI Sx40_ 2 vx18_.toNat 0 1) := gi_pI hIx41_ (show 0 ≤ 1 ∧ 1 ≤ 1 from ⟨by omega, by omega⟩)
      have hFx47_ : ai_fr (sx_W vw_230) S0_ (sm_pI Sx40_ 2 vx18_.toNat 0 1) := ai_fr_tr hFx44_ (ai_fr_pI rfl)
      refine sm_T_go 3 (c1 := (87, [some (.inr (.inr (some (12, 0)))), some (.inl aa_), some (.inl lb_), some (.inr (.inr (some (3, aa_.toNat)))), some (.inr (.inr (some (5, lb_.toNat)))), some (.inl vx18_), some (.inl vx37_)], [.inl vx18_], sm_pI Sx40_ 2 vx18_.toNat 0 1)) rfl ?_
      refine sm_T_ri rfl (Or.inl ⟨_, _, rfl, _, rfl, hIx46_, hFx47_, ?_⟩)
      exact ⟨dAll_fr hJ_.1 hFx47_ (by decide) (by decide), cAll_cd hJ_.2.1 (cdf_pI (cdf_tr c47_ c71_) (Or.inr (by rw [cof_0 (by decide) (by decide)]; omega))) (fun _ => cOk_us (cOk_nw k1_ p46_.2.1 p46_.2.2.1 p46_.2.2.2.1 p46_.2.2.2.2.1 p46_.2.2.2.2.2.1 g71_ (by decide) (by decide) (by decide) p71_)), tpo_fr hJ_.2.2.1 hFx47_, shn_fr hJ_.2.2.2 hFx47_⟩
    · have cx39_ : ¬ (vx37_ = 0) := of_decide_eq_false cx39_
      refine sm_T_go 1 (c1 := (59, [some (.inr (.inr (some (12, 0)))), some (.inl aa_), some (.inl lb_), some (.inr (.inr (some (3, aa_.toNat)))), some (.inr (.inr (some (5, lb_.toNat)))), some (.inl vx18_), some (.inl vx37_)], [.inl vx37_], Sx32_)) rfl ?_
      refine sm_T_ri rfl (Or.inl ⟨_, _, rfl, _, rfl, hIx33_, hFx36_, ?_⟩)
      exact ⟨dAll_fr hJ_.1 hFx36_ (by decide) (by decide), cAll_cd hJ_.2.1 c47_ (fun q9_ => by (exfalso; rw [u47_] at q9_; omega)), tpo_fr hJ_.2.2.1 hFx36_, shn_fr hJ_.2.2.2 hFx36_⟩
