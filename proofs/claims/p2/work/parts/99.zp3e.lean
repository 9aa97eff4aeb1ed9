/-! ChipFlow.never -/
def vw_228 : sx_Wl := ([(12, 16)], [113, 114, 115, 117], [])
def vq_228 (bb_ : Int) (k_ : Int) (S0_ : sm_S) (u_ : Option sm_V) (S1_ : sm_S) : Prop := ∃ v_ : Int, u_ = some (.inl v_) ∧ gi S1_ ∧ ai_fr (sx_W vw_228) S0_ S1_ ∧ (jC S1_)
def vx_228 (bb_ : Int) (k_ : Int) (S0_ : sm_S) (S1_ : sm_S) : Prop := gi S1_ ∧ ai_fr (sx_W vw_228) S0_ S1_ ∧ (S1_ = S0_)
set_option maxHeartbeats 400000 in
theorem vc_228 {sc_ : Nat × (Nat → Int)} (bb_ : Int) (k_ : Int) (S0_ : sm_S) (hI_ : gi S0_) (hJ_ : jC S0_) : sm_T (mt_P sc_) 2 228 (0, [some (.inr (.inr (some (12, 0)))), some (.inl bb_), some (.inl k_), none], [], S0_) (fun ro9_ => (∃ u_ S1_, ro9_ = (.inl u_, S1_, 0) ∧ vq_228 bb_ k_ S0_ u_ S1_) ∨ ∃ ex_ S1_, ro9_ = (.inr ex_, S1_, 1) ∧ ex_ ∈ ([0] : List Nat) ∧ vx_228 bb_ k_ S0_ S1_) := by
  have hF_ : ai_fr (sx_W vw_228) S0_ S0_ := ai_fr_rf
  refine sm_T_go 2 (c1 := (2, [some (.inr (.inr (some (12, 0)))), some (.inl bb_), some (.inl k_), none], [.inl bb_, .inr (.inr (some (12, 0)))], S0_)) rfl ?_
  refine sm_T_cale (d1_ := 1) (Q1_ := vq_270 bb_ S0_) (Q2_ := (fun ex_ S1_ => ex_ ∈ ([0] : List Nat) ∧ vx_270 bb_ S0_ S1_)) rfl rfl (by decide) (vc_270 bb_ S0_ hI_ ) rfl (fun xx6_ Sx1_ px4_ => ?_) (fun u_ Sx1_ px4_ => ?_)
  · obtain ⟨px4m, hIx2_, hFx3_, px4_⟩ := px4_
    refine Or.inr ⟨_, _, rfl, by first | exact px4m | (simp only [List.mem_cons, List.not_mem_nil, or_false] at px4m ⊢; omega), hIx2_, ai_fr_tr hF_ (fr_le hFx3_ rfl), ?_⟩
    first | exact px4_.2 | exact px4_ | rfl
  obtain ⟨rfl, -, -, rfl, px4_⟩ := px4_
  have d2_ := px4_
  have k2_ := hJ_.1 bb_.toNat (by omega) d2_.2
  have b2_ := dOk_b k2_
  have x2_ := b2_.1
  have y2_ := b2_.2.1
  refine sm_T_go 2 (c1 := (7, [some (.inr (.inr (some (12, 0)))), some (.inl bb_), some (.inl k_), some (.inr (.inr (some (3, bb_.toNat))))], [.inl k_], S0_)) rfl ?_
  refine sm_T_b0 (a := 2) (z := 15) rfl (fun cx7_ => ?_) (fun cx7_ => ?_)
  · have cx7_ : k_ < 0 := of_decide_eq_true cx7_
    refine sm_T_go 1 (c1 := (23, [some (.inr (.inr (some (12, 0)))), some (.inl bb_), some (.inl k_), some (.inr (.inr (some (3, bb_.toNat))))], [.inl 0], S0_)) rfl ?_
    refine sm_T_cale (d1_ := 0) (Q1_ := vq_265e 0 S0_) (Q2_ := (fun ex_ S1_ => ex_ ∈ ([0] : List Nat) ∧ vx_265e 0 S0_ S1_)) rfl rfl (by decide) (vc_265e 0 S0_ hI_ ) rfl (fun xx13_ Sx8_ px11_ => ?_) (fun u_ Sx8_ px11_ => ?_)
    · obtain ⟨px11m, hIx9_, hFx10_, px11_⟩ := px11_
      refine Or.inr ⟨_, _, rfl, by first | exact px11m | (simp only [List.mem_cons, List.not_mem_nil, or_false] at px11m ⊢; omega), hIx9_, ai_fr_tr hF_ (fr_le hFx10_ rfl), ?_⟩
      first | exact px11_.2 | exact px11_ | rfl
    · exact absurd rfl px11_.2.2.2.1
  · have cx7_ : ¬ (k_ < 0) := of_decide_eq_false cx7_
    have bx14_ : 0 ≤ S0_.1 3 bb_.toNat 3 ∧ S0_.1 3 bb_.toNat 3 ≤ 320 := hI_.1 3 bb_.toNat 3 rfl
    refine sm_T_go 3 (c1 := (15, [some (.inr (.inr (some (12, 0)))), some (.inl bb_), some (.inl k_), some (.inr (.inr (some (3, bb_.toNat))))], [.inl (S0_.1 3 bb_.toNat 3), .inl k_], S0_)) rfl ?_
    refine sm_T_br (a := 3) (z := 7) rfl (fun cx15_ => ?_) (fun cx15_ => ?_)
    · have cx15_ : (S0_.1 3 bb_.toNat 3) ≤ k_ := of_decide_eq_true cx15_
      refine sm_T_go 1 (c1 := (23, [some (.inr (.inr (some (12, 0)))), some (.inl bb_), some (.inl k_), some (.inr (.inr (some (3, bb_.toNat))))], [.inl 0], S0_)) rfl ?_
      refine sm_T_cale (d1_ := 0) (Q1_ := vq_265e 0 S0_) (Q2_ := (fun ex_ S1_ => ex_ ∈ ([0] : List Nat) ∧ vx_265e 0 S0_ S1_)) rfl rfl (by decide) (vc_265e 0 S0_ hI_ ) rfl (fun xx21_ Sx16_ px19_ => ?_) (fun u_ Sx16_ px19_ => ?_)
      · obtain ⟨px19m, hIx17_, hFx18_, px19_⟩ := px19_
        refine Or.inr ⟨_, _, rfl, by first | exact px19m | (simp only [List.mem_cons, List.not_mem_nil, or_false] at px19m ⊢; omega), hIx17_, ai_fr_tr hF_ (fr_le hFx18_ rfl), ?_⟩
        first | exact px19_.2 | exact px19_ | rfl
      · exact absurd rfl px19_.2.2.2.1
    · have cx15_ : ¬ ((S0_.1 3 bb_.toNat 3) ≤ k_) := of_decide_eq_false cx15_
      refine sm_T_go 2 (c1 := (23, [some (.inr (.inr (some (12, 0)))), some (.inl bb_), some (.inl k_), some (.inr (.inr (some (3, bb_.toNat))))], [.inl 1], S0_)) rfl ?_
      refine sm_T_cale (d1_ := 0) (Q1_ := vq_265e 1 S0_) (Q2_ := (fun ex_ S1_ => ex_ ∈ ([0] : List Nat) ∧ vx_265e 1 S0_ S1_)) rfl rfl (by decide) (vc_265e 1 S0_ hI_ ) rfl (fun xx27_ Sx22_ px25_ => ?_) (fun u_ Sx22_ px25_ => ?_)
      · exact absurd px25_.2.2.2.1 (by decide)
      obtain ⟨rfl, -, -, px25_, rfl⟩ := px25_
      refine sm_T_go 7 (c1 := (35, [some (.inr (.inr (some (12, 0)))), some (.inl bb_), some (.inl k_), some (.inr (.inr (some (3, bb_.toNat))))], [.inl k_, .inl 1, .inr (.inr (some (3, bb_.toNat))), .inl 0, .inr (.inr (some (116, 0))), .inr (.inr (some (12, 0)))], S0_)) rfl ?_
      refine sm_T_bin (w := (i_shl 1 k_)) rfl rfl ?_ -- pc_ 35
      have bx28_ := i_shl1 (e := k_) (by omega) (by omega)
      refine sm_T_cal (d1 := 1) (Q1 := vq_276s 0 (i_shl 1 k_) bb_.toNat 0 S0_) rfl rfl (by decide) (vc_276s 0 (i_shl 1 k_) bb_.toNat 0 S0_ hI_ (by exact k2_) (by decide) (by omega) (by (intro p9_ _; have z9_ := hI_.2 116 0 p9_; exact ⟨z9_.1, by have z8_ := z9_.2; exact Int.lt_of_le_of_lt z8_ (by decide)⟩))) (fun u_ Sx29_ px32_ => ?_)
      obtain ⟨vx34_, rfl, hIx30_, hFx31_, px32_⟩ := px32_
      have hFx33_ : ai_fr (sx_W vw_228) S0_ Sx29_ := ai_fr_tr hF_ (fr_le hFx31_ rfl)
      have ex35_ : Sx29_.1 3 bb_.toNat 3 = S0_.1 3 bb_.toNat 3 := hFx31_.1 3 bb_.toNat 3 rfl
      refine sm_T_ri rfl (Or.inl ⟨_, _, rfl, _, rfl, hIx30_, hFx33_, ?_⟩)
      exact jC_fr hJ_ hFx33_ (by decide) (by decide) (by decide) (by decide) (by decide) rfl rfl rfl rfl rfl rfl
