/-! ChipFlow.test -/
def vw_258 : sx_Wl := ([(9, 1), (9, 2), (9, 3)], [92, 93, 94, 95, 96], [(9, 0)])
def vq_258 (kk_ : Int) (f_ : Int) (S0_ : sm_S) (u_ : Option sm_V) (S1_ : sm_S) : Prop := ∃ v_ : Int, u_ = some (.inl v_) ∧ gi S1_ ∧ ai_fr (sx_W vw_258) S0_ S1_ ∧ (jC S1_)
def vx_258 (kk_ : Int) (f_ : Int) (S0_ : sm_S) (S1_ : sm_S) : Prop := gi S1_ ∧ ai_fr (sx_W vw_258) S0_ S1_ ∧ (S1_ = S0_)
set_option maxHeartbeats 400000 in
theorem vc_258 {sc_ : Nat × (Nat → Int)} (kk_ : Int) (f_ : Int) (S0_ : sm_S) (hI_ : gi S0_) (hJ_ : jC S0_) : sm_T (mt_P sc_) 6 258 (0, [some (.inr (.inr (some (12, 0)))), some (.inl kk_), some (.inl f_), none], [], S0_) (fun ro9_ => (∃ u_ S1_, ro9_ = (.inl u_, S1_, 0) ∧ vq_258 kk_ f_ S0_ u_ S1_) ∨ ∃ ex_ S1_, ro9_ = (.inr ex_, S1_, 1) ∧ ex_ ∈ ([0] : List Nat) ∧ vx_258 kk_ f_ S0_ S1_) := by
  have hF_ : ai_fr (sx_W vw_258) S0_ S0_ := ai_fr_rf
  refine sm_T_go 2 (c1 := (2, [some (.inr (.inr (some (12, 0)))), some (.inl kk_), some (.inl f_), none], [.inl kk_, .inr (.inr (some (12, 0)))], S0_)) rfl ?_
  refine sm_T_cale (d1_ := 1) (Q1_ := vq_272 kk_ S0_) (Q2_ := (fun ex_ S1_ => ex_ ∈ ([0] : List Nat) ∧ vx_272 kk_ S0_ S1_)) rfl rfl (by decide) (vc_272 kk_ S0_ hI_ ) rfl (fun xx6_ Sx1_ px4_ => ?_) (fun u_ Sx1_ px4_ => ?_)
  · obtain ⟨px4m, hIx2_, hFx3_, px4_⟩ := px4_
    refine Or.inr ⟨_, _, rfl, by first | exact px4m | (simp only [List.mem_cons, List.not_mem_nil, or_false] at px4m ⊢; omega), hIx2_, ai_fr_tr hF_ (fr_le hFx3_ rfl), ?_⟩
    first | exact px4_.2 | exact px4_ | rfl
  obtain ⟨rfl, -, -, rfl, px4_⟩ := px4_
  have a9_ := px4_
  have J9_ := hJ_.2.1 kk_.toNat (by omega) a9_.2
  have J1_ := J9_.1
  have q9_ := a9_.2
  have c8_ : 0 ≤ S0_.1 2 (kk_.toNat) 8 ∧ S0_.1 2 (kk_.toNat) 8 ≤ 150 := hI_.1 2 (kk_.toNat) 8 rfl
  have c1_ : 0 ≤ S0_.1 2 (kk_.toNat) 1 ∧ S0_.1 2 (kk_.toNat) 1 ≤ 12 := hI_.1 2 (kk_.toNat) 1 rfl
  have c2_ : 0 ≤ S0_.1 2 (kk_.toNat) 2 ∧ S0_.1 2 (kk_.toNat) 2 ≤ 6 := hI_.1 2 (kk_.toNat) 2 rfl
  refine sm_T_go 2 (c1 := (7, [some (.inr (.inr (some (12, 0)))), some (.inl kk_), some (.inl f_), some (.inr (.inr (some (2, kk_.toNat))))], [.inl f_], S0_)) rfl ?_
  refine sm_T_b0 (a := 2) (z := 15) rfl (fun cx7_ => ?_) (fun cx7_ => ?_)
  · have cx7_ : f_ < 0 := of_decide_eq_true cx7_
    refine sm_T_go 1 (c1 := (23, [some (.inr (.inr (some (12, 0)))), some (.inl kk_), some (.inl f_), some (.inr (.inr (some (2, kk_.toNat))))], [.inl 0], S0_)) rfl ?_
    refine sm_T_cale (d1_ := 0) (Q1_ := vq_265e 0 S0_) (Q2_ := (fun ex_ S1_ => ex_ ∈ ([0] : List Nat) ∧ vx_265e 0 S0_ S1_)) rfl rfl (by decide) (vc_265e 0 S0_ hI_ ) rfl (fun xx13_ Sx8_ px11_ => ?_) (fun u_ Sx8_ px11_ => ?_)
    · obtain ⟨px11m, hIx9_, hFx10_, px11_⟩ := px11_
      refine Or.inr ⟨_, _, rfl, by first | exact px11m | (simp only [List.mem_cons, List.not_mem_nil, or_false] at px11m ⊢; omega), hIx9_, ai_fr_tr hF_ (fr_le hFx10_ rfl), ?_⟩
      first | exact px11_.2 | exact px11_ | rfl
    · exact absurd rfl px11_.2.2.2.1
  · have cx7_ : ¬ (f_ < 0) := of_decide_eq_false cx7_
    refine sm_T_go 2 (c1 := (12, [some (.inr (.inr (some (12, 0)))), some (.inl kk_), some (.inl f_), some (.inr (.inr (some (2, kk_.toNat))))], [.inr (.inr (some (2, kk_.toNat))), .inl f_], S0_)) rfl ?_
    refine sm_T_cal (d1 := 1) (Q1 := vq_62 kk_.toNat S0_) rfl rfl (by decide) (vc_62 kk_.toNat S0_ hI_ (by omega)) (fun u_ Sx14_ px17_ => ?_)
    obtain ⟨rfl, vx19_, rfl, px17_⟩ := px17_
    refine sm_T_br (a := 3) (z := 7) rfl (fun cx20_ => ?_) (fun cx20_ => ?_)
    · have cx20_ : vx19_ ≤ f_ := of_decide_eq_true cx20_
      refine sm_T_go 1 (c1 := (23, [some (.inr (.inr (some (12, 0)))), some (.inl kk_), some (.inl f_), some (.inr (.inr (some (2, kk_.toNat))))], [.inl 0], S0_)) rfl ?_
      refine sm_T_cale (d1_ := 0) (Q1_ := vq_265e 0 S0_) (Q2_ := (fun ex_ S1_ => ex_ ∈ ([0] : List Nat) ∧ vx_265e 0 S0_ S1_)) rfl rfl (by decide) (vc_265e 0 S0_ hI_ ) rfl (fun xx26_ Sx21_ px24_ => ?_) (fun u_ Sx21_ px24_ => ?_)
      · obtain ⟨px24m, hIx22_, hFx23_, px24_⟩ := px24_
        refine Or.inr ⟨_, _, rfl, by first | exact px24m | (simp only [List.mem_cons, List.not_mem_nil, or_false] at px24m ⊢; omega), hIx22_, ai_fr_tr hF_ (fr_le hFx23_ rfl), ?_⟩
        first | exact px24_.2 | exact px24_ | rfl
      · exact absurd rfl px24_.2.2.2.1
    · have cx20_ : ¬ (vx19_ ≤ f_) := of_decide_eq_false cx20_
      refine sm_T_go 2 (c1 := (23, [some (.inr (.inr (some (12, 0)))), some (.inl kk_), some (.inl f_), some (.inr (.inr (some (2, kk_.toNat))))], [.inl 1], S0_)) rfl ?_
      refine sm_T_cale (d1_ := 0) (Q1_ := vq_265e 1 S0_) (Q2_ := (fun ex_ S1_ => ex_ ∈ ([0] : List Nat) ∧ vx_265e 1 S0_ S1_)) rfl rfl (by decide) (vc_265e 1 S0_ hI_ ) rfl (fun xx32_ Sx27_ px30_ => ?_) (fun u_ Sx27_ px30_ => ?_)
      · exact absurd px30_.2.2.2.1 (by decide)
      obtain ⟨rfl, -, -, px30_, rfl⟩ := px30_
      refine sm_T_go 4 (c1 := (32, [some (.inr (.inr (some (12, 0)))), some (.inl kk_), some (.inl f_), some (.inr (.inr (some (2, kk_.toNat))))], [.inl f_, .inr (.inr (some (2, kk_.toNat))), .inr (.inr (some (9, 0)))], S0_)) rfl ?_
      refine sm_T_cal (d1 := 5) (Q1 := vq_177 f_ kk_.toNat S0_) rfl rfl (by decide) (vc_177 f_ kk_.toNat S0_ hI_ (by omega) (by omega) (by exact hJ_.2.2.2)) (fun u_ Sx33_ px36_ => ?_)
      obtain ⟨vx38_, rfl, hIx34_, hFx35_, px36_⟩ := px36_
      have hFx37_ : ai_fr (sx_W vw_258) S0_ Sx33_ := ai_fr_tr hF_ (fr_le hFx35_ rfl)
      have p32_ := px36_
      refine sm_T_ri rfl (Or.inl ⟨_, _, rfl, _, rfl, hIx34_, hFx37_, ?_⟩)
      exact jC_mk hJ_ hFx37_ (tpo_fr hJ_.2.2.1 hFx37_) p32_.2 (by decide) (by decide) (by decide) (by decide) (by decide)
