/-! the calls that use the tester; written by wip/p55/gen/vg -/
/-! ChipFlow.tests -/
def vw_260p : sx_Wl := ([(2, 15), (9, 1), (9, 2), (9, 3)], [40, 41, 92, 93, 94, 95, 96, 97], [(9, 0)])
def vq_260p (kk_ : Int) (S0_ : sm_S) (u_ : Option sm_V) (S1_ : sm_S) : Prop := ∃ v_ : Int, u_ = some (.inl v_) ∧ gi S1_ ∧ ai_fr (sx_W vw_260p) S0_ S1_ ∧ (jC S1_ ∧ tsa S1_)
def vx_260p (kk_ : Int) (S0_ : sm_S) (S1_ : sm_S) : Prop := gi S1_ ∧ ai_fr (sx_W vw_260p) S0_ S1_ ∧ (S1_ = S0_)
set_option maxHeartbeats 400000 in
theorem vc_260p {sc_ : Nat × (Nat → Int)} (kk_ : Int) (S0_ : sm_S) (hI_ : gi S0_) (hJ_ : jC S0_) (hq_ : tsa S0_) : sm_T (mt_P sc_) 7 260 (0, [some (.inr (.inr (some (12, 0)))), some (.inl kk_), none], [], S0_) (fun ro9_ => (∃ u_ S1_, ro9_ = (.inl u_, S1_, 0) ∧ vq_260p kk_ S0_ u_ S1_) ∨ ∃ ex_ S1_, ro9_ = (.inr ex_, S1_, 1) ∧ ex_ ∈ ([0] : List Nat) ∧ vx_260p kk_ S0_ S1_) := by
  have hF_ : ai_fr (sx_W vw_260p) S0_ S0_ := ai_fr_rf
  refine sm_T_go 2 (c1 := (2, [some (.inr (.inr (some (12, 0)))), some (.inl kk_), none], [.inl kk_, .inr (.inr (some (12, 0)))], S0_)) rfl ?_
  refine sm_T_cale (d1_ := 1) (Q1_ := vq_272 kk_ S0_) (Q2_ := (fun ex_ S1_ => ex_ ∈ ([0] : List Nat) ∧ vx_272 kk_ S0_ S1_)) rfl rfl (by decide) (vc_272 kk_ S0_ hI_ ) rfl (fun xx6_ Sx1_ px4_ => ?_) (fun u_ Sx1_ px4_ => ?_)
  · obtain ⟨px4m, hIx2_, hFx3_, px4_⟩ := px4_
    refine Or.inr ⟨_, _, rfl, by first | exact px4m | (simp only [List.mem_cons, List.not_mem_nil, or_false] at px4m ⊢; omega), hIx2_, ai_fr_tr hF_ (fr_le hFx3_ rfl), ?_⟩
    first | exact px4_.2 | exact px4_ | rfl
  obtain ⟨rfl, -, -, rfl, px4_⟩ := px4_
  have a9_ := px4_
  have J9_ := hJ_.2.1 kk_.toNat (by omega) a9_.2
  have J1_ := J9_.1
  have q9_ := a9_.2
  have c8_ : 0 ≤ S0_.1 2 (kk_.toNat) 8 ∧ S0_.1 2 (kk_.toNat) 8 ≤ 150 := hI_.1 2 (kk_.toNat) 8 rfl
  have c1_ : 0 ≤ S0_.1 2 (kk_.toNat) 1 ∧ S0_.1 2 (kk_.toNat) 1 ≤ 12 := hI_.1 2 (kk_.toNat) 1 rfl
  have c2_ : 0 ≤ S0_.1 2 (kk_.toNat) 2 ∧ S0_.1 2 (kk_.toNat) 2 ≤ 6 := hI_.1 2 (kk_.toNat) 2 rfl
  refine sm_T_go 4 (c1 := (11, [some (.inr (.inr (some (12, 0)))), some (.inl kk_), some (.inr (.inr (some (2, kk_.toNat))))], [.inr (.inr (some (2, kk_.toNat))), .inr (.inr (some (9, 0)))], S0_)) rfl ?_
  refine sm_T_cal (d1 := 6) (Q1 := vq_179p kk_.toNat S0_) rfl rfl (by decide) (vc_179p kk_.toNat S0_ hI_ (by omega) (by exact ⟨hJ_.2.2.2, hq_⟩)) (fun u_ Sx7_ px10_ => ?_)
  obtain ⟨rfl, hIx8_, hFx9_, px10_⟩ := px10_
  have hFx11_ : ai_fr (sx_W vw_260p) S0_ Sx7_ := ai_fr_tr hF_ (fr_le hFx9_ rfl)
  obtain ⟨dx12_, px10_⟩ := px10_
  have p11_ := px10_
  have bx13_ : (-1) ≤ Sx7_.1 2 kk_.toNat 15 ∧ Sx7_.1 2 kk_.toNat 15 ≤ 1224 := hIx8_.1 2 kk_.toNat 15 rfl
  refine sm_T_go 2 (c1 := (18, [some (.inr (.inr (some (12, 0)))), some (.inl kk_), some (.inr (.inr (some (2, kk_.toNat))))], [.inl (Sx7_.1 2 kk_.toNat 15)], Sx7_)) rfl ?_
  refine sm_T_ri rfl (Or.inl ⟨_, _, rfl, _, rfl, hIx8_, hFx11_, ?_⟩)
  exact ⟨jC_mk hJ_ hFx11_ (tpo_fr hJ_.2.2.1 hFx11_) p11_.1 (by decide) (by decide) (by decide) (by decide) (by decide), p11_.2⟩
/-! ChipFlow.test -/
def vw_258p : sx_Wl := ([(9, 1), (9, 2), (9, 3)], [92, 93, 94, 95, 96], [(9, 0)])
def vq_258p (kk_ : Int) (f_ : Int) (S0_ : sm_S) (u_ : Option sm_V) (S1_ : sm_S) : Prop := ∃ v_ : Int, u_ = some (.inl v_) ∧ gi S1_ ∧ ai_fr (sx_W vw_258p) S0_ S1_ ∧ (jC S1_ ∧ tsa S1_)
def vx_258p (kk_ : Int) (f_ : Int) (S0_ : sm_S) (S1_ : sm_S) : Prop := gi S1_ ∧ ai_fr (sx_W vw_258p) S0_ S1_ ∧ (S1_ = S0_)
set_option maxHeartbeats 400000 in
theorem vc_258p {sc_ : Nat × (Nat → Int)} (kk_ : Int) (f_ : Int) (S0_ : sm_S) (hI_ : gi S0_) (hJ_ : jC S0_) (hq_ : tsa S0_) : sm_T (mt_P sc_) 6 258 (0, [some (.inr (.inr (some (12, 0)))), some (.inl kk_), some (.inl f_), none], [], S0_) (fun ro9_ => (∃ u_ S1_, ro9_ = (.inl u_, S1_, 0) ∧ vq_258p kk_ f_ S0_ u_ S1_) ∨ ∃ ex_ S1_, ro9_ = (.inr ex_, S1_, 1) ∧ ex_ ∈ ([0] : List Nat) ∧ vx_258p kk_ f_ S0_ S1_) := by
  have hF_ : ai_fr (sx_W vw_258p) S0_ S0_ := ai_fr_rf
  refine sm_T_go 2 (c1 := (2, [some (.inr (.inr (some (12, 0)))), some (.inl kk_), some (.inl f_), none], [.inl kk_, .inr (.inr (some (12, 0)))], S0_)) rfl ?_
  refine sm_T_cale (d1_ := 1) (Q1_ := vq_272 kk_ S0_) (Q2_ := (fun ex_ S1_ => ex_ ∈ ([0] : List Nat) ∧ vx_272 kk_ S0_ S1_)) rfl rfl (by decide) (vc_272 kk_ S0_ hI_ ) rfl (fun xx6_ Sx1_ px4_ => ?_) (fun u_ Sx1_ px4_ => ?_)
  · obtain ⟨px4m, hIx2_, hFx3_, px4_⟩ := px4_
    refine Or.inr ⟨_, _, rfl, by first | exact px4m | (simp only [List.mem_cons, List.not_mem_nil, or_false] at px4m ⊢; omega), hIx2_, ai_fr_tr hF_ (fr_le hFx3_ rfl), ?_⟩
    first | exact px4_.2 | exact px4_ | rfl
  obtain ⟨rfl, -, -, rfl, px4_⟩ := px4_
  have a9_ := px4_
  have J9_ := hJ_.2.1 kk_.toNat (by omega) a9_.2
  have J1_ := J9_.1
  have q9_ := a9_.2
  have c8_ : 0 ≤ S0_.1 2 (kk_.toNat) 8 ∧ S0_.1 2 (kk_.toNat) 8 ≤ 150 := hI_.1 2 (kk_.toNat) 8 rfl
  have c1_ : 0 ≤ S0_.1 2 (kk_.toNat) 1 ∧ S0_.1 2 (kk_.toNat) 1 ≤ 12 := hI_.1 2 (kk_.toNat) 1 rfl
  have c2_ : 0 ≤ S0_.1 2 (kk_.toNat) 2 ∧ S0_.1 2 (kk_.toNat) 2 ≤ 6 := hI_.1 2 (kk_.toNat) 2 rfl
  refine sm_T_go 2 (c1 := (7, [some (.inr (.inr (some (12, 0)))), some (.inl kk_), some (.inl f_), some (.inr (.inr (some (2, kk_.toNat))))], [.inl f_], S0_)) rfl ?_
  refine sm_T_b0 (a := 2) (z := 15) rfl (fun cx7_ => ?_) (fun cx7_ => ?_)
  · have cx7_ : f_ < 0 := of_decide_eq_true cx7_
    refine sm_T_go 1 (c1 := (23, [some (.inr (.inr (some (12, 0)))), some (.inl kk_), some (.inl f_), some (.inr (.inr (some (2, kk_.toNat))))], [.inl 0], S0_)) rfl ?_
    refine sm_T_cale (d1_ := 0) (Q1_ := vq_265e 0 S0_) (Q2_ := (fun ex_ S1_ => ex_ ∈ ([0] : List Nat) ∧ vx_265e 0 S0_ S1_)) rfl rfl (by decide) (vc_265e 0 S0_ hI_ ) rfl (fun xx13_ Sx8_ px11_ => ?_) (fun u_ Sx8_ px11_ => ?_)
    · obtain ⟨px11m, hIx9_, hFx10_, px11_⟩ := px11_
      refine Or.inr ⟨_, _, rfl, by first | exact px11m | (simp only [List.mem_cons, List.not_mem_nil, or_false] at px11m ⊢; omega), hIx9_, ai_fr_tr hF_ (fr_le hFx10_ rfl), ?_⟩
      first | exact px11_.2 | exact px11_ | rfl
    · exact absurd rfl px11_.2.2.2.1
  · have cx7_ : ¬ (f_ < 0) := of_decide_eq_false cx7_
    refine sm_T_go 2 (c1 := (12, [some (.inr (.inr (some (12, 0)))), some (.inl kk_), some (.inl f_), some (.inr (.inr (some (2, kk_.toNat))))], [.inr (.inr (some (2, kk_.toNat))), .inl f_], S0_)) rfl ?_
    refine sm_T_cal (d1 := 1) (Q1 := vq_62 kk_.toNat S0_) rfl rfl (by decide) (vc_62 kk_.toNat S0_ hI_ (by omega)) (fun u_ Sx14_ px17_ => ?_)
    obtain ⟨rfl, vx19_, rfl, px17_⟩ := px17_
    refine sm_T_br (a := 3) (z := 7) rfl (fun cx20_ => ?_) (fun cx20_ => ?_)
    · have cx20_ : vx19_ ≤ f_ := of_decide_eq_true cx20_
      refine sm_T_go 1 (c1 := (23, [some (.inr (.inr (some (12, 0)))), some (.inl kk_), some (.inl f_), some (.inr (.inr (some (2, kk_.toNat))))], [.inl 0], S0_)) rfl ?_
      refine sm_T_cale (d1_ := 0) (Q1_ := vq_265e 0 S0_) (Q2_ := (fun ex_ S1_ => ex_ ∈ ([0] : List Nat) ∧ vx_265e 0 S0_ S1_)) rfl rfl (by decide) (vc_265e 0 S0_ hI_ ) rfl (fun xx26_ Sx21_ px24_ => ?_) (fun u_ Sx21_ px24_ => ?_)
      · obtain ⟨px24m, hIx22_, hFx23_, px24_⟩ := px24_
        refine Or.inr ⟨_, _, rfl, by first | exact px24m | (simp only [List.mem_cons, List.not_mem_nil, or_false] at px24m ⊢; omega), hIx22_, ai_fr_tr hF_ (fr_le hFx23_ rfl), ?_⟩
        first | exact px24_.2 | exact px24_ | rfl
      · exact absurd rfl px24_.2.2.2.1
    · have cx20_ : ¬ (vx19_ ≤ f_) := of_decide_eq_false cx20_
      refine sm_T_go 2 (c1 := (23, [some (.inr (.inr (some (12, 0)))), some (.inl kk_), some (.inl f_), some (.inr (.inr (some (2, kk_.toNat))))], [.inl 1], S0_)) rfl ?_
      refine sm_T_cale (d1_ := 0) (Q1_ := vq_265e 1 S0_) (Q2_ := (fun ex_ S1_ => ex_ ∈ ([0] : List Nat) ∧ vx_265e 1 S0_ S1_)) rfl rfl (by decide) (vc_265e 1 S0_ hI_ ) rfl (fun xx32_ Sx27_ px30_ => ?_) (fun u_ Sx27_ px30_ => ?_)
      · exact absurd px30_.2.2.2.1 (by decide)
      obtain ⟨rfl, -, -, px30_, rfl⟩ := px30_
      refine sm_T_go 4 (c1 := (32, [some (.inr (.inr (some (12, 0)))), some (.inl kk_), some (.inl f_), some (.inr (.inr (some (2, kk_.toNat))))], [.inl f_, .inr (.inr (some (2, kk_.toNat))), .inr (.inr (some (9, 0)))], S0_)) rfl ?_
      refine sm_T_cal (d1 := 5) (Q1 := vq_177p f_ kk_.toNat S0_) rfl rfl (by decide) (vc_177p f_ kk_.toNat S0_ hI_ (by omega) (by omega) (by exact ⟨hJ_.2.2.2, hq_⟩)) (fun u_ Sx33_ px36_ => ?_)
      obtain ⟨vx38_, rfl, hIx34_, hFx35_, px36_⟩ := px36_
      have hFx37_ : ai_fr (sx_W vw_258p) S0_ Sx33_ := ai_fr_tr hF_ (fr_le hFx35_ rfl)
      have p32_ := px36_
      refine sm_T_ri rfl (Or.inl ⟨_, _, rfl, _, rfl, hIx34_, hFx37_, ?_⟩)
      exact ⟨jC_mk hJ_ hFx37_ (tpo_fr hJ_.2.2.1 hFx37_) p32_.2.1 (by decide) (by decide) (by decide) (by decide) (by decide), p32_.2.2⟩
/-! ChipFlow.suspect -/
def vw_263p : sx_Wl := ([(9, 1), (9, 2), (9, 3)], [92, 93, 94, 95, 96], [(9, 0)])
def vq_263p (kk_ : Int) (k_ : Int) (S0_ : sm_S) (u_ : Option sm_V) (S1_ : sm_S) : Prop := ∃ v_ : Int, u_ = some (.inl v_) ∧ gi S1_ ∧ ai_fr (sx_W vw_263p) S0_ S1_ ∧ (jC S1_ ∧ tsa S1_)
def vx_263p (kk_ : Int) (k_ : Int) (S0_ : sm_S) (S1_ : sm_S) : Prop := gi S1_ ∧ ai_fr (sx_W vw_263p) S0_ S1_ ∧ (S1_ = S0_)
set_option maxHeartbeats 400000 in
theorem vc_263p {sc_ : Nat × (Nat → Int)} (kk_ : Int) (k_ : Int) (S0_ : sm_S) (hI_ : gi S0_) (hJ_ : jC S0_) (hq_ : tsa S0_) (hk9_ : -2147483648 ≤ k_ ∧ k_ ≤ 2147483647) : sm_T (mt_P sc_) 6 263 (0, [some (.inr (.inr (some (12, 0)))), some (.inl kk_), some (.inl k_), none], [], S0_) (fun ro9_ => (∃ u_ S1_, ro9_ = (.inl u_, S1_, 0) ∧ vq_263p kk_ k_ S0_ u_ S1_) ∨ ∃ ex_ S1_, ro9_ = (.inr ex_, S1_, 1) ∧ ex_ ∈ ([0, 2] : List Nat) ∧ vx_263p kk_ k_ S0_ S1_) := by
  have hF_ : ai_fr (sx_W vw_263p) S0_ S0_ := ai_fr_rf
  refine sm_T_go 2 (c1 := (2, [some (.inr (.inr (some (12, 0)))), some (.inl kk_), some (.inl k_), none], [.inl kk_, .inr (.inr (some (12, 0)))], S0_)) rfl ?_
  refine sm_T_cale (d1_ := 1) (Q1_ := vq_272 kk_ S0_) (Q2_ := (fun ex_ S1_ => ex_ ∈ ([0] : List Nat) ∧ vx_272 kk_ S0_ S1_)) rfl rfl (by decide) (vc_272 kk_ S0_ hI_ ) rfl (fun xx6_ Sx1_ px4_ => ?_) (fun u_ Sx1_ px4_ => ?_)
  · obtain ⟨px4m, hIx2_, hFx3_, px4_⟩ := px4_
    refine Or.inr ⟨_, _, rfl, by first | exact px4m | (simp only [List.mem_cons, List.not_mem_nil, or_false] at px4m ⊢; omega), hIx2_, ai_fr_tr hF_ (fr_le hFx3_ rfl), ?_⟩
    first | exact px4_.2 | exact px4_ | rfl
  obtain ⟨rfl, -, -, rfl, px4_⟩ := px4_
  have a9_ := px4_
  have J9_ := hJ_.2.1 kk_.toNat (by omega) a9_.2
  have J1_ := J9_.1
  have q9_ := a9_.2
  have c8_ : 0 ≤ S0_.1 2 (kk_.toNat) 8 ∧ S0_.1 2 (kk_.toNat) 8 ≤ 150 := hI_.1 2 (kk_.toNat) 8 rfl
  have c1_ : 0 ≤ S0_.1 2 (kk_.toNat) 1 ∧ S0_.1 2 (kk_.toNat) 1 ≤ 12 := hI_.1 2 (kk_.toNat) 1 rfl
  have c2_ : 0 ≤ S0_.1 2 (kk_.toNat) 2 ∧ S0_.1 2 (kk_.toNat) 2 ≤ 6 := hI_.1 2 (kk_.toNat) 2 rfl
  refine sm_T_go 2 (c1 := (7, [some (.inr (.inr (some (12, 0)))), some (.inl kk_), some (.inl k_), some (.inr (.inr (some (2, kk_.toNat))))], [.inl k_], S0_)) rfl ?_
  refine sm_T_b0 (a := 2) (z := 7) rfl (fun cx7_ => ?_) (fun cx7_ => ?_)
  · have cx7_ : k_ < 0 := of_decide_eq_true cx7_
    refine sm_T_go 1 (c1 := (15, [some (.inr (.inr (some (12, 0)))), some (.inl kk_), some (.inl k_), some (.inr (.inr (some (2, kk_.toNat))))], [.inl 0], S0_)) rfl ?_
    refine sm_T_cale (d1_ := 0) (Q1_ := vq_265e 0 S0_) (Q2_ := (fun ex_ S1_ => ex_ ∈ ([0] : List Nat) ∧ vx_265e 0 S0_ S1_)) rfl rfl (by decide) (vc_265e 0 S0_ hI_ ) rfl (fun xx13_ Sx8_ px11_ => ?_) (fun u_ Sx8_ px11_ => ?_)
    · obtain ⟨px11m, hIx9_, hFx10_, px11_⟩ := px11_
      refine Or.inr ⟨_, _, rfl, by first | exact px11m | (simp only [List.mem_cons, List.not_mem_nil, or_false] at px11m ⊢; omega), hIx9_, ai_fr_tr hF_ (fr_le hFx10_ rfl), ?_⟩
      first | exact px11_.2 | exact px11_ | rfl
    · exact absurd rfl px11_.2.2.2.1
  · have cx7_ : ¬ (k_ < 0) := of_decide_eq_false cx7_
    refine sm_T_go 2 (c1 := (15, [some (.inr (.inr (some (12, 0)))), some (.inl kk_), some (.inl k_), some (.inr (.inr (some (2, kk_.toNat))))], [.inl 1], S0_)) rfl ?_
    refine sm_T_cale (d1_ := 0) (Q1_ := vq_265e 1 S0_) (Q2_ := (fun ex_ S1_ => ex_ ∈ ([0] : List Nat) ∧ vx_265e 1 S0_ S1_)) rfl rfl (by decide) (vc_265e 1 S0_ hI_ ) rfl (fun xx19_ Sx14_ px17_ => ?_) (fun u_ Sx14_ px17_ => ?_)
    · exact absurd px17_.2.2.2.1 (by decide)
    obtain ⟨rfl, -, -, px17_, rfl⟩ := px17_
    have bx20_ : (-1) ≤ S0_.1 2 kk_.toNat 15 ∧ S0_.1 2 kk_.toNat 15 ≤ 1224 := hI_.1 2 kk_.toNat 15 rfl
    refine sm_T_go 3 (c1 := (23, [some (.inr (.inr (some (12, 0)))), some (.inl kk_), some (.inl k_), some (.inr (.inr (some (2, kk_.toNat))))], [.inl (-1), .inl (S0_.1 2 kk_.toNat 15)], S0_)) rfl ?_
    refine sm_T_br (a := 0) (z := 7) rfl (fun cx21_ => ?_) (fun cx21_ => ?_)
    · have cx21_ : (S0_.1 2 kk_.toNat 15) = (-1) := of_decide_eq_true cx21_
      refine sm_T_go 1 (c1 := (31, [some (.inr (.inr (some (12, 0)))), some (.inl kk_), some (.inl k_), some (.inr (.inr (some (2, kk_.toNat))))], [.inl 0], S0_)) rfl ?_
      refine sm_T_cale (d1_ := 0) (Q1_ := vq_267e 0 S0_) (Q2_ := (fun ex_ S1_ => ex_ ∈ ([2] : List Nat) ∧ vx_267e 0 S0_ S1_)) rfl rfl (by decide) (vc_267e 0 S0_ hI_ ) rfl (fun xx27_ Sx22_ px25_ => ?_) (fun u_ Sx22_ px25_ => ?_)
      · obtain ⟨px25m, hIx23_, hFx24_, px25_⟩ := px25_
        refine Or.inr ⟨_, _, rfl, by first | exact px25m | (simp only [List.mem_cons, List.not_mem_nil, or_false] at px25m ⊢; omega), hIx23_, ai_fr_tr hF_ (fr_le hFx24_ rfl), ?_⟩
        first | exact px25_.2 | exact px25_ | rfl
      · exact absurd rfl px25_.2.2.2.1
    · have cx21_ : ¬ ((S0_.1 2 kk_.toNat 15) = (-1)) := of_decide_eq_false cx21_
      refine sm_T_go 2 (c1 := (31, [some (.inr (.inr (some (12, 0)))), some (.inl kk_), some (.inl k_), some (.inr (.inr (some (2, kk_.toNat))))], [.inl 1], S0_)) rfl ?_
      refine sm_T_cale (d1_ := 0) (Q1_ := vq_267e 1 S0_) (Q2_ := (fun ex_ S1_ => ex_ ∈ ([2] : List Nat) ∧ vx_267e 1 S0_ S1_)) rfl rfl (by decide) (vc_267e 1 S0_ hI_ ) rfl (fun xx33_ Sx28_ px31_ => ?_) (fun u_ Sx28_ px31_ => ?_)
      · exact absurd px31_.2.2.2.1 (by decide)
      obtain ⟨rfl, -, -, px31_, rfl⟩ := px31_
      refine sm_T_go 4 (c1 := (40, [some (.inr (.inr (some (12, 0)))), some (.inl kk_), some (.inl k_), some (.inr (.inr (some (2, kk_.toNat))))], [.inl k_, .inr (.inr (some (2, kk_.toNat))), .inr (.inr (some (9, 0)))], S0_)) rfl ?_
      refine sm_T_cal (d1 := 5) (Q1 := vq_184p k_ kk_.toNat S0_) rfl rfl (by decide) (vc_184p k_ kk_.toNat S0_ hI_ (by omega) (by omega) (by exact ⟨hJ_.2.2.2, hq_⟩)) (fun u_ Sx34_ px37_ => ?_)
      obtain ⟨vx39_, rfl, hIx35_, hFx36_, px37_⟩ := px37_
      have hFx38_ : ai_fr (sx_W vw_263p) S0_ Sx34_ := ai_fr_tr hF_ (fr_le hFx36_ rfl)
      have ex40_ : Sx34_.1 2 kk_.toNat 15 = S0_.1 2 kk_.toNat 15 := hFx36_.1 2 kk_.toNat 15 rfl
      have p40_ := px37_
      refine sm_T_ri rfl (Or.inl ⟨_, _, rfl, _, rfl, hIx35_, hFx38_, ?_⟩)
      exact ⟨jC_mk hJ_ hFx38_ (tpo_fr hJ_.2.2.1 hFx38_) p40_.1 (by decide) (by decide) (by decide) (by decide) (by decide), p40_.2⟩
/-! ChipFlow.shows -/
def vw_259p : sx_Wl := ([(9, 1), (9, 2), (9, 3)], [92, 93, 94, 95, 96], [(9, 0)])
def vq_259p (kk_ : Int) (p_ : Int) (f_ : Int) (S0_ : sm_S) (u_ : Option sm_V) (S1_ : sm_S) : Prop := ∃ v_ : Int, u_ = some (.inl v_) ∧ gi S1_ ∧ ai_fr (sx_W vw_259p) S0_ S1_ ∧ (jC S1_ ∧ tsa S1_)
def vx_259p (kk_ : Int) (p_ : Int) (f_ : Int) (S0_ : sm_S) (S1_ : sm_S) : Prop := gi S1_ ∧ ai_fr (sx_W vw_259p) S0_ S1_ ∧ (S1_ = S0_)
set_option maxHeartbeats 400000 in
theorem vc_259p {sc_ : Nat × (Nat → Int)} (kk_ : Int) (p_ : Int) (f_ : Int) (S0_ : sm_S) (hI_ : gi S0_) (hJ_ : jC S0_) (hq_ : tsa S0_) : sm_T (mt_P sc_) 6 259 (0, [some (.inr (.inr (some (12, 0)))), some (.inl kk_), some (.inl p_), some (.inl f_), none], [], S0_) (fun ro9_ => (∃ u_ S1_, ro9_ = (.inl u_, S1_, 0) ∧ vq_259p kk_ p_ f_ S0_ u_ S1_) ∨ ∃ ex_ S1_, ro9_ = (.inr ex_, S1_, 1) ∧ ex_ ∈ ([0, 1] : List Nat) ∧ vx_259p kk_ p_ f_ S0_ S1_) := by
  have hF_ : ai_fr (sx_W vw_259p) S0_ S0_ := ai_fr_rf
  refine sm_T_go 2 (c1 := (2, [some (.inr (.inr (some (12, 0)))), some (.inl kk_), some (.inl p_), some (.inl f_), none], [.inl kk_, .inr (.inr (some (12, 0)))], S0_)) rfl ?_
  refine sm_T_cale (d1_ := 1) (Q1_ := vq_272 kk_ S0_) (Q2_ := (fun ex_ S1_ => ex_ ∈ ([0] : List Nat) ∧ vx_272 kk_ S0_ S1_)) rfl rfl (by decide) (vc_272 kk_ S0_ hI_ ) rfl (fun xx6_ Sx1_ px4_ => ?_) (fun u_ Sx1_ px4_ => ?_)
  · obtain ⟨px4m, hIx2_, hFx3_, px4_⟩ := px4_
    refine Or.inr ⟨_, _, rfl, by first | exact px4m | (simp only [List.mem_cons, List.not_mem_nil, or_false] at px4m ⊢; omega), hIx2_, ai_fr_tr hF_ (fr_le hFx3_ rfl), ?_⟩
    first | exact px4_.2 | exact px4_ | rfl
  obtain ⟨rfl, -, -, rfl, px4_⟩ := px4_
  have a9_ := px4_
  have J9_ := hJ_.2.1 kk_.toNat (by omega) a9_.2
  have J1_ := J9_.1
  have q9_ := a9_.2
  have c8_ : 0 ≤ S0_.1 2 (kk_.toNat) 8 ∧ S0_.1 2 (kk_.toNat) 8 ≤ 150 := hI_.1 2 (kk_.toNat) 8 rfl
  have c1_ : 0 ≤ S0_.1 2 (kk_.toNat) 1 ∧ S0_.1 2 (kk_.toNat) 1 ≤ 12 := hI_.1 2 (kk_.toNat) 1 rfl
  have c2_ : 0 ≤ S0_.1 2 (kk_.toNat) 2 ∧ S0_.1 2 (kk_.toNat) 2 ≤ 6 := hI_.1 2 (kk_.toNat) 2 rfl
  refine sm_T_go 2 (c1 := (8, [some (.inr (.inr (some (12, 0)))), some (.inl kk_), some (.inl p_), some (.inl f_), some (.inr (.inr (some (2, kk_.toNat))))], [.inl f_], S0_)) rfl ?_
  refine sm_T_b0 (a := 2) (z := 16) rfl (fun cx7_ => ?_) (fun cx7_ => ?_)
  · have cx7_ : f_ < 0 := of_decide_eq_true cx7_
    refine sm_T_go 1 (c1 := (25, [some (.inr (.inr (some (12, 0)))), some (.inl kk_), some (.inl p_), some (.inl f_), some (.inr (.inr (some (2, kk_.toNat))))], [.inl 0], S0_)) rfl ?_
    refine sm_T_cale (d1_ := 0) (Q1_ := vq_265e 0 S0_) (Q2_ := (fun ex_ S1_ => ex_ ∈ ([0] : List Nat) ∧ vx_265e 0 S0_ S1_)) rfl rfl (by decide) (vc_265e 0 S0_ hI_ ) rfl (fun xx13_ Sx8_ px11_ => ?_) (fun u_ Sx8_ px11_ => ?_)
    · obtain ⟨px11m, hIx9_, hFx10_, px11_⟩ := px11_
      refine Or.inr ⟨_, _, rfl, by first | exact px11m | (simp only [List.mem_cons, List.not_mem_nil, or_false] at px11m ⊢; omega), hIx9_, ai_fr_tr hF_ (fr_le hFx10_ rfl), ?_⟩
      first | exact px11_.2 | exact px11_ | rfl
    · exact absurd rfl px11_.2.2.2.1
  · have cx7_ : ¬ (f_ < 0) := of_decide_eq_false cx7_
    refine sm_T_go 2 (c1 := (14, [some (.inr (.inr (some (12, 0)))), some (.inl kk_), some (.inl p_), some (.inl f_), some (.inr (.inr (some (2, kk_.toNat))))], [.inr (.inr (some (2, kk_.toNat))), .inl f_], S0_)) rfl ?_
    refine sm_T_cal (d1 := 1) (Q1 := vq_62 kk_.toNat S0_) rfl rfl (by decide) (vc_62 kk_.toNat S0_ hI_ (by omega)) (fun u_ Sx14_ px17_ => ?_)
    obtain ⟨rfl, vx19_, rfl, px17_⟩ := px17_
    refine sm_T_br (a := 3) (z := 7) rfl (fun cx20_ => ?_) (fun cx20_ => ?_)
    · have cx20_ : vx19_ ≤ f_ := of_decide_eq_true cx20_
      refine sm_T_go 1 (c1 := (25, [some (.inr (.inr (some (12, 0)))), some (.inl kk_), some (.inl p_), some (.inl f_), some (.inr (.inr (some (2, kk_.toNat))))], [.inl 0], S0_)) rfl ?_
      refine sm_T_cale (d1_ := 0) (Q1_ := vq_265e 0 S0_) (Q2_ := (fun ex_ S1_ => ex_ ∈ ([0] : List Nat) ∧ vx_265e 0 S0_ S1_)) rfl rfl (by decide) (vc_265e 0 S0_ hI_ ) rfl (fun xx26_ Sx21_ px24_ => ?_) (fun u_ Sx21_ px24_ => ?_)
      · obtain ⟨px24m, hIx22_, hFx23_, px24_⟩ := px24_
        refine Or.inr ⟨_, _, rfl, by first | exact px24m | (simp only [List.mem_cons, List.not_mem_nil, or_false] at px24m ⊢; omega), hIx22_, ai_fr_tr hF_ (fr_le hFx23_ rfl), ?_⟩
        first | exact px24_.2 | exact px24_ | rfl
      · exact absurd rfl px24_.2.2.2.1
    · have cx20_ : ¬ (vx19_ ≤ f_) := of_decide_eq_false cx20_
      refine sm_T_go 2 (c1 := (25, [some (.inr (.inr (some (12, 0)))), some (.inl kk_), some (.inl p_), some (.inl f_), some (.inr (.inr (some (2, kk_.toNat))))], [.inl 1], S0_)) rfl ?_
      refine sm_T_cale (d1_ := 0) (Q1_ := vq_265e 1 S0_) (Q2_ := (fun ex_ S1_ => ex_ ∈ ([0] : List Nat) ∧ vx_265e 1 S0_ S1_)) rfl rfl (by decide) (vc_265e 1 S0_ hI_ ) rfl (fun xx32_ Sx27_ px30_ => ?_) (fun u_ Sx27_ px30_ => ?_)
      · exact absurd px30_.2.2.2.1 (by decide)
      obtain ⟨rfl, -, -, px30_, rfl⟩ := px30_
      refine sm_T_go 2 (c1 := (31, [some (.inr (.inr (some (12, 0)))), some (.inl kk_), some (.inl p_), some (.inl f_), some (.inr (.inr (some (2, kk_.toNat))))], [.inl p_, .inr (.inr (some (2, kk_.toNat)))], S0_)) rfl ?_
      refine sm_T_cal (d1 := 0) (Q1 := vq_61p p_ kk_.toNat S0_) rfl rfl (by decide) (vc_61p p_ kk_.toNat S0_ hI_ (by omega)) (fun u_ Sx33_ px36_ => ?_)
      obtain ⟨rfl, vx38_, rfl, px36_⟩ := px36_
      have n31_ := px36_.1
      have m31_ := px36_.2
      refine sm_T_cale (d1_ := 0) (Q1_ := vq_266e vx38_ S0_) (Q2_ := (fun ex_ S1_ => ex_ ∈ ([1] : List Nat) ∧ vx_266e vx38_ S0_ S1_)) rfl rfl (by decide) (vc_266e vx38_ S0_ hI_ ) rfl (fun xx44_ Sx39_ px42_ => ?_) (fun u_ Sx39_ px42_ => ?_)
      · obtain ⟨px42m, hIx40_, hFx41_, px42_⟩ := px42_
        refine Or.inr ⟨_, _, rfl, by first | exact px42m | (simp only [List.mem_cons, List.not_mem_nil, or_false] at px42m ⊢; omega), hIx40_, ai_fr_tr hF_ (fr_le hFx41_ rfl), ?_⟩
        first | exact px42_.2 | exact px42_ | rfl
      obtain ⟨rfl, -, -, px42_, rfl⟩ := px42_
      have o34_ := m31_ (by omega)
      refine sm_T_go 4 (c1 := (44, [some (.inr (.inr (some (12, 0)))), some (.inl kk_), some (.inl p_), some (.inl f_), some (.inr (.inr (some (2, kk_.toNat))))], [.inl f_, .inr (.inr (some (2, kk_.toNat))), .inr (.inr (some (9, 0)))], S0_)) rfl ?_
      refine sm_T_cal (d1 := 4) (Q1 := vq_174p f_ kk_.toNat S0_) rfl rfl (by decide) (vc_174p f_ kk_.toNat S0_ hI_ (by omega) (by omega) (by exact ⟨hJ_.2.2.2, hq_⟩)) (fun u_ Sx45_ px48_ => ?_)
      obtain ⟨rfl, hIx46_, hFx47_, px48_⟩ := px48_
      have hFx49_ : ai_fr (sx_W vw_259p) S0_ Sx45_ := ai_fr_tr hF_ (fr_le hFx47_ rfl)
      have p44_ := px48_
      refine sm_T_go 4 (c1 := (53, [some (.inr (.inr (some (12, 0)))), some (.inl kk_), some (.inl p_), some (.inl f_), some (.inr (.inr (some (2, kk_.toNat))))], [.inl f_, .inl p_, .inr (.inr (some (9, 0)))], Sx45_)) rfl ?_
      refine sm_T_cal (d1 := 0) (Q1 := vq_176 p_ f_ Sx45_) rfl rfl (by decide) (vc_176 p_ f_ Sx45_ hIx46_ (by omega) (by omega)) (fun u_ Sx50_ px53_ => ?_)
      obtain ⟨rfl, vx55_, rfl, px53_⟩ := px53_
      refine sm_T_rz rfl (by omega) (Or.inl ⟨_, _, rfl, _, rfl, hIx46_, hFx49_, ?_⟩)
      exact ⟨jC_mk hJ_ hFx49_ (tpo_fr hJ_.2.2.1 hFx49_) p44_.2.1 (by decide) (by decide) (by decide) (by decide) (by decide), p44_.2.2⟩
/-! ChipFlow.faults -/
def vw_264p : sx_Wl := ([(9, 1), (9, 2), (9, 3)], [92, 93, 94, 95, 96], [(9, 0)])
def vq_264p (kk_ : Int) (wh_ : Int) (S0_ : sm_S) (u_ : Option sm_V) (S1_ : sm_S) : Prop := ∃ v_ : Int, u_ = some (.inl v_) ∧ gi S1_ ∧ ai_fr (sx_W vw_264p) S0_ S1_ ∧ (jC S1_ ∧ tsa S1_)
def vx_264p (kk_ : Int) (wh_ : Int) (S0_ : sm_S) (S1_ : sm_S) : Prop := gi S1_ ∧ ai_fr (sx_W vw_264p) S0_ S1_ ∧ (S1_ = S0_)
set_option maxHeartbeats 400000 in
theorem vc_264p {sc_ : Nat × (Nat → Int)} (kk_ : Int) (wh_ : Int) (S0_ : sm_S) (hI_ : gi S0_) (hJ_ : jC S0_) (hq_ : tsa S0_) : sm_T (mt_P sc_) 7 264 (0, [some (.inr (.inr (some (12, 0)))), some (.inl kk_), some (.inl wh_), none], [], S0_) (fun ro9_ => (∃ u_ S1_, ro9_ = (.inl u_, S1_, 0) ∧ vq_264p kk_ wh_ S0_ u_ S1_) ∨ ∃ ex_ S1_, ro9_ = (.inr ex_, S1_, 1) ∧ ex_ ∈ ([0, 1] : List Nat) ∧ vx_264p kk_ wh_ S0_ S1_) := by
  have hF_ : ai_fr (sx_W vw_264p) S0_ S0_ := ai_fr_rf
  refine sm_T_go 2 (c1 := (2, [some (.inr (.inr (some (12, 0)))), some (.inl kk_), some (.inl wh_), none], [.inl kk_, .inr (.inr (some (12, 0)))], S0_)) rfl ?_
  refine sm_T_cale (d1_ := 1) (Q1_ := vq_272 kk_ S0_) (Q2_ := (fun ex_ S1_ => ex_ ∈ ([0] : List Nat) ∧ vx_272 kk_ S0_ S1_)) rfl rfl (by decide) (vc_272 kk_ S0_ hI_ ) rfl (fun xx6_ Sx1_ px4_ => ?_) (fun u_ Sx1_ px4_ => ?_)
  · obtain ⟨px4m, hIx2_, hFx3_, px4_⟩ := px4_
    refine Or.inr ⟨_, _, rfl, by first | exact px4m | (simp only [List.mem_cons, List.not_mem_nil, or_false] at px4m ⊢; omega), hIx2_, ai_fr_tr hF_ (fr_le hFx3_ rfl), ?_⟩
    first | exact px4_.2 | exact px4_ | rfl
  obtain ⟨rfl, -, -, rfl, px4_⟩ := px4_
  have a9_ := px4_
  have J9_ := hJ_.2.1 kk_.toNat (by omega) a9_.2
  have J1_ := J9_.1
  have q9_ := a9_.2
  have c8_ : 0 ≤ S0_.1 2 (kk_.toNat) 8 ∧ S0_.1 2 (kk_.toNat) 8 ≤ 150 := hI_.1 2 (kk_.toNat) 8 rfl
  have c1_ : 0 ≤ S0_.1 2 (kk_.toNat) 1 ∧ S0_.1 2 (kk_.toNat) 1 ≤ 12 := hI_.1 2 (kk_.toNat) 1 rfl
  have c2_ : 0 ≤ S0_.1 2 (kk_.toNat) 2 ∧ S0_.1 2 (kk_.toNat) 2 ≤ 6 := hI_.1 2 (kk_.toNat) 2 rfl
  refine sm_T_go 2 (c1 := (7, [some (.inr (.inr (some (12, 0)))), some (.inl kk_), some (.inl wh_), some (.inr (.inr (some (2, kk_.toNat))))], [.inl wh_], S0_)) rfl ?_
  refine sm_T_b0 (a := 2) (z := 12) rfl (fun cx7_ => ?_) (fun cx7_ => ?_)
  · have cx7_ : wh_ < 0 := of_decide_eq_true cx7_
    refine sm_T_go 1 (c1 := (20, [some (.inr (.inr (some (12, 0)))), some (.inl kk_), some (.inl wh_), some (.inr (.inr (some (2, kk_.toNat))))], [.inl 0], S0_)) rfl ?_
    refine sm_T_cale (d1_ := 0) (Q1_ := vq_266e 0 S0_) (Q2_ := (fun ex_ S1_ => ex_ ∈ ([1] : List Nat) ∧ vx_266e 0 S0_ S1_)) rfl rfl (by decide) (vc_266e 0 S0_ hI_ ) rfl (fun xx13_ Sx8_ px11_ => ?_) (fun u_ Sx8_ px11_ => ?_)
    · obtain ⟨px11m, hIx9_, hFx10_, px11_⟩ := px11_
      refine Or.inr ⟨_, _, rfl, by first | exact px11m | (simp only [List.mem_cons, List.not_mem_nil, or_false] at px11m ⊢; omega), hIx9_, ai_fr_tr hF_ (fr_le hFx10_ rfl), ?_⟩
      first | exact px11_.2 | exact px11_ | rfl
    · exact absurd rfl px11_.2.2.2.1
  · have cx7_ : ¬ (wh_ < 0) := of_decide_eq_false cx7_
    refine sm_T_go 2 (c1 := (12, [some (.inr (.inr (some (12, 0)))), some (.inl kk_), some (.inl wh_), some (.inr (.inr (some (2, kk_.toNat))))], [.inl 2, .inl wh_], S0_)) rfl ?_
    refine sm_T_br (a := 4) (z := 7) rfl (fun cx14_ => ?_) (fun cx14_ => ?_)
    · have cx14_ : 2 < wh_ := of_decide_eq_true cx14_
      refine sm_T_go 1 (c1 := (20, [some (.inr (.inr (some (12, 0)))), some (.inl kk_), some (.inl wh_), some (.inr (.inr (some (2, kk_.toNat))))], [.inl 0], S0_)) rfl ?_
      refine sm_T_cale (d1_ := 0) (Q1_ := vq_266e 0 S0_) (Q2_ := (fun ex_ S1_ => ex_ ∈ ([1] : List Nat) ∧ vx_266e 0 S0_ S1_)) rfl rfl (by decide) (vc_266e 0 S0_ hI_ ) rfl (fun xx20_ Sx15_ px18_ => ?_) (fun u_ Sx15_ px18_ => ?_)
      · obtain ⟨px18m, hIx16_, hFx17_, px18_⟩ := px18_
        refine Or.inr ⟨_, _, rfl, by first | exact px18m | (simp only [List.mem_cons, List.not_mem_nil, or_false] at px18m ⊢; omega), hIx16_, ai_fr_tr hF_ (fr_le hFx17_ rfl), ?_⟩
        first | exact px18_.2 | exact px18_ | rfl
      · exact absurd rfl px18_.2.2.2.1
    · have cx14_ : ¬ (2 < wh_) := of_decide_eq_false cx14_
      refine sm_T_go 2 (c1 := (20, [some (.inr (.inr (some (12, 0)))), some (.inl kk_), some (.inl wh_), some (.inr (.inr (some (2, kk_.toNat))))], [.inl 1], S0_)) rfl ?_
      refine sm_T_cale (d1_ := 0) (Q1_ := vq_266e 1 S0_) (Q2_ := (fun ex_ S1_ => ex_ ∈ ([1] : List Nat) ∧ vx_266e 1 S0_ S1_)) rfl rfl (by decide) (vc_266e 1 S0_ hI_ ) rfl (fun xx26_ Sx21_ px24_ => ?_) (fun u_ Sx21_ px24_ => ?_)
      · exact absurd px24_.2.2.2.1 (by decide)
      obtain ⟨rfl, -, -, px24_, rfl⟩ := px24_
      refine sm_T_go 1 (c1 := (24, [some (.inr (.inr (some (12, 0)))), some (.inl kk_), some (.inl wh_), some (.inr (.inr (some (2, kk_.toNat))))], [.inl wh_], S0_)) rfl ?_
      refine sm_T_b0 (a := 1) (z := 8) rfl (fun cx27_ => ?_) (fun cx27_ => ?_)
      · have cx27_ : wh_ ≠ 0 := of_decide_eq_true cx27_
        refine sm_T_go 2 (c1 := (34, [some (.inr (.inr (some (12, 0)))), some (.inl kk_), some (.inl wh_), some (.inr (.inr (some (2, kk_.toNat))))], [.inl 1, .inl wh_], S0_)) rfl ?_
        refine sm_T_br (a := 1) (z := 12) rfl (fun cx28_ => ?_) (fun cx28_ => ?_)
        · have cx28_ : wh_ ≠ 1 := of_decide_eq_true cx28_
          have bx29_ : (-1) ≤ S0_.1 2 kk_.toNat 15 ∧ S0_.1 2 kk_.toNat 15 ≤ 1224 := hI_.1 2 kk_.toNat 15 rfl
          refine sm_T_go 3 (c1 := (51, [some (.inr (.inr (some (12, 0)))), some (.inl kk_), some (.inl wh_), some (.inr (.inr (some (2, kk_.toNat))))], [.inl (-1), .inl (S0_.1 2 kk_.toNat 15)], S0_)) rfl ?_
          refine sm_T_br (a := 1) (z := 7) rfl (fun cx30_ => ?_) (fun cx30_ => ?_)
          · have cx30_ : (S0_.1 2 kk_.toNat 15) ≠ (-1) := of_decide_eq_true cx30_
            refine sm_T_go 3 (c1 := (63, [some (.inr (.inr (some (12, 0)))), some (.inl kk_), some (.inl wh_), some (.inr (.inr (some (2, kk_.toNat))))], [.inr (.inr (some (2, kk_.toNat))), .inr (.inr (some (9, 0)))], S0_)) rfl ?_
            refine sm_T_cal (d1 := 5) (Q1 := vq_183p kk_.toNat S0_) rfl rfl (by decide) (vc_183p kk_.toNat S0_ hI_ (by omega) (by exact ⟨hJ_.2.2.2, hq_⟩)) (fun u_ Sx31_ px34_ => ?_)
            obtain ⟨vx36_, rfl, hIx32_, hFx33_, px34_⟩ := px34_
            have hFx35_ : ai_fr (sx_W vw_264p) S0_ Sx31_ := ai_fr_tr hF_ (fr_le hFx33_ rfl)
            have ex37_ : Sx31_.1 2 kk_.toNat 15 = S0_.1 2 kk_.toNat 15 := hFx33_.1 2 kk_.toNat 15 rfl
            have p63_ := px34_
            refine sm_T_ri rfl (Or.inl ⟨_, _, rfl, _, rfl, hIx32_, hFx35_, ?_⟩)
            first | exact ⟨hJ_, hq_⟩ | exact ⟨jC_mk hJ_ hFx35_ (tpo_fr hJ_.2.2.1 hFx35_) p42_.1 (by decide) (by decide) (by decide) (by decide) (by decide), p42_.2⟩ | exact ⟨jC_mk hJ_ hFx35_ (tpo_fr hJ_.2.2.1 hFx35_) p63_.1 (by decide) (by decide) (by decide) (by decide) (by decide), p63_.2⟩
          · have cx30_ : ¬ ((S0_.1 2 kk_.toNat 15) ≠ (-1)) := of_decide_eq_false cx30_
            refine sm_T_go 2 (c1 := (66, [some (.inr (.inr (some (12, 0)))), some (.inl kk_), some (.inl wh_), some (.inr (.inr (some (2, kk_.toNat))))], [.inl (-1)], S0_)) rfl ?_
            refine sm_T_ri rfl (Or.inl ⟨_, _, rfl, _, rfl, hI_, hF_, ?_⟩)
            first | exact ⟨hJ_, hq_⟩ | exact ⟨jC_mk hJ_ hF_ (tpo_fr hJ_.2.2.1 hF_) p42_.1 (by decide) (by decide) (by decide) (by decide) (by decide), p42_.2⟩ | exact ⟨jC_mk hJ_ hF_ (tpo_fr hJ_.2.2.1 hF_) p63_.1 (by decide) (by decide) (by decide) (by decide) (by decide), p63_.2⟩
        · have cx28_ : ¬ (wh_ ≠ 1) := of_decide_eq_false cx28_
          refine sm_T_go 3 (c1 := (42, [some (.inr (.inr (some (12, 0)))), some (.inl kk_), some (.inl wh_), some (.inr (.inr (some (2, kk_.toNat))))], [.inr (.inr (some (2, kk_.toNat))), .inr (.inr (some (9, 0)))], S0_)) rfl ?_
          refine sm_T_cal (d1 := 6) (Q1 := vq_178p kk_.toNat S0_) rfl rfl (by decide) (vc_178p kk_.toNat S0_ hI_ (by omega) (by exact ⟨hJ_.2.2.2, hq_⟩)) (fun u_ Sx38_ px41_ => ?_)
          obtain ⟨vx43_, rfl, hIx39_, hFx40_, px41_⟩ := px41_
          have hFx42_ : ai_fr (sx_W vw_264p) S0_ Sx38_ := ai_fr_tr hF_ (fr_le hFx40_ rfl)
          have p42_ := px41_
          refine sm_T_ri rfl (Or.inl ⟨_, _, rfl, _, rfl, hIx39_, hFx42_, ?_⟩)
          first | exact ⟨hJ_, hq_⟩ | exact ⟨jC_mk hJ_ hFx42_ (tpo_fr hJ_.2.2.1 hFx42_) p42_.1 (by decide) (by decide) (by decide) (by decide) (by decide), p42_.2⟩ | exact ⟨jC_mk hJ_ hFx42_ (tpo_fr hJ_.2.2.1 hFx42_) p63_.1 (by decide) (by decide) (by decide) (by decide) (by decide), p63_.2⟩
      · have cx27_ : ¬ (wh_ ≠ 0) := of_decide_eq_false cx27_
        refine sm_T_go 1 (c1 := (28, [some (.inr (.inr (some (12, 0)))), some (.inl kk_), some (.inl wh_), some (.inr (.inr (some (2, kk_.toNat))))], [.inr (.inr (some (2, kk_.toNat)))], S0_)) rfl ?_
        refine sm_T_cal (d1 := 1) (Q1 := vq_62 kk_.toNat S0_) rfl rfl (by decide) (vc_62 kk_.toNat S0_ hI_ (by omega)) (fun u_ Sx44_ px47_ => ?_)
        obtain ⟨rfl, vx49_, rfl, px47_⟩ := px47_
        refine sm_T_ri rfl (Or.inl ⟨_, _, rfl, _, rfl, hI_, hF_, ?_⟩)
        first | exact ⟨hJ_, hq_⟩ | exact ⟨jC_mk hJ_ hF_ (tpo_fr hJ_.2.2.1 hF_) p42_.1 (by decide) (by decide) (by decide) (by decide) (by decide), p42_.2⟩ | exact ⟨jC_mk hJ_ hF_ (tpo_fr hJ_.2.2.1 hF_) p63_.1 (by decide) (by decide) (by decide) (by decide) (by decide), p63_.2⟩
