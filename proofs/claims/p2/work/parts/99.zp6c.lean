/-! ChipFlow.erase -/
def vw_249 : sx_Wl := ([(4, 1), (4, 9), (4, 10)], [48], [])
def vq_249 (kk_ : Int) (b_ : Int) (S0_ : sm_S) (u_ : Option sm_V) (S1_ : sm_S) : Prop := ∃ v_ : Int, u_ = some (.inl v_) ∧ gi S1_ ∧ ai_fr (sx_W vw_249) S0_ S1_ ∧ (jC S1_)
def vx_249 (kk_ : Int) (b_ : Int) (S0_ : sm_S) (S1_ : sm_S) : Prop := gi S1_ ∧ ai_fr (sx_W vw_249) S0_ S1_ ∧ (S1_ = S0_)
set_option maxHeartbeats 400000 in
theorem vc_249 {sc_ : Nat × (Nat → Int)} (kk_ : Int) (b_ : Int) (S0_ : sm_S) (hI_ : gi S0_) (hJ_ : jC S0_) : sm_T (mt_P sc_) 2 249 (0, [some (.inr (.inr (some (12, 0)))), some (.inl kk_), some (.inl b_), none], [], S0_) (fun ro9_ => (∃ u_ S1_, ro9_ = (.inl u_, S1_, 0) ∧ vq_249 kk_ b_ S0_ u_ S1_) ∨ ∃ ex_ S1_, ro9_ = (.inr ex_, S1_, 1) ∧ ex_ ∈ ([0, 2] : List Nat) ∧ vx_249 kk_ b_ S0_ S1_) := by
  have hF_ : ai_fr (sx_W vw_249) S0_ S0_ := ai_fr_rf
  refine sm_T_go 2 (c1 := (2, [some (.inr (.inr (some (12, 0)))), some (.inl kk_), some (.inl b_), none], [.inl kk_, .inr (.inr (some (12, 0)))], S0_)) rfl ?_
  refine sm_T_cale (d1_ := 1) (Q1_ := vq_272 kk_ S0_) (Q2_ := (fun ex_ S1_ => ex_ ∈ ([0] : List Nat) ∧ vx_272 kk_ S0_ S1_)) rfl rfl (by decide) (vc_272 kk_ S0_ hI_ ) rfl (fun xx6_ Sx1_ px4_ => ?_) (fun u_ Sx1_ px4_ => ?_)
  · obtain ⟨px4m, hIx2_, hFx3_, px4_⟩ := px4_
    refine Or.inr ⟨_, _, rfl, by first | exact px4m | (simp only [List.mem_cons, List.not_mem_nil, or_false] at px4m ⊢; omega), hIx2_, ai_fr_tr hF_ (fr_le hFx3_ rfl), ?_⟩
    first | exact px4_.2 | exact px4_ | rfl
  obtain ⟨rfl, -, -, rfl, px4_⟩ := px4_
  have a9_ := px4_
  have J9_ := hJ_.2.1 kk_.toNat (by omega) a9_.2
  have J1_ := J9_.1
  have q9_ := a9_.2
  have c8_ : 0 ≤ S0_.1 2 (kk_.toNat) 8 ∧ S0_.1 2 (kk_.toNat) 8 ≤ 150 := hI_.1 2 (kk_.toNat) 8 rfl
  have c1_ : 0 ≤ S0_.1 2 (kk_.toNat) 1 ∧ S0_.1 2 (kk_.toNat) 1 ≤ 12 := hI_.1 2 (kk_.toNat) 1 rfl
  have c2_ : 0 ≤ S0_.1 2 (kk_.toNat) 2 ∧ S0_.1 2 (kk_.toNat) 2 ≤ 6 := hI_.1 2 (kk_.toNat) 2 rfl
  refine sm_T_go 4 (c1 := (13, [some (.inr (.inr (some (12, 0)))), some (.inl kk_), some (.inl b_), some (.inr (.inr (some (4, (0 + (0 + kk_.toNat))))))], [.inl b_], S0_)) rfl ?_
  refine sm_T_b0 (a := 2) (z := 22) rfl (fun cx7_ => ?_) (fun cx7_ => ?_)
  · have cx7_ : b_ < 0 := of_decide_eq_true cx7_
    refine sm_T_go 1 (c1 := (36, [some (.inr (.inr (some (12, 0)))), some (.inl kk_), some (.inl b_), some (.inr (.inr (some (4, (0 + (0 + kk_.toNat))))))], [.inl 0], S0_)) rfl ?_
    refine sm_T_cale (d1_ := 0) (Q1_ := vq_265e 0 S0_) (Q2_ := (fun ex_ S1_ => ex_ ∈ ([0] : List Nat) ∧ vx_265e 0 S0_ S1_)) rfl rfl (by decide) (vc_265e 0 S0_ hI_ ) rfl (fun xx13_ Sx8_ px11_ => ?_) (fun u_ Sx8_ px11_ => ?_)
    · obtain ⟨px11m, hIx9_, hFx10_, px11_⟩ := px11_
      refine Or.inr ⟨_, _, rfl, by first | exact px11m | (simp only [List.mem_cons, List.not_mem_nil, or_false] at px11m ⊢; omega), hIx9_, ai_fr_tr hF_ (fr_le hFx10_ rfl), ?_⟩
      first | exact px11_.2 | exact px11_ | rfl
    · exact absurd rfl px11_.2.2.2.1
  · have cx7_ : ¬ (b_ < 0) := of_decide_eq_false cx7_
    have bx14_ : 0 ≤ S0_.1 4 (0 + (0 + kk_.toNat)) 0 ∧ S0_.1 4 (0 + (0 + kk_.toNat)) 0 ≤ 1 := hI_.1 4 (0 + (0 + kk_.toNat)) 0 rfl
    refine sm_T_go 2 (c1 := (20, [some (.inr (.inr (some (12, 0)))), some (.inl kk_), some (.inl b_), some (.inr (.inr (some (4, (0 + (0 + kk_.toNat))))))], [.inl (S0_.1 4 (0 + (0 + kk_.toNat)) 0)], S0_)) rfl ?_
    refine sm_T_b0 (a := 0) (z := 11) rfl (fun cx15_ => ?_) (fun cx15_ => ?_)
    · have cx15_ : (S0_.1 4 (0 + (0 + kk_.toNat)) 0) = 0 := of_decide_eq_true cx15_
      refine sm_T_go 2 (c1 := (36, [some (.inr (.inr (some (12, 0)))), some (.inl kk_), some (.inl b_), some (.inr (.inr (some (4, (0 + (0 + kk_.toNat))))))], [.inl 1], S0_)) rfl ?_
      refine sm_T_cale (d1_ := 0) (Q1_ := vq_265e 1 S0_) (Q2_ := (fun ex_ S1_ => ex_ ∈ ([0] : List Nat) ∧ vx_265e 1 S0_ S1_)) rfl rfl (by decide) (vc_265e 1 S0_ hI_ ) rfl (fun xx21_ Sx16_ px19_ => ?_) (fun u_ Sx16_ px19_ => ?_)
      · exact absurd px19_.2.2.2.1 (by decide)
      obtain ⟨rfl, -, -, px19_, rfl⟩ := px19_
      refine sm_T_go 2 (c1 := (43, [some (.inr (.inr (some (12, 0)))), some (.inl kk_), some (.inl b_), some (.inr (.inr (some (4, (0 + (0 + kk_.toNat))))))], [.inl (S0_.1 4 (0 + (0 + kk_.toNat)) 0)], S0_)) rfl ?_
      refine sm_T_cale (d1_ := 0) (Q1_ := vq_267e (S0_.1 4 (0 + (0 + kk_.toNat)) 0) S0_) (Q2_ := (fun ex_ S1_ => ex_ ∈ ([2] : List Nat) ∧ vx_267e (S0_.1 4 (0 + (0 + kk_.toNat)) 0) S0_ S1_)) rfl rfl (by decide) (vc_267e (S0_.1 4 (0 + (0 + kk_.toNat)) 0) S0_ hI_ ) rfl (fun xx27_ Sx22_ px25_ => ?_) (fun u_ Sx22_ px25_ => ?_)
      · obtain ⟨px25m, hIx23_, hFx24_, px25_⟩ := px25_
        refine Or.inr ⟨_, _, rfl, by first | exact px25m | (simp only [List.mem_cons, List.not_mem_nil, or_false] at px25m ⊢; omega), hIx23_, ai_fr_tr hF_ (fr_le hFx24_ rfl), ?_⟩
        first | exact px25_.2 | exact px25_ | rfl
      obtain ⟨rfl, -, -, px25_, rfl⟩ := px25_
      refine sm_T_go 2 (c1 := (48, [some (.inr (.inr (some (12, 0)))), some (.inl kk_), some (.inl b_), some (.inr (.inr (some (4, (0 + (0 + kk_.toNat))))))], [.inl b_, .inr (.inr (some (4, (0 + (0 + kk_.toNat)))))], S0_)) rfl ?_
      refine sm_T_cal (d1 := 1) (Q1 := vq_70 b_ (0 + (0 + kk_.toNat)) S0_) rfl rfl (by decide) (vc_70 b_ (0 + (0 + kk_.toNat)) S0_ hI_ (by omega)) (fun u_ Sx28_ px31_ => ?_)
      obtain ⟨rfl, hIx29_, hFx30_, px31_⟩ := px31_
      have hFx32_ : ai_fr (sx_W vw_249) S0_ Sx28_ := ai_fr_tr hF_ (fr_le hFx30_ rfl)
      obtain ⟨dx33_, px31_⟩ := px31_
      have bx34_ : 0 ≤ Sx28_.1 4 (0 + (0 + kk_.toNat)) 1 ∧ Sx28_.1 4 (0 + (0 + kk_.toNat)) 1 ≤ 2000 := hIx29_.1 4 (0 + (0 + kk_.toNat)) 1 rfl
      refine sm_T_go 2 (c1 := (55, [some (.inr (.inr (some (12, 0)))), some (.inl kk_), some (.inl b_), some (.inr (.inr (some (4, (0 + (0 + kk_.toNat))))))], [.inl (Sx28_.1 4 (0 + (0 + kk_.toNat)) 1)], Sx28_)) rfl ?_
      refine sm_T_ri rfl (Or.inl ⟨_, _, rfl, _, rfl, hIx29_, hFx32_, ?_⟩)
      exact jC_fr hJ_ hFx32_ (by decide) (by decide) (by decide) (by decide) (by decide) rfl rfl rfl rfl rfl rfl
    · have cx15_ : ¬ ((S0_.1 4 (0 + (0 + kk_.toNat)) 0) = 0) := of_decide_eq_false cx15_
      have bx35_ : 0 ≤ S0_.1 4 (0 + (0 + kk_.toNat)) 1 ∧ S0_.1 4 (0 + (0 + kk_.toNat)) 1 ≤ 2000 := hI_.1 4 (0 + (0 + kk_.toNat)) 1 rfl
      refine sm_T_go 3 (c1 := (28, [some (.inr (.inr (some (12, 0)))), some (.inl kk_), some (.inl b_), some (.inr (.inr (some (4, (0 + (0 + kk_.toNat))))))], [.inl (S0_.1 4 (0 + (0 + kk_.toNat)) 1), .inl b_], S0_)) rfl ?_
      refine sm_T_br (a := 3) (z := 7) rfl (fun cx36_ => ?_) (fun cx36_ => ?_)
      · have cx36_ : (S0_.1 4 (0 + (0 + kk_.toNat)) 1) ≤ b_ := of_decide_eq_true cx36_
        refine sm_T_go 1 (c1 := (36, [some (.inr (.inr (some (12, 0)))), some (.inl kk_), some (.inl b_), some (.inr (.inr (some (4, (0 + (0 + kk_.toNat))))))], [.inl 0], S0_)) rfl ?_
        refine sm_T_cale (d1_ := 0) (Q1_ := vq_265e 0 S0_) (Q2_ := (fun ex_ S1_ => ex_ ∈ ([0] : List Nat) ∧ vx_265e 0 S0_ S1_)) rfl rfl (by decide) (vc_265e 0 S0_ hI_ ) rfl (fun xx42_ Sx37_ px40_ => ?_) (fun u_ Sx37_ px40_ => ?_)
        · obtain ⟨px40m, hIx38_, hFx39_, px40_⟩ := px40_
          refine Or.inr ⟨_, _, rfl, by first | exact px40m | (simp only [List.mem_cons, List.not_mem_nil, or_false] at px40m ⊢; omega), hIx38_, ai_fr_tr hF_ (fr_le hFx39_ rfl), ?_⟩
          first | exact px40_.2 | exact px40_ | rfl
        · exact absurd rfl px40_.2.2.2.1
      · have cx36_ : ¬ ((S0_.1 4 (0 + (0 + kk_.toNat)) 1) ≤ b_) := of_decide_eq_false cx36_
        refine sm_T_go 2 (c1 := (36, [some (.inr (.inr (some (12, 0)))), some (.inl kk_), some (.inl b_), some (.inr (.inr (some (4, (0 + (0 + kk_.toNat))))))], [.inl 1], S0_)) rfl ?_
        refine sm_T_cale (d1_ := 0) (Q1_ := vq_265e 1 S0_) (Q2_ := (fun ex_ S1_ => ex_ ∈ ([0] : List Nat) ∧ vx_265e 1 S0_ S1_)) rfl rfl (by decide) (vc_265e 1 S0_ hI_ ) rfl (fun xx48_ Sx43_ px46_ => ?_) (fun u_ Sx43_ px46_ => ?_)
        · exact absurd px46_.2.2.2.1 (by decide)
        obtain ⟨rfl, -, -, px46_, rfl⟩ := px46_
        refine sm_T_go 2 (c1 := (43, [some (.inr (.inr (some (12, 0)))), some (.inl kk_), some (.inl b_), some (.inr (.inr (some (4, (0 + (0 + kk_.toNat))))))], [.inl (S0_.1 4 (0 + (0 + kk_.toNat)) 0)], S0_)) rfl ?_
        refine sm_T_cale (d1_ := 0) (Q1_ := vq_267e (S0_.1 4 (0 + (0 + kk_.toNat)) 0) S0_) (Q2_ := (fun ex_ S1_ => ex_ ∈ ([2] : List Nat) ∧ vx_267e (S0_.1 4 (0 + (0 + kk_.toNat)) 0) S0_ S1_)) rfl rfl (by decide) (vc_267e (S0_.1 4 (0 + (0 + kk_.toNat)) 0) S0_ hI_ ) rfl (fun xx54_ Sx49_ px52_ => ?_) (fun u_ Sx49_ px52_ => ?_)
        · obtain ⟨px52m, hIx50_, hFx51_, px52_⟩ := px52_
          refine Or.inr ⟨_, _, rfl, by first | exact px52m | (simp only [List.mem_cons, List.not_mem_nil, or_false] at px52m ⊢; omega), hIx50_, ai_fr_tr hF_ (fr_le hFx51_ rfl), ?_⟩
          first | exact px52_.2 | exact px52_ | rfl
        obtain ⟨rfl, -, -, px52_, rfl⟩ := px52_
        refine sm_T_go 2 (c1 := (48, [some (.inr (.inr (some (12, 0)))), some (.inl kk_), some (.inl b_), some (.inr (.inr (some (4, (0 + (0 + kk_.toNat))))))], [.inl b_, .inr (.inr (some (4, (0 + (0 + kk_.toNat)))))], S0_)) rfl ?_
        refine sm_T_cal (d1 := 1) (Q1 := vq_70 b_ (0 + (0 + kk_.toNat)) S0_) rfl rfl (by decide) (vc_70 b_ (0 + (0 + kk_.toNat)) S0_ hI_ (by omega)) (fun u_ Sx55_ px58_ => ?_)
        obtain ⟨rfl, hIx56_, hFx57_, px58_⟩ := px58_
        have hFx59_ : ai_fr (sx_W vw_249) S0_ Sx55_ := ai_fr_tr hF_ (fr_le hFx57_ rfl)
        obtain ⟨dx60_, px58_⟩ := px58_
        have bx61_ : 0 ≤ Sx55_.1 4 (0 + (0 + kk_.toNat)) 1 ∧ Sx55_.1 4 (0 + (0 + kk_.toNat)) 1 ≤ 2000 := hIx56_.1 4 (0 + (0 + kk_.toNat)) 1 rfl
        refine sm_T_go 2 (c1 := (55, [some (.inr (.inr (some (12, 0)))), some (.inl kk_), some (.inl b_), some (.inr (.inr (some (4, (0 + (0 + kk_.toNat))))))], [.inl (Sx55_.1 4 (0 + (0 + kk_.toNat)) 1)], Sx55_)) rfl ?_
        refine sm_T_ri rfl (Or.inl ⟨_, _, rfl, _, rfl, hIx56_, hFx59_, ?_⟩)
        exact jC_fr hJ_ hFx59_ (by decide) (by decide) (by decide) (by decide) (by decide) rfl rfl rfl rfl rfl rfl
