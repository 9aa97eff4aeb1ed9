/-! ChipFlow.feed -/
def vw_211 : sx_Wl := ([(10, 1)], [98], [])
def vq_211 (a1_ : Int) (a2_ : Int) (a3_ : Int) (a4_ : Int) (a5_ : Int) (S0_ : sm_S) (u_ : Option sm_V) (S1_ : sm_S) : Prop := ∃ v_ : Int, u_ = some (.inl v_) ∧ gi S1_ ∧ ai_fr (sx_W vw_211) S0_ S1_ ∧ (v_ = S1_.1 10 0 1 ∧ S1_.1 10 0 1 = S0_.1 10 0 1 + 20 ∧ S0_.1 10 0 1 ≤ 65516 ∧ S1_.2.2.1 98 0 = fed (S0_.2.2.1 98 0) (S0_.1 10 0 1).toNat a1_ a2_ a3_ a4_ a5_)
def vx_211 (a1_ : Int) (a2_ : Int) (a3_ : Int) (a4_ : Int) (a5_ : Int) (S0_ : sm_S) (S1_ : sm_S) : Prop := gi S1_ ∧ ai_fr (sx_W vw_211) S0_ S1_ ∧ (S1_ = S0_)
set_option maxHeartbeats 400000 in
theorem vc_211 {sc_ : Nat × (Nat → Int)} (a1_ : Int) (a2_ : Int) (a3_ : Int) (a4_ : Int) (a5_ : Int) (S0_ : sm_S) (hI_ : gi S0_) (hn9_ : S0_.1 10 0 1 ≤ 1260) : sm_T (mt_P sc_) 2 211 (0, [some (.inr (.inr (some (12, 0)))), some (.inl a1_), some (.inl a2_), some (.inl a3_), some (.inl a4_), some (.inl a5_)], [], S0_) (fun ro9_ => (∃ u_ S1_, ro9_ = (.inl u_, S1_, 0) ∧ vq_211 a1_ a2_ a3_ a4_ a5_ S0_ u_ S1_) ∨ ∃ ex_ S1_, ro9_ = (.inr ex_, S1_, 1) ∧ ex_ ∈ ([3] : List Nat) ∧ vx_211 a1_ a2_ a3_ a4_ a5_ S0_ S1_) := by
  have hF_ : ai_fr (sx_W vw_211) S0_ S0_ := ai_fr_rf
  have cl_ : 0 ≤ S0_.1 10 0 1 ∧ S0_.1 10 0 1 ≤ 1280 := hI_.1 10 0 1 rfl
  have bx1_ : 0 ≤ S0_.1 10 0 1 ∧ S0_.1 10 0 1 ≤ 1280 := hI_.1 10 0 1 rfl
  refine sm_T_go 4 (c1 := (9, [some (.inr (.inr (some (12, 0)))), some (.inl a1_), some (.inl a2_), some (.inl a3_), some (.inl a4_), some (.inl a5_)], [.inl 20, .inl (S0_.1 10 0 1)], S0_)) rfl ?_
  refine sm_T_bin (w := (S0_.1 10 0 1) + 20) rfl (bi_add (by omega) (by omega) (by omega)) ?_ -- pc_ 9
  refine sm_T_nt (u := some (.inl 65536)) (S1 := S0_) rfl rfl rfl ?_
  refine sm_T_br (a := 4) (z := 7) rfl (fun cx2_ => ?_) (fun cx2_ => ?_)
  · have cx2_ : 65536 < (S0_.1 10 0 1) + 20 := of_decide_eq_true cx2_
    refine sm_T_go 1 (c1 := (20, [some (.inr (.inr (some (12, 0)))), some (.inl a1_), some (.inl a2_), some (.inl a3_), some (.inl a4_), some (.inl a5_)], [.inl 0], S0_)) rfl ?_
    refine sm_T_cale (d1_ := 0) (Q1_ := vq_268e 0 S0_) (Q2_ := (fun ex_ S1_ => ex_ ∈ ([3] : List Nat) ∧ vx_268e 0 S0_ S1_)) rfl rfl (by decide) (vc_268e 0 S0_ hI_ ) rfl (fun xx8_ Sx3_ px6_ => ?_) (fun u_ Sx3_ px6_ => ?_)
    · obtain ⟨px6m, hIx4_, hFx5_, px6_⟩ := px6_
      refine Or.inr ⟨_, _, rfl, by first | exact px6m | (simp only [List.mem_cons, List.not_mem_nil, or_false] at px6m ⊢; omega), hIx4_, ai_fr_tr hF_ (fr_le hFx5_ rfl), ?_⟩
      first | exact px6_.2 | exact px6_ | rfl
    · exact absurd rfl px6_.2.2.2.1
  · have cx2_ : ¬ (65536 < (S0_.1 10 0 1) + 20) := of_decide_eq_false cx2_
    refine sm_T_go 2 (c1 := (20, [some (.inr (.inr (some (12, 0)))), some (.inl a1_), some (.inl a2_), some (.inl a3_), some (.inl a4_), some (.inl a5_)], [.inl 1], S0_)) rfl ?_
    refine sm_T_cale (d1_ := 0) (Q1_ := vq_268e 1 S0_) (Q2_ := (fun ex_ S1_ => ex_ ∈ ([3] : List Nat) ∧ vx_268e 1 S0_ S1_)) rfl rfl (by decide) (vc_268e 1 S0_ hI_ ) rfl (fun xx14_ Sx9_ px12_ => ?_) (fun u_ Sx9_ px12_ => ?_)
    · exact absurd px12_.2.2.2.1 (by decide)
    obtain ⟨rfl, -, -, px12_, rfl⟩ := px12_
    refine sm_T_go 3 (c1 := (28, [some (.inr (.inr (some (12, 0)))), some (.inl a1_), some (.inl a2_), some (.inl a3_), some (.inl a4_), some (.inl a5_)], [.inl a1_, .inr (.inr (some (10, 0)))], S0_)) rfl ?_
    refine sm_T_cal (d1 := 0) (Q1 := vq_185 a1_ S0_) rfl rfl (by decide) (vc_185 a1_ S0_ hI_ (by omega)) (fun u_ Sx15_ px18_ => ?_)
    obtain ⟨rfl, hIx16_, hFx17_, px18_⟩ := px18_
    have hFx19_ : ai_fr (sx_W vw_211) S0_ Sx15_ := ai_fr_tr hF_ (fr_le hFx17_ rfl)
    have p28_ := px18_.1
    have q28_ := px18_.2
    refine sm_T_go 3 (c1 := (36, [some (.inr (.inr (some (12, 0)))), some (.inl a1_), some (.inl a2_), some (.inl a3_), some (.inl a4_), some (.inl a5_)], [.inl a2_, .inr (.inr (some (10, 0)))], Sx15_)) rfl ?_
    refine sm_T_cal (d1 := 0) (Q1 := vq_185 a2_ Sx15_) rfl rfl (by decide) (vc_185 a2_ Sx15_ hIx16_ (by omega)) (fun u_ Sx20_ px23_ => ?_)
    obtain ⟨rfl, hIx21_, hFx22_, px23_⟩ := px23_
    have hFx24_ : ai_fr (sx_W vw_211) S0_ Sx20_ := ai_fr_tr hFx19_ (fr_le hFx22_ rfl)
    have p36_ := px23_.1
    have q36_ := px23_.2
    rw [q28_, show (Sx15_.1 10 0 1).toNat = (S0_.1 10 0 1).toNat + 4 by omega] at q36_
    refine sm_T_go 3 (c1 := (44, [some (.inr (.inr (some (12, 0)))), some (.inl a1_), some (.inl a2_), some (.inl a3_), some (.inl a4_), some (.inl a5_)], [.inl a3_, .inr (.inr (some (10, 0)))], Sx20_)) rfl ?_
    refine sm_T_cal (d1 := 0) (Q1 := vq_185 a3_ Sx20_) rfl rfl (by decide) (vc_185 a3_ Sx20_ hIx21_ (by omega)) (fun u_ Sx25_ px28_ => ?_)
    obtain ⟨rfl, hIx26_, hFx27_, px28_⟩ := px28_
    have hFx29_ : ai_fr (sx_W vw_211) S0_ Sx25_ := ai_fr_tr hFx24_ (fr_le hFx27_ rfl)
    have p44_ := px28_.1
    have q44_ := px28_.2
    rw [q36_, show (Sx20_.1 10 0 1).toNat = (S0_.1 10 0 1).toNat + 8 by omega] at q44_
    refine sm_T_go 3 (c1 := (53, [some (.inr (.inr (some (12, 0)))), some (.inl a1_), some (.inl a2_), some (.inl a3_), some (.inl a4_), some (.inl a5_)], [.inl a4_, .inr (.inr (some (10, 0)))], Sx25_)) rfl ?_
    refine sm_T_cal (d1 := 0) (Q1 := vq_185 a4_ Sx25_) rfl rfl (by decide) (vc_185 a4_ Sx25_ hIx26_ (by omega)) (fun u_ Sx30_ px33_ => ?_)
    obtain ⟨rfl, hIx31_, hFx32_, px33_⟩ := px33_
    have hFx34_ : ai_fr (sx_W vw_211) S0_ Sx30_ := ai_fr_tr hFx29_ (fr_le hFx32_ rfl)
    have p53_ := px33_.1
    have q53_ := px33_.2
    rw [q44_, show (Sx25_.1 10 0 1).toNat = (S0_.1 10 0 1).toNat + 12 by omega] at q53_
    refine sm_T_go 3 (c1 := (62, [some (.inr (.inr (some (12, 0)))), some (.inl a1_), some (.inl a2_), some (.inl a3_), some (.inl a4_), some (.inl a5_)], [.inl a5_, .inr (.inr (some (10, 0)))], Sx30_)) rfl ?_
    refine sm_T_cal (d1 := 0) (Q1 := vq_185 a5_ Sx30_) rfl rfl (by decide) (vc_185 a5_ Sx30_ hIx31_ (by omega)) (fun u_ Sx35_ px38_ => ?_)
    obtain ⟨rfl, hIx36_, hFx37_, px38_⟩ := px38_
    have hFx39_ : ai_fr (sx_W vw_211) S0_ Sx35_ := ai_fr_tr hFx34_ (fr_le hFx37_ rfl)
    have p62_ := px38_.1
    have q62_ := px38_.2
    rw [q53_, show (Sx30_.1 10 0 1).toNat = (S0_.1 10 0 1).toNat + 16 by omega] at q62_
    have bx40_ : 0 ≤ Sx35_.1 10 0 1 ∧ Sx35_.1 10 0 1 ≤ 1280 := hIx36_.1 10 0 1 rfl
    refine sm_T_go 3 (c1 := (72, [some (.inr (.inr (some (12, 0)))), some (.inl a1_), some (.inl a2_), some (.inl a3_), some (.inl a4_), some (.inl a5_)], [.inl (Sx35_.1 10 0 1)], Sx35_)) rfl ?_
    refine sm_T_ri rfl (Or.inl ⟨_, _, rfl, _, rfl, hIx36_, hFx39_, ?_⟩)
    exact ⟨rfl, by omega, by omega, by rw [q62_, fd4_5]⟩
