/-! the class: proves; written by wip/p55/gen/vg -/
def oka_proves (kk_ bb_ : Int) (S_ : sm_S) : Prop := (0 ≤ kk_ ∧ kk_ < 4 ∧ S_.1 2 kk_.toNat 0 = 1) ∧ (0 ≤ bb_ ∧ bb_ < 6 ∧ S_.1 3 bb_.toNat 0 = 1)
def okc_proves (kk_ bb_ : Int) (S_ : sm_S) : Prop := oka_proves kk_ bb_ S_ ∧ (S_.1 2 kk_.toNat 1 = S_.1 3 bb_.toNat 1 ∧ S_.1 2 kk_.toNat 3 = S_.1 3 bb_.toNat 3)
def spc_proves (kk_ bb_ : Int) (S_ : sm_S) (v_ : Int) : Prop := bfsp (S_.1 3 bb_.toNat 1).toNat (cmD (S_.2.2.1 34 (0 + kk_.toNat)) (S_.2.2.1 47 (0 + bb_.toNat)) 65535) (nx6 (S_.2.2.1 34 (0 + kk_.toNat))) (nx6 (S_.2.2.1 47 (0 + bb_.toNat))) (S_.1 2 kk_.toNat 4).toNat (S_.1 3 bb_.toNat 5).toNat v_
theorem spc_pv {w_ : sx_Wl} {kk_ bb_ v_ : Int} {S_ S'_ : sm_S} (g_ : ai_fr (sx_W w_) S_ S'_) (h_ : okc_proves kk_ bb_ S_ ∧ spc_proves kk_ bb_ S_ v_) (h0_ : (sx_W w_).1 3 0 = false := by rfl) (h1_ : (sx_W w_).1 3 1 = false := by rfl) (h3_ : (sx_W w_).1 3 3 = false := by rfl) (h5_ : (sx_W w_).1 3 5 = false := by rfl) (h7_ : (sx_W w_).2.1 47 = false := by rfl) (k0_ : (sx_W w_).1 2 0 = false := by rfl) (k1_ : (sx_W w_).1 2 1 = false := by rfl) (k3_ : (sx_W w_).1 2 3 = false := by rfl) (k4_ : (sx_W w_).1 2 4 = false := by rfl) (k7_ : (sx_W w_).2.1 34 = false := by rfl) : okc_proves kk_ bb_ S'_ ∧ spc_proves kk_ bb_ S'_ v_ := by
  unfold okc_proves oka_proves spc_proves at *
  rw [g_.1 2 kk_.toNat 0 k0_, g_.1 3 bb_.toNat 0 h0_, g_.1 2 kk_.toNat 1 k1_, g_.1 3 bb_.toNat 1 h1_, g_.1 2 kk_.toNat 3 k3_, g_.1 3 bb_.toNat 3 h3_, g_.1 2 kk_.toNat 4 k4_, g_.1 3 bb_.toNat 5 h5_, fr_arr (t := 34) (i := 0 + kk_.toNat) g_ k7_, fr_arr (t := 47) (i := 0 + bb_.toNat) g_ h7_]
  exact h_
/-! ChipFlow.proves -/
def vw_237t : sx_Wl := ([(12, 16)], [113, 114, 115, 117], [])
def vq_237t (kk_ : Int) (bb_ : Int) (S0_ : sm_S) (u_ : Option sm_V) (S1_ : sm_S) : Prop := ∃ v_ : Int, u_ = some (.inl v_) ∧ gi S1_ ∧ ai_fr (sx_W vw_237t) S0_ S1_ ∧ (jC S1_ ∧ okc_proves kk_ bb_ S1_ ∧ spc_proves kk_ bb_ S1_ v_)
def vx_237t (kk_ : Int) (bb_ : Int) (S0_ : sm_S) (ex_ : Nat) (S1_ : sm_S) : Prop := gi S1_ ∧ ai_fr (sx_W vw_237t) S0_ S1_ ∧ (S1_ = S0_ ∧ ((ex_ = 0 ∧ ¬ oka_proves kk_ bb_ S0_) ∨ (ex_ = 1 ∧ oka_proves kk_ bb_ S0_ ∧ ¬ okc_proves kk_ bb_ S0_)))
set_option maxHeartbeats 400000 in
theorem vc_237t {sc_ : Nat × (Nat → Int)} (kk_ : Int) (bb_ : Int) (S0_ : sm_S) (hI_ : gi S0_) (hJ_ : jC S0_) : sm_T (mt_P sc_) 2 237 (0, [some (.inr (.inr (some (12, 0)))), some (.inl kk_), some (.inl bb_), none, none], [], S0_) (fun ro9_ => (∃ u_ S1_, ro9_ = (.inl u_, S1_, 0) ∧ vq_237t kk_ bb_ S0_ u_ S1_) ∨ ∃ ex_ S1_, ro9_ = (.inr ex_, S1_, 1) ∧ ex_ ∈ ([0, 1] : List Nat) ∧ vx_237t kk_ bb_ S0_ ex_ S1_) := by
  have hF_ : ai_fr (sx_W vw_237t) S0_ S0_ := ai_fr_rf
  refine sm_T_go 2 (c1 := (2, [some (.inr (.inr (some (12, 0)))), some (.inl kk_), some (.inl bb_), none, none], [.inl kk_, .inr (.inr (some (12, 0)))], S0_)) rfl ?_
  refine sm_T_cale (d1_ := 1) (Q1_ := vq_272t kk_ S0_) (Q2_ := (fun ex_ S1_ => ex_ ∈ ([0] : List Nat) ∧ vx_272t kk_ S0_ S1_)) rfl rfl (by decide) (vc_272t kk_ S0_ hI_ ) rfl (fun xx6_ Sx1_ px4_ => ?_) (fun u_ Sx1_ px4_ => ?_)
  · obtain ⟨px4m, hIx2_, hFx3_, px4_⟩ := px4_
    refine Or.inr ⟨_, _, rfl, by first | exact px4m | (simp only [List.mem_cons, List.not_mem_nil, or_false] at px4m ⊢; omega), hIx2_, ai_fr_tr hF_ (fr_le hFx3_ rfl), ?_⟩
    exact ⟨px4_.1, Or.inl ⟨List.mem_singleton.mp px4m, fun y9_ => px4_.2 y9_.1⟩⟩
  obtain ⟨rfl, -, -, rfl, px4_⟩ := px4_
  have a9_ := px4_
  have J9_ := hJ_.2.1 kk_.toNat (by omega) a9_.2
  have J1_ := J9_.1
  have q9_ := a9_.2
  have c8_ : 0 ≤ S0_.1 2 (kk_.toNat) 8 ∧ S0_.1 2 (kk_.toNat) 8 ≤ 150 := hI_.1 2 (kk_.toNat) 8 rfl
  have c1_ : 0 ≤ S0_.1 2 (kk_.toNat) 1 ∧ S0_.1 2 (kk_.toNat) 1 ≤ 12 := hI_.1 2 (kk_.toNat) 1 rfl
  have c2_ : 0 ≤ S0_.1 2 (kk_.toNat) 2 ∧ S0_.1 2 (kk_.toNat) 2 ≤ 6 := hI_.1 2 (kk_.toNat) 2 rfl
  refine sm_T_go 3 (c1 := (8, [some (.inr (.inr (some (12, 0)))), some (.inl kk_), some (.inl bb_), some (.inr (.inr (some (2, kk_.toNat)))), none], [.inl bb_, .inr (.inr (some (12, 0)))], S0_)) rfl ?_
  refine sm_T_cale (d1_ := 1) (Q1_ := vq_270t bb_ S0_) (Q2_ := (fun ex_ S1_ => ex_ ∈ ([0] : List Nat) ∧ vx_270t bb_ S0_ S1_)) rfl rfl (by decide) (vc_270t bb_ S0_ hI_ ) rfl (fun xx12_ Sx7_ px10_ => ?_) (fun u_ Sx7_ px10_ => ?_)
  · obtain ⟨px10m, hIx8_, hFx9_, px10_⟩ := px10_
    refine Or.inr ⟨_, _, rfl, by first | exact px10m | (simp only [List.mem_cons, List.not_mem_nil, or_false] at px10m ⊢; omega), hIx8_, ai_fr_tr hF_ (fr_le hFx9_ rfl), ?_⟩
    exact ⟨px10_.1, Or.inl ⟨List.mem_singleton.mp px10m, fun y9_ => px10_.2 y9_.2⟩⟩
  obtain ⟨rfl, -, -, rfl, px10_⟩ := px10_
  have d2_ := px10_
  have k2_ := hJ_.1 bb_.toNat (by omega) d2_.2
  have b2_ := dOk_b k2_
  have x2_ := b2_.1
  have y2_ := b2_.2.1
  have bx13_ : 0 ≤ S0_.1 2 kk_.toNat 1 ∧ S0_.1 2 kk_.toNat 1 ≤ 12 := hI_.1 2 kk_.toNat 1 rfl
  have bx14_ : 0 ≤ S0_.1 3 bb_.toNat 1 ∧ S0_.1 3 bb_.toNat 1 ≤ 320 := hI_.1 3 bb_.toNat 1 rfl
  refine sm_T_go 5 (c1 := (22, [some (.inr (.inr (some (12, 0)))), some (.inl kk_), some (.inl bb_), some (.inr (.inr (some (2, kk_.toNat)))), some (.inr (.inr (some (3, bb_.toNat))))], [.inl (S0_.1 3 bb_.toNat 1), .inl (S0_.1 2 kk_.toNat 1)], S0_)) rfl ?_
  refine sm_T_br (a := 1) (z := 19) rfl (fun cx15_ => ?_) (fun cx15_ => ?_)
  · have cx15_ : (S0_.1 2 kk_.toNat 1) ≠ (S0_.1 3 bb_.toNat 1) := of_decide_eq_true cx15_
    refine sm_T_go 1 (c1 := (42, [some (.inr (.inr (some (12, 0)))), some (.inl kk_), some (.inl bb_), some (.inr (.inr (some (2, kk_.toNat)))), some (.inr (.inr (some (3, bb_.toNat))))], [.inl 0], S0_)) rfl ?_
    refine sm_T_cale (d1_ := 0) (Q1_ := vq_266e 0 S0_) (Q2_ := (fun ex_ S1_ => ex_ ∈ ([1] : List Nat) ∧ vx_266e 0 S0_ S1_)) rfl rfl (by decide) (vc_266e 0 S0_ hI_ ) rfl (fun xx21_ Sx16_ px19_ => ?_) (fun u_ Sx16_ px19_ => ?_)
    · obtain ⟨px19m, hIx17_, hFx18_, px19_⟩ := px19_
      refine Or.inr ⟨_, _, rfl, by first | exact px19m | (simp only [List.mem_cons, List.not_mem_nil, or_false] at px19m ⊢; omega), hIx17_, ai_fr_tr hF_ (fr_le hFx18_ rfl), ?_⟩
      first | exact ⟨px19_.2, Or.inl ⟨List.mem_singleton.mp px19m, by (have y9_ := px19_.1; unfold oka_proves; omega)⟩⟩ | exact ⟨px19_.2, Or.inr ⟨List.mem_singleton.mp px19m, by (unfold oka_proves; omega), by (have y9_ := px19_.1; unfold okc_proves oka_proves; omega)⟩⟩
    · exact absurd rfl px19_.2.2.2.1
  · have cx15_ : ¬ ((S0_.1 2 kk_.toNat 1) ≠ (S0_.1 3 bb_.toNat 1)) := of_decide_eq_false cx15_
    have bx22_ : 0 ≤ S0_.1 2 kk_.toNat 3 ∧ S0_.1 2 kk_.toNat 3 ≤ 16 := hI_.1 2 kk_.toNat 3 rfl
    have bx23_ : 0 ≤ S0_.1 3 bb_.toNat 3 ∧ S0_.1 3 bb_.toNat 3 ≤ 320 := hI_.1 3 bb_.toNat 3 rfl
    refine sm_T_go 4 (c1 := (34, [some (.inr (.inr (some (12, 0)))), some (.inl kk_), some (.inl bb_), some (.inr (.inr (some (2, kk_.toNat)))), some (.inr (.inr (some (3, bb_.toNat))))], [.inl (S0_.1 3 bb_.toNat 3), .inl (S0_.1 2 kk_.toNat 3)], S0_)) rfl ?_
    refine sm_T_br (a := 1) (z := 7) rfl (fun cx24_ => ?_) (fun cx24_ => ?_)
    · have cx24_ : (S0_.1 2 kk_.toNat 3) ≠ (S0_.1 3 bb_.toNat 3) := of_decide_eq_true cx24_
      refine sm_T_go 1 (c1 := (42, [some (.inr (.inr (some (12, 0)))), some (.inl kk_), some (.inl bb_), some (.inr (.inr (some (2, kk_.toNat)))), some (.inr (.inr (some (3, bb_.toNat))))], [.inl 0], S0_)) rfl ?_
      refine sm_T_cale (d1_ := 0) (Q1_ := vq_266e 0 S0_) (Q2_ := (fun ex_ S1_ => ex_ ∈ ([1] : List Nat) ∧ vx_266e 0 S0_ S1_)) rfl rfl (by decide) (vc_266e 0 S0_ hI_ ) rfl (fun xx30_ Sx25_ px28_ => ?_) (fun u_ Sx25_ px28_ => ?_)
      · obtain ⟨px28m, hIx26_, hFx27_, px28_⟩ := px28_
        refine Or.inr ⟨_, _, rfl, by first | exact px28m | (simp only [List.mem_cons, List.not_mem_nil, or_false] at px28m ⊢; omega), hIx26_, ai_fr_tr hF_ (fr_le hFx27_ rfl), ?_⟩
        first | exact ⟨px28_.2, Or.inl ⟨List.mem_singleton.mp px28m, by (have y9_ := px28_.1; unfold oka_proves; omega)⟩⟩ | exact ⟨px28_.2, Or.inr ⟨List.mem_singleton.mp px28m, by (unfold oka_proves; omega), by (have y9_ := px28_.1; unfold okc_proves oka_proves; omega)⟩⟩
      · exact absurd rfl px28_.2.2.2.1
    · have cx24_ : ¬ ((S0_.1 2 kk_.toNat 3) ≠ (S0_.1 3 bb_.toNat 3)) := of_decide_eq_false cx24_
      refine sm_T_go 2 (c1 := (42, [some (.inr (.inr (some (12, 0)))), some (.inl kk_), some (.inl bb_), some (.inr (.inr (some (2, kk_.toNat)))), some (.inr (.inr (some (3, bb_.toNat))))], [.inl 1], S0_)) rfl ?_
      refine sm_T_cale (d1_ := 0) (Q1_ := vq_266e 1 S0_) (Q2_ := (fun ex_ S1_ => ex_ ∈ ([1] : List Nat) ∧ vx_266e 1 S0_ S1_)) rfl rfl (by decide) (vc_266e 1 S0_ hI_ ) rfl (fun xx36_ Sx31_ px34_ => ?_) (fun u_ Sx31_ px34_ => ?_)
      · exact absurd px34_.2.2.2.1 (by decide)
      obtain ⟨rfl, -, -, px34_, rfl⟩ := px34_
      have bx37_ : 0 ≤ S0_.1 2 kk_.toNat 4 ∧ S0_.1 2 kk_.toNat 4 ≤ 63 := hI_.1 2 kk_.toNat 4 rfl
      refine sm_T_go 6 (c1 := (56, [some (.inr (.inr (some (12, 0)))), some (.inl kk_), some (.inl bb_), some (.inr (.inr (some (2, kk_.toNat)))), some (.inr (.inr (some (3, bb_.toNat))))], [.inr (.inr (some (3, bb_.toNat))), .inl (S0_.1 2 kk_.toNat 4), .inr (.inr (some (34, (0 + kk_.toNat)))), .inr (.inr (some (12, 0)))], S0_)) rfl ?_
      refine sm_T_nt (u := some (.inl 65535)) (S1 := S0_) rfl rfl rfl ?_
      refine sm_T_cal (d1 := 1) (Q1 := vq_276cw (S0_.1 2 kk_.toNat 4) 65535 kk_.toNat bb_.toNat (S0_.1 2 kk_.toNat 2).toNat S0_) rfl rfl (by decide) (vc_276cw (S0_.1 2 kk_.toNat 4) 65535 kk_.toNat bb_.toNat (S0_.1 2 kk_.toNat 2).toNat S0_ hI_ (by exact k2_) (by exact J9_.2.1) (by omega) (by exact J9_.2.2.2.1)) (fun u_ Sx38_ px41_ => ?_)
      obtain ⟨vx43_, rfl, hIx39_, hFx40_, px41_⟩ := px41_
      have hFx42_ : ai_fr (sx_W vw_237t) S0_ Sx38_ := ai_fr_tr hF_ (fr_le hFx40_ rfl)
      have ex44_ : Sx38_.1 2 kk_.toNat 3 = S0_.1 2 kk_.toNat 3 := hFx40_.1 2 kk_.toNat 3 rfl
      have ex45_ : Sx38_.1 2 kk_.toNat 4 = S0_.1 2 kk_.toNat 4 := hFx40_.1 2 kk_.toNat 4 rfl
      have ex46_ : Sx38_.1 3 bb_.toNat 3 = S0_.1 3 bb_.toNat 3 := hFx40_.1 3 bb_.toNat 3 rfl
      have ex47_ : Sx38_.1 3 bb_.toNat 1 = S0_.1 3 bb_.toNat 1 := hFx40_.1 3 bb_.toNat 1 rfl
      have ex48_ : Sx38_.1 2 kk_.toNat 1 = S0_.1 2 kk_.toNat 1 := hFx40_.1 2 kk_.toNat 1 rfl
      have e58_ := px41_
      refine sm_T_ri rfl (Or.inl ⟨_, _, rfl, _, rfl, hIx39_, hFx42_, ?_⟩)
      exact ⟨jC_fr hJ_ hFx42_ (by decide) (by decide) (by decide) (by decide) (by decide) rfl rfl rfl rfl rfl rfl, spc_pv hFx42_ ⟨by (unfold okc_proves oka_proves; omega), e58_⟩⟩
