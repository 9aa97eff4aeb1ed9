/-! ChipFlow.violation -/
def vw_251 : sx_Wl := ([(4, 3), (4, 8), (4, 9)], [50], [])
def vq_251 (kk_ : Int) (k_ : Int) (sd_ : Int) (S0_ : sm_S) (u_ : Option sm_V) (S1_ : sm_S) : Prop := ∃ v_ : Int, u_ = some (.inl v_) ∧ gi S1_ ∧ ai_fr (sx_W vw_251) S0_ S1_ ∧ (jC S1_)
def vx_251 (kk_ : Int) (k_ : Int) (sd_ : Int) (S0_ : sm_S) (S1_ : sm_S) : Prop := gi S1_ ∧ ai_fr (sx_W vw_251) S0_ S1_ ∧ (jC S1_)
set_option maxHeartbeats 400000 in
theorem vc_251 {sc_ : Nat × (Nat → Int)} (kk_ : Int) (k_ : Int) (sd_ : Int) (S0_ : sm_S) (hI_ : gi S0_) (hJ_ : jC S0_) (hk9_ : -2147483648 ≤ k_ ∧ k_ ≤ 2147483647) : sm_T (mt_P sc_) 3 251 (0, [some (.inr (.inr (some (12, 0)))), some (.inl kk_), some (.inl k_), some (.inl sd_), none], [], S0_) (fun ro9_ => (∃ u_ S1_, ro9_ = (.inl u_, S1_, 0) ∧ vq_251 kk_ k_ sd_ S0_ u_ S1_) ∨ ∃ ex_ S1_, ro9_ = (.inr ex_, S1_, 1) ∧ ex_ ∈ ([0, 2] : List Nat) ∧ vx_251 kk_ k_ sd_ S0_ S1_) := by
  have hF_ : ai_fr (sx_W vw_251) S0_ S0_ := ai_fr_rf
  refine sm_T_go 2 (c1 := (2, [some (.inr (.inr (some (12, 0)))), some (.inl kk_), some (.inl k_), some (.inl sd_), none], [.inl kk_, .inr (.inr (some (12, 0)))], S0_)) rfl ?_
  refine sm_T_cale (d1_ := 1) (Q1_ := vq_272 kk_ S0_) (Q2_ := (fun ex_ S1_ => ex_ ∈ ([0] : List Nat) ∧ vx_272 kk_ S0_ S1_)) rfl rfl (by decide) (vc_272 kk_ S0_ hI_ ) rfl (fun xx6_ Sx1_ px4_ => ?_) (fun u_ Sx1_ px4_ => ?_)
  · obtain ⟨px4m, hIx2_, hFx3_, px4_⟩ := px4_
    refine Or.inr ⟨_, _, rfl, by first | exact px4m | (simp only [List.mem_cons, List.not_mem_nil, or_false] at px4m ⊢; omega), hIx2_, ai_fr_tr hF_ (fr_le hFx3_ rfl), ?_⟩
    first | (rw [px4_.2]; exact hJ_) | (rw [px4_]; exact hJ_)
  obtain ⟨rfl, -, -, rfl, px4_⟩ := px4_
  have a9_ := px4_
  have J9_ := hJ_.2.1 kk_.toNat (by omega) a9_.2
  have J1_ := J9_.1
  have q9_ := a9_.2
  have c8_ : 0 ≤ S0_.1 2 (kk_.toNat) 8 ∧ S0_.1 2 (kk_.toNat) 8 ≤ 150 := hI_.1 2 (kk_.toNat) 8 rfl
  have c1_ : 0 ≤ S0_.1 2 (kk_.toNat) 1 ∧ S0_.1 2 (kk_.toNat) 1 ≤ 12 := hI_.1 2 (kk_.toNat) 1 rfl
  have c2_ : 0 ≤ S0_.1 2 (kk_.toNat) 2 ∧ S0_.1 2 (kk_.toNat) 2 ≤ 6 := hI_.1 2 (kk_.toNat) 2 rfl
  refine sm_T_go 4 (c1 := (14, [some (.inr (.inr (some (12, 0)))), some (.inl kk_), some (.inl k_), some (.inl sd_), some (.inr (.inr (some (4, (0 + (0 + kk_.toNat))))))], [.inl k_], S0_)) rfl ?_
  refine sm_T_b0 (a := 2) (z := 16) rfl (fun cx7_ => ?_) (fun cx7_ => ?_)
  · have cx7_ : k_ < 0 := of_decide_eq_true cx7_
    refine sm_T_go 1 (c1 := (31, [some (.inr (.inr (some (12, 0)))), some (.inl kk_), some (.inl k_), some (.inl sd_), some (.inr (.inr (some (4, (0 + (0 + kk_.toNat))))))], [.inl 0], S0_)) rfl ?_
    refine sm_T_cale (d1_ := 0) (Q1_ := vq_265e 0 S0_) (Q2_ := (fun ex_ S1_ => ex_ ∈ ([0] : List Nat) ∧ vx_265e 0 S0_ S1_)) rfl rfl (by decide) (vc_265e 0 S0_ hI_ ) rfl (fun xx13_ Sx8_ px11_ => ?_) (fun u_ Sx8_ px11_ => ?_)
    · obtain ⟨px11m, hIx9_, hFx10_, px11_⟩ := px11_
      refine Or.inr ⟨_, _, rfl, by first | exact px11m | (simp only [List.mem_cons, List.not_mem_nil, or_false] at px11m ⊢; omega), hIx9_, ai_fr_tr hF_ (fr_le hFx10_ rfl), ?_⟩
      first | (rw [px11_.2]; exact hJ_) | (rw [px11_]; exact hJ_)
    · exact absurd rfl px11_.2.2.2.1
  · have cx7_ : ¬ (k_ < 0) := of_decide_eq_false cx7_
    refine sm_T_go 1 (c1 := (18, [some (.inr (.inr (some (12, 0)))), some (.inl kk_), some (.inl k_), some (.inl sd_), some (.inr (.inr (some (4, (0 + (0 + kk_.toNat))))))], [.inl sd_], S0_)) rfl ?_
    refine sm_T_b0 (a := 0) (z := 8) rfl (fun cx14_ => ?_) (fun cx14_ => ?_)
    · have cx14_ : sd_ = 0 := of_decide_eq_true cx14_
      refine sm_T_go 2 (c1 := (31, [some (.inr (.inr (some (12, 0)))), some (.inl kk_), some (.inl k_), some (.inl sd_), some (.inr (.inr (some (4, (0 + (0 + kk_.toNat))))))], [.inl 1], S0_)) rfl ?_
      refine sm_T_cale (d1_ := 0) (Q1_ := vq_265e 1 S0_) (Q2_ := (fun ex_ S1_ => ex_ ∈ ([0] : List Nat) ∧ vx_265e 1 S0_ S1_)) rfl rfl (by decide) (vc_265e 1 S0_ hI_ ) rfl (fun xx20_ Sx15_ px18_ => ?_) (fun u_ Sx15_ px18_ => ?_)
      · exact absurd px18_.2.2.2.1 (by decide)
      obtain ⟨rfl, -, -, px18_, rfl⟩ := px18_
      have bx21_ : 0 ≤ S0_.1 4 (0 + (0 + kk_.toNat)) 0 ∧ S0_.1 4 (0 + (0 + kk_.toNat)) 0 ≤ 1 := hI_.1 4 (0 + (0 + kk_.toNat)) 0 rfl
      refine sm_T_go 2 (c1 := (39, [some (.inr (.inr (some (12, 0)))), some (.inl kk_), some (.inl k_), some (.inl sd_), some (.inr (.inr (some (4, (0 + (0 + kk_.toNat))))))], [.inl (S0_.1 4 (0 + (0 + kk_.toNat)) 0)], S0_)) rfl ?_
      refine sm_T_cale (d1_ := 0) (Q1_ := vq_267e (S0_.1 4 (0 + (0 + kk_.toNat)) 0) S0_) (Q2_ := (fun ex_ S1_ => ex_ ∈ ([2] : List Nat) ∧ vx_267e (S0_.1 4 (0 + (0 + kk_.toNat)) 0) S0_ S1_)) rfl rfl (by decide) (vc_267e (S0_.1 4 (0 + (0 + kk_.toNat)) 0) S0_ hI_ ) rfl (fun xx27_ Sx22_ px25_ => ?_) (fun u_ Sx22_ px25_ => ?_)
      · obtain ⟨px25m, hIx23_, hFx24_, px25_⟩ := px25_
        refine Or.inr ⟨_, _, rfl, by first | exact px25m | (simp only [List.mem_cons, List.not_mem_nil, or_false] at px25m ⊢; omega), hIx23_, ai_fr_tr hF_ (fr_le hFx24_ rfl), ?_⟩
        first | (rw [px25_.2]; exact hJ_) | (rw [px25_]; exact hJ_)
      obtain ⟨rfl, -, -, px25_, rfl⟩ := px25_
      refine sm_T_go 1 (c1 := (44, [some (.inr (.inr (some (12, 0)))), some (.inl kk_), some (.inl k_), some (.inl sd_), some (.inr (.inr (some (4, (0 + (0 + kk_.toNat))))))], [.inr (.inr (some (4, (0 + (0 + kk_.toNat)))))], S0_)) rfl ?_
      refine sm_T_cal (d1 := 1) (Q1 := vq_79 (0 + (0 + kk_.toNat)) S0_) rfl rfl (by decide) (vc_79 (0 + (0 + kk_.toNat)) S0_ hI_ ) (fun u_ Sx28_ px31_ => ?_)
      obtain ⟨rfl, hIx29_, hFx30_, px31_⟩ := px31_
      have hFx32_ : ai_fr (sx_W vw_251) S0_ Sx28_ := ai_fr_tr hF_ (fr_le hFx30_ rfl)
      obtain ⟨dx33_, px31_⟩ := px31_
      have J8_ := jC_fr hJ_ hFx32_ (by decide) (by decide) (by decide) (by decide) (by decide) rfl rfl rfl rfl rfl rfl
      have bx34_ : 0 ≤ Sx28_.1 4 (0 + (0 + kk_.toNat)) 3 ∧ Sx28_.1 4 (0 + (0 + kk_.toNat)) 3 ≤ 1073741823 := hIx29_.1 4 (0 + (0 + kk_.toNat)) 3 rfl
      refine sm_T_go 3 (c1 := (53, [some (.inr (.inr (some (12, 0)))), some (.inl kk_), some (.inl k_), some (.inl sd_), some (.inr (.inr (some (4, (0 + (0 + kk_.toNat))))))], [.inl (Sx28_.1 4 (0 + (0 + kk_.toNat)) 3), .inl k_], Sx28_)) rfl ?_
      refine sm_T_br (a := 3) (z := 7) rfl (fun cx35_ => ?_) (fun cx35_ => ?_)
      · have cx35_ : (Sx28_.1 4 (0 + (0 + kk_.toNat)) 3) ≤ k_ := of_decide_eq_true cx35_
        refine sm_T_go 1 (c1 := (61, [some (.inr (.inr (some (12, 0)))), some (.inl kk_), some (.inl k_), some (.inl sd_), some (.inr (.inr (some (4, (0 + (0 + kk_.toNat))))))], [.inl 0], Sx28_)) rfl ?_
        refine sm_T_cale (d1_ := 0) (Q1_ := vq_265e 0 Sx28_) (Q2_ := (fun ex_ S1_ => ex_ ∈ ([0] : List Nat) ∧ vx_265e 0 Sx28_ S1_)) rfl rfl (by decide) (vc_265e 0 Sx28_ hIx29_ ) rfl (fun xx41_ Sx36_ px39_ => ?_) (fun u_ Sx36_ px39_ => ?_)
        · obtain ⟨px39m, hIx37_, hFx38_, px39_⟩ := px39_
          refine Or.inr ⟨_, _, rfl, by first | exact px39m | (simp only [List.mem_cons, List.not_mem_nil, or_false] at px39m ⊢; omega), hIx37_, ai_fr_tr hFx32_ (fr_le hFx38_ rfl), ?_⟩
          rw [px39_.2]; exact J8_
        · exact absurd rfl px39_.2.2.2.1
      · have cx35_ : ¬ ((Sx28_.1 4 (0 + (0 + kk_.toNat)) 3) ≤ k_) := of_decide_eq_false cx35_
        refine sm_T_go 2 (c1 := (61, [some (.inr (.inr (some (12, 0)))), some (.inl kk_), some (.inl k_), some (.inl sd_), some (.inr (.inr (some (4, (0 + (0 + kk_.toNat))))))], [.inl 1], Sx28_)) rfl ?_
        refine sm_T_cale (d1_ := 0) (Q1_ := vq_265e 1 Sx28_) (Q2_ := (fun ex_ S1_ => ex_ ∈ ([0] : List Nat) ∧ vx_265e 1 Sx28_ S1_)) rfl rfl (by decide) (vc_265e 1 Sx28_ hIx29_ ) rfl (fun xx47_ Sx42_ px45_ => ?_) (fun u_ Sx42_ px45_ => ?_)
        · exact absurd px45_.2.2.2.1 (by decide)
        obtain ⟨rfl, -, -, px45_, rfl⟩ := px45_
        refine sm_T_go 3 (c1 := (68, [some (.inr (.inr (some (12, 0)))), some (.inl kk_), some (.inl k_), some (.inl sd_), some (.inr (.inr (some (4, (0 + (0 + kk_.toNat))))))], [.inl sd_, .inl k_, .inr (.inr (some (4, (0 + (0 + kk_.toNat)))))], Sx28_)) rfl ?_
        refine sm_T_cal (d1 := 2) (Q1 := vq_80 k_ sd_ (0 + (0 + kk_.toNat)) Sx28_) rfl rfl (by decide) (vc_80 k_ sd_ (0 + (0 + kk_.toNat)) Sx28_ hIx29_ (by omega)) (fun u_ Sx48_ px51_ => ?_)
        obtain ⟨rfl, vx53_, rfl, px51_⟩ := px51_
        refine sm_T_ri rfl (Or.inl ⟨_, _, rfl, _, rfl, hIx29_, hFx32_, ?_⟩)
        exact J8_
    · have cx14_ : ¬ (sd_ = 0) := of_decide_eq_false cx14_
      refine sm_T_go 2 (c1 := (23, [some (.inr (.inr (some (12, 0)))), some (.inl kk_), some (.inl k_), some (.inl sd_), some (.inr (.inr (some (4, (0 + (0 + kk_.toNat))))))], [.inl 1, .inl sd_], S0_)) rfl ?_
      refine sm_T_br (a := 1) (z := 7) rfl (fun cx54_ => ?_) (fun cx54_ => ?_)
      · have cx54_ : sd_ ≠ 1 := of_decide_eq_true cx54_
        refine sm_T_go 1 (c1 := (31, [some (.inr (.inr (some (12, 0)))), some (.inl kk_), some (.inl k_), some (.inl sd_), some (.inr (.inr (some (4, (0 + (0 + kk_.toNat))))))], [.inl 0], S0_)) rfl ?_
        refine sm_T_cale (d1_ := 0) (Q1_ := vq_265e 0 S0_) (Q2_ := (fun ex_ S1_ => ex_ ∈ ([0] : List Nat) ∧ vx_265e 0 S0_ S1_)) rfl rfl (by decide) (vc_265e 0 S0_ hI_ ) rfl (fun xx60_ Sx55_ px58_ => ?_) (fun u_ Sx55_ px58_ => ?_)
        · obtain ⟨px58m, hIx56_, hFx57_, px58_⟩ := px58_
          refine Or.inr ⟨_, _, rfl, by first | exact px58m | (simp only [List.mem_cons, List.not_mem_nil, or_false] at px58m ⊢; omega), hIx56_, ai_fr_tr hF_ (fr_le hFx57_ rfl), ?_⟩
          first | (rw [px58_.2]; exact hJ_) | (rw [px58_]; exact hJ_)
        · exact absurd rfl px58_.2.2.2.1
      · have cx54_ : ¬ (sd_ ≠ 1) := of_decide_eq_false cx54_
        refine sm_T_go 2 (c1 := (31, [some (.inr (.inr (some (12, 0)))), some (.inl kk_), some (.inl k_), some (.inl sd_), some (.inr (.inr (some (4, (0 + (0 + kk_.toNat))))))], [.inl 1], S0_)) rfl ?_
        refine sm_T_cale (d1_ := 0) (Q1_ := vq_265e 1 S0_) (Q2_ := (fun ex_ S1_ => ex_ ∈ ([0] : List Nat) ∧ vx_265e 1 S0_ S1_)) rfl rfl (by decide) (vc_265e 1 S0_ hI_ ) rfl (fun xx66_ Sx61_ px64_ => ?_) (fun u_ Sx61_ px64_ => ?_)
        · exact absurd px64_.2.2.2.1 (by decide)
        obtain ⟨rfl, -, -, px64_, rfl⟩ := px64_
        have bx67_ : 0 ≤ S0_.1 4 (0 + (0 + kk_.toNat)) 0 ∧ S0_.1 4 (0 + (0 + kk_.toNat)) 0 ≤ 1 := hI_.1 4 (0 + (0 + kk_.toNat)) 0 rfl
        refine sm_T_go 2 (c1 := (39, [some (.inr (.inr (some (12, 0)))), some (.inl kk_), some (.inl k_), some (.inl sd_), some (.inr (.inr (some (4, (0 + (0 + kk_.toNat))))))], [.inl (S0_.1 4 (0 + (0 + kk_.toNat)) 0)], S0_)) rfl ?_
        refine sm_T_cale (d1_ := 0) (Q1_ := vq_267e (S0_.1 4 (0 + (0 + kk_.toNat)) 0) S0_) (Q2_ := (fun ex_ S1_ => ex_ ∈ ([2] : List Nat) ∧ vx_267e (S0_.1 4 (0 + (0 + kk_.toNat)) 0) S0_ S1_)) rfl rfl (by decide) (vc_267e (S0_.1 4 (0 + (0 + kk_.toNat)) 0) S0_ hI_ ) rfl (fun xx73_ Sx68_ px71_ => ?_) (fun u_ Sx68_ px71_ => ?_)
        · obtain ⟨px71m, hIx69_, hFx70_, px71_⟩ := px71_
          refine Or.inr ⟨_, _, rfl, by first | exact px71m | (simp only [List.mem_cons, List.not_mem_nil, or_false] at px71m ⊢; omega), hIx69_, ai_fr_tr hF_ (fr_le hFx70_ rfl), ?_⟩
          first | (rw [px71_.2]; exact hJ_) | (rw [px71_]; exact hJ_)
        obtain ⟨rfl, -, -, px71_, rfl⟩ := px71_
        refine sm_T_go 1 (c1 := (44, [some (.inr (.inr (some (12, 0)))), some (.inl kk_), some (.inl k_), some (.inl sd_), some (.inr (.inr (some (4, (0 + (0 + kk_.toNat))))))], [.inr (.inr (some (4, (0 + (0 + kk_.toNat)))))], S0_)) rfl ?_
        refine sm_T_cal (d1 := 1) (Q1 := vq_79 (0 + (0 + kk_.toNat)) S0_) rfl rfl (by decide) (vc_79 (0 + (0 + kk_.toNat)) S0_ hI_ ) (fun u_ Sx74_ px77_ => ?_)
        obtain ⟨rfl, hIx75_, hFx76_, px77_⟩ := px77_
        have hFx78_ : ai_fr (sx_W vw_251) S0_ Sx74_ := ai_fr_tr hF_ (fr_le hFx76_ rfl)
        obtain ⟨dx79_, px77_⟩ := px77_
        have J8_ := jC_fr hJ_ hFx78_ (by decide) (by decide) (by decide) (by decide) (by decide) rfl rfl rfl rfl rfl rfl
        have bx80_ : 0 ≤ Sx74_.1 4 (0 + (0 + kk_.toNat)) 3 ∧ Sx74_.1 4 (0 + (0 + kk_.toNat)) 3 ≤ 1073741823 := hIx75_.1 4 (0 + (0 + kk_.toNat)) 3 rfl
        refine sm_T_go 3 (c1 := (53, [some (.inr (.inr (some (12, 0)))), some (.inl kk_), some (.inl k_), some (.inl sd_), some (.inr (.inr (some (4, (0 + (0 + kk_.toNat))))))], [.inl (Sx74_.1 4 (0 + (0 + kk_.toNat)) 3), .inl k_], Sx74_)) rfl ?_
        refine sm_T_br (a := 3) (z := 7) rfl (fun cx81_ => ?_) (fun cx81_ => ?_)
        · have cx81_ : (Sx74_.1 4 (0 + (0 + kk_.toNat)) 3) ≤ k_ := of_decide_eq_true cx81_
          refine sm_T_go 1 (c1 := (61, [some (.inr (.inr (some (12, 0)))), some (.inl kk_), some (.inl k_), some (.inl sd_), some (.inr (.inr (some (4, (0 + (0 + kk_.toNat))))))], [.inl 0], Sx74_)) rfl ?_
          refine sm_T_cale (d1_ := 0) (Q1_ := vq_265e 0 Sx74_) (Q2_ := (fun ex_ S1_ => ex_ ∈ ([0] : List Nat) ∧ vx_265e 0 Sx74_ S1_)) rfl rfl (by decide) (vc_265e 0 Sx74_ hIx75_ ) rfl (fun xx87_ Sx82_ px85_ => ?_) (fun u_ Sx82_ px85_ => ?_)
          · obtain ⟨px85m, hIx83_, hFx84_, px85_⟩ := px85_
            refine Or.inr ⟨_, _, rfl, by first | exact px85m | (simp only [List.mem_cons, List.not_mem_nil, or_false] at px85m ⊢; omega), hIx83_, ai_fr_tr hFx78_ (fr_le hFx84_ rfl), ?_⟩
            rw [px85_.2]; exact J8_
          · exact absurd rfl px85_.2.2.2.1
        · have cx81_ : ¬ ((Sx74_.1 4 (0 + (0 + kk_.toNat)) 3) ≤ k_) := of_decide_eq_false cx81_
          refine sm_T_go 2 (c1 := (61, [some (.inr (.inr (some (12, 0)))), some (.inl kk_), some (.inl k_), some (.inl sd_), some (.inr (.inr (some (4, (0 + (0 + kk_.toNat))))))], [.inl 1], Sx74_)) rfl ?_
          refine sm_T_cale (d1_ := 0) (Q1_ := vq_265e 1 Sx74_) (Q2_ := (fun ex_ S1_ => ex_ ∈ ([0] : List Nat) ∧ vx_265e 1 Sx74_ S1_)) rfl rfl (by decide) (vc_265e 1 Sx74_ hIx75_ ) rfl (fun xx93_ Sx88_ px91_ => ?_) (fun u_ Sx88_ px91_ => ?_)
          · exact absurd px91_.2.2.2.1 (by decide)
          obtain ⟨rfl, -, -, px91_, rfl⟩ := px91_
          refine sm_T_go 3 (c1 := (68, [some (.inr (.inr (some (12, 0)))), some (.inl kk_), some (.inl k_), some (.inl sd_), some (.inr (.inr (some (4, (0 + (0 + kk_.toNat))))))], [.inl sd_, .inl k_, .inr (.inr (some (4, (0 + (0 + kk_.toNat)))))], Sx74_)) rfl ?_
          refine sm_T_cal (d1 := 2) (Q1 := vq_80 k_ sd_ (0 + (0 + kk_.toNat)) Sx74_) rfl rfl (by decide) (vc_80 k_ sd_ (0 + (0 + kk_.toNat)) Sx74_ hIx75_ (by omega)) (fun u_ Sx94_ px97_ => ?_)
          obtain ⟨rfl, vx99_, rfl, px97_⟩ := px97_
          refine sm_T_ri rfl (Or.inl ⟨_, _, rfl, _, rfl, hIx75_, hFx78_, ?_⟩)
          exact J8_
