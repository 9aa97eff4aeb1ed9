/-! ChipFlow.changes -/
def vw_257 : sx_Wl := ([(11, 13), (11, 14), (11, 15), (11, 16)], [99, 107, 108, 109], [(11, 12)])
def vq_257 (kk_ : Int) (a_ : Int) (b_ : Int) (n_ : Int) (S0_ : sm_S) (u_ : Option sm_V) (S1_ : sm_S) : Prop := ∃ v_ : Int, u_ = some (.inl v_) ∧ gi S1_ ∧ ai_fr (sx_W vw_257) S0_ S1_ ∧ (jC S1_)
def vx_257 (kk_ : Int) (a_ : Int) (b_ : Int) (n_ : Int) (S0_ : sm_S) (S1_ : sm_S) : Prop := gi S1_ ∧ ai_fr (sx_W vw_257) S0_ S1_ ∧ (jC S1_)
set_option maxHeartbeats 400000 in
theorem vc_257 {sc_ : Nat × (Nat → Int)} (kk_ : Int) (a_ : Int) (b_ : Int) (n_ : Int) (S0_ : sm_S) (hI_ : gi S0_) (hJ_ : jC S0_) : sm_T (mt_P sc_) 3 257 (0, [some (.inr (.inr (some (12, 0)))), some (.inl kk_), some (.inl a_), some (.inl b_), some (.inl n_), none], [], S0_) (fun ro9_ => (∃ u_ S1_, ro9_ = (.inl u_, S1_, 0) ∧ vq_257 kk_ a_ b_ n_ S0_ u_ S1_) ∨ ∃ ex_ S1_, ro9_ = (.inr ex_, S1_, 1) ∧ ex_ ∈ ([0, 1, 3] : List Nat) ∧ vx_257 kk_ a_ b_ n_ S0_ S1_) := by
  have hF_ : ai_fr (sx_W vw_257) S0_ S0_ := ai_fr_rf
  refine sm_T_go 2 (c1 := (2, [some (.inr (.inr (some (12, 0)))), some (.inl kk_), some (.inl a_), some (.inl b_), some (.inl n_), none], [.inl kk_, .inr (.inr (some (12, 0)))], S0_)) rfl ?_
  refine sm_T_cale (d1_ := 1) (Q1_ := vq_272 kk_ S0_) (Q2_ := (fun ex_ S1_ => ex_ ∈ ([0] : List Nat) ∧ vx_272 kk_ S0_ S1_)) rfl rfl (by decide) (vc_272 kk_ S0_ hI_ ) rfl (fun xx6_ Sx1_ px4_ => ?_) (fun u_ Sx1_ px4_ => ?_)
  · obtain ⟨px4m, hIx2_, hFx3_, px4_⟩ := px4_
    refine Or.inr ⟨_, _, rfl, by first | exact px4m | (simp only [List.mem_cons, List.not_mem_nil, or_false] at px4m ⊢; omega), hIx2_, ai_fr_tr hF_ (fr_le hFx3_ rfl), ?_⟩
    first | (rw [px4_.2]; exact hJ_) | (rw [px4_]; exact hJ_)
  obtain ⟨rfl, -, -, rfl, px4_⟩ := px4_
  have a9_ := px4_
  have J9_ := hJ_.2.1 kk_.toNat (by omega) a9_.2
  have J1_ := J9_.1
  have q9_ := a9_.2
  have c8_ : 0 ≤ S0_.1 2 (kk_.toNat) 8 ∧ S0_.1 2 (kk_.toNat) 8 ≤ 150 := hI_.1 2 (kk_.toNat) 8 rfl
  have c1_ : 0 ≤ S0_.1 2 (kk_.toNat) 1 ∧ S0_.1 2 (kk_.toNat) 1 ≤ 12 := hI_.1 2 (kk_.toNat) 1 rfl
  have c2_ : 0 ≤ S0_.1 2 (kk_.toNat) 2 ∧ S0_.1 2 (kk_.toNat) 2 ≤ 6 := hI_.1 2 (kk_.toNat) 2 rfl
  refine sm_T_go 3 (c1 := (10, [some (.inr (.inr (some (12, 0)))), some (.inl kk_), some (.inl a_), some (.inl b_), some (.inl n_), some (.inr (.inr (some (2, kk_.toNat))))], [.inl (-1), .inl n_], S0_)) rfl ?_
  refine sm_T_br (a := 2) (z := 17) rfl (fun cx7_ => ?_) (fun cx7_ => ?_)
  · have cx7_ : n_ < (-1) := of_decide_eq_true cx7_
    refine sm_T_go 1 (c1 := (28, [some (.inr (.inr (some (12, 0)))), some (.inl kk_), some (.inl a_), some (.inl b_), some (.inl n_), some (.inr (.inr (some (2, kk_.toNat))))], [.inl 0], S0_)) rfl ?_
    refine sm_T_cale (d1_ := 0) (Q1_ := vq_265e 0 S0_) (Q2_ := (fun ex_ S1_ => ex_ ∈ ([0] : List Nat) ∧ vx_265e 0 S0_ S1_)) rfl rfl (by decide) (vc_265e 0 S0_ hI_ ) rfl (fun xx13_ Sx8_ px11_ => ?_) (fun u_ Sx8_ px11_ => ?_)
    · obtain ⟨px11m, hIx9_, hFx10_, px11_⟩ := px11_
      refine Or.inr ⟨_, _, rfl, by first | exact px11m | (simp only [List.mem_cons, List.not_mem_nil, or_false] at px11m ⊢; omega), hIx9_, ai_fr_tr hF_ (fr_le hFx10_ rfl), ?_⟩
      first | (rw [px11_.2]; exact hJ_) | (rw [px11_]; exact hJ_)
    · exact absurd rfl px11_.2.2.2.1
  · have cx7_ : ¬ (n_ < (-1)) := of_decide_eq_false cx7_
    refine sm_T_go 2 (c1 := (17, [some (.inr (.inr (some (12, 0)))), some (.inl kk_), some (.inl a_), some (.inl b_), some (.inl n_), some (.inr (.inr (some (2, kk_.toNat))))], [.inr (.inr (some (2, kk_.toNat))), .inl n_], S0_)) rfl ?_
    refine sm_T_cal (d1 := 0) (Q1 := vq_55 kk_.toNat S0_) rfl rfl (by decide) (vc_55 kk_.toNat S0_ hI_ ) (fun u_ Sx14_ px17_ => ?_)
    obtain ⟨rfl, vx19_, rfl, px17_⟩ := px17_
    refine sm_T_br (a := 3) (z := 7) rfl (fun cx20_ => ?_) (fun cx20_ => ?_)
    · have cx20_ : vx19_ ≤ n_ := of_decide_eq_true cx20_
      refine sm_T_go 1 (c1 := (28, [some (.inr (.inr (some (12, 0)))), some (.inl kk_), some (.inl a_), some (.inl b_), some (.inl n_), some (.inr (.inr (some (2, kk_.toNat))))], [.inl 0], S0_)) rfl ?_
      refine sm_T_cale (d1_ := 0) (Q1_ := vq_265e 0 S0_) (Q2_ := (fun ex_ S1_ => ex_ ∈ ([0] : List Nat) ∧ vx_265e 0 S0_ S1_)) rfl rfl (by decide) (vc_265e 0 S0_ hI_ ) rfl (fun xx26_ Sx21_ px24_ => ?_) (fun u_ Sx21_ px24_ => ?_)
      · obtain ⟨px24m, hIx22_, hFx23_, px24_⟩ := px24_
        refine Or.inr ⟨_, _, rfl, by first | exact px24m | (simp only [List.mem_cons, List.not_mem_nil, or_false] at px24m ⊢; omega), hIx22_, ai_fr_tr hF_ (fr_le hFx23_ rfl), ?_⟩
        first | (rw [px24_.2]; exact hJ_) | (rw [px24_]; exact hJ_)
      · exact absurd rfl px24_.2.2.2.1
    · have cx20_ : ¬ (vx19_ ≤ n_) := of_decide_eq_false cx20_
      refine sm_T_go 2 (c1 := (28, [some (.inr (.inr (some (12, 0)))), some (.inl kk_), some (.inl a_), some (.inl b_), some (.inl n_), some (.inr (.inr (some (2, kk_.toNat))))], [.inl 1], S0_)) rfl ?_
      refine sm_T_cale (d1_ := 0) (Q1_ := vq_265e 1 S0_) (Q2_ := (fun ex_ S1_ => ex_ ∈ ([0] : List Nat) ∧ vx_265e 1 S0_ S1_)) rfl rfl (by decide) (vc_265e 1 S0_ hI_ ) rfl (fun xx32_ Sx27_ px30_ => ?_) (fun u_ Sx27_ px30_ => ?_)
      · exact absurd px30_.2.2.2.1 (by decide)
      obtain ⟨rfl, -, -, px30_, rfl⟩ := px30_
      refine sm_T_go 2 (c1 := (34, [some (.inr (.inr (some (12, 0)))), some (.inl kk_), some (.inl a_), some (.inl b_), some (.inl n_), some (.inr (.inr (some (2, kk_.toNat))))], [.inl a_, .inr (.inr (some (2, kk_.toNat)))], S0_)) rfl ?_
      refine sm_T_cal (d1 := 0) (Q1 := vq_61p a_ kk_.toNat S0_) rfl rfl (by decide) (vc_61p a_ kk_.toNat S0_ hI_ (by omega)) (fun u_ Sx33_ px36_ => ?_)
      obtain ⟨rfl, vx38_, rfl, px36_⟩ := px36_
      have m34_ := px36_.2
      have n34_ := px36_.1
      refine sm_T_b0 (a := 0) (z := 16) rfl (fun cx39_ => ?_) (fun cx39_ => ?_)
      · have cx39_ : vx38_ = 0 := of_decide_eq_true cx39_
        refine sm_T_go 1 (c1 := (54, [some (.inr (.inr (some (12, 0)))), some (.inl kk_), some (.inl a_), some (.inl b_), some (.inl n_), some (.inr (.inr (some (2, kk_.toNat))))], [.inl 0], S0_)) rfl ?_
        refine sm_T_cale (d1_ := 0) (Q1_ := vq_266e 0 S0_) (Q2_ := (fun ex_ S1_ => ex_ ∈ ([1] : List Nat) ∧ vx_266e 0 S0_ S1_)) rfl rfl (by decide) (vc_266e 0 S0_ hI_ ) rfl (fun xx45_ Sx40_ px43_ => ?_) (fun u_ Sx40_ px43_ => ?_)
        · obtain ⟨px43m, hIx41_, hFx42_, px43_⟩ := px43_
          refine Or.inr ⟨_, _, rfl, by first | exact px43m | (simp only [List.mem_cons, List.not_mem_nil, or_false] at px43m ⊢; omega), hIx41_, ai_fr_tr hF_ (fr_le hFx42_ rfl), ?_⟩
          first | (rw [px43_.2]; exact hJ_) | (rw [px43_]; exact hJ_)
        · exact absurd rfl px43_.2.2.2.1
      · have cx39_ : ¬ (vx38_ = 0) := of_decide_eq_false cx39_
        have o34_ := m34_ (by omega)
        refine sm_T_go 2 (c1 := (43, [some (.inr (.inr (some (12, 0)))), some (.inl kk_), some (.inl a_), some (.inl b_), some (.inl n_), some (.inr (.inr (some (2, kk_.toNat))))], [.inl b_, .inr (.inr (some (2, kk_.toNat)))], S0_)) rfl ?_
        refine sm_T_cal (d1 := 0) (Q1 := vq_61p b_ kk_.toNat S0_) rfl rfl (by decide) (vc_61p b_ kk_.toNat S0_ hI_ (by omega)) (fun u_ Sx46_ px49_ => ?_)
        obtain ⟨rfl, vx51_, rfl, px49_⟩ := px49_
        have m43_ := px49_.2
        have n43_ := px49_.1
        refine sm_T_b0 (a := 0) (z := 7) rfl (fun cx52_ => ?_) (fun cx52_ => ?_)
        · have cx52_ : vx51_ = 0 := of_decide_eq_true cx52_
          refine sm_T_go 1 (c1 := (54, [some (.inr (.inr (some (12, 0)))), some (.inl kk_), some (.inl a_), some (.inl b_), some (.inl n_), some (.inr (.inr (some (2, kk_.toNat))))], [.inl 0], S0_)) rfl ?_
          refine sm_T_cale (d1_ := 0) (Q1_ := vq_266e 0 S0_) (Q2_ := (fun ex_ S1_ => ex_ ∈ ([1] : List Nat) ∧ vx_266e 0 S0_ S1_)) rfl rfl (by decide) (vc_266e 0 S0_ hI_ ) rfl (fun xx58_ Sx53_ px56_ => ?_) (fun u_ Sx53_ px56_ => ?_)
          · obtain ⟨px56m, hIx54_, hFx55_, px56_⟩ := px56_
            refine Or.inr ⟨_, _, rfl, by first | exact px56m | (simp only [List.mem_cons, List.not_mem_nil, or_false] at px56m ⊢; omega), hIx54_, ai_fr_tr hF_ (fr_le hFx55_ rfl), ?_⟩
            first | (rw [px56_.2]; exact hJ_) | (rw [px56_]; exact hJ_)
          · exact absurd rfl px56_.2.2.2.1
        · have cx52_ : ¬ (vx51_ = 0) := of_decide_eq_false cx52_
          have o43_ := m43_ (by omega)
          refine sm_T_go 2 (c1 := (54, [some (.inr (.inr (some (12, 0)))), some (.inl kk_), some (.inl a_), some (.inl b_), some (.inl n_), some (.inr (.inr (some (2, kk_.toNat))))], [.inl 1], S0_)) rfl ?_
          refine sm_T_cale (d1_ := 0) (Q1_ := vq_266e 1 S0_) (Q2_ := (fun ex_ S1_ => ex_ ∈ ([1] : List Nat) ∧ vx_266e 1 S0_ S1_)) rfl rfl (by decide) (vc_266e 1 S0_ hI_ ) rfl (fun xx64_ Sx59_ px62_ => ?_) (fun u_ Sx59_ px62_ => ?_)
          · exact absurd px62_.2.2.2.1 (by decide)
          obtain ⟨rfl, -, -, px62_, rfl⟩ := px62_
          refine sm_T_go 5 (c1 := (65, [some (.inr (.inr (some (12, 0)))), some (.inl kk_), some (.inl a_), some (.inl b_), some (.inl n_), some (.inr (.inr (some (2, kk_.toNat))))], [.inl b_, .inl a_, .inr (.inr (some (2, kk_.toNat))), .inr (.inr (some (11, 0)))], S0_)) rfl ?_
          refine sm_T_cal (d1 := 2) (Q1 := vq_205 a_ b_ kk_.toNat S0_) rfl rfl (by decide) (vc_205 a_ b_ kk_.toNat S0_ hI_ (by omega) (by omega) (by omega)) (fun u_ Sx65_ px68_ => ?_)
          obtain ⟨rfl, hIx66_, hFx67_, px68_⟩ := px68_
          have hFx69_ : ai_fr (sx_W vw_257) S0_ Sx65_ := ai_fr_tr hF_ (fr_le hFx67_ rfl)
          have J8_ := jC_fr hJ_ hFx69_ (by decide) (by decide) (by decide) (by decide) (by decide) rfl rfl rfl rfl rfl rfl
          have y1_ := hFx67_.1 2 kk_.toNat 1 rfl
          have y2_ := hFx67_.1 2 kk_.toNat 2 rfl
          have y8_ := hFx67_.1 2 kk_.toNat 8 rfl
          have bx70_ : 0 ≤ Sx65_.1 11 0 16 ∧ Sx65_.1 11 0 16 ≤ 1 := hIx66_.1 11 0 16 rfl
          refine sm_T_go 3 (c1 := (75, [some (.inr (.inr (some (12, 0)))), some (.inl kk_), some (.inl a_), some (.inl b_), some (.inl n_), some (.inr (.inr (some (2, kk_.toNat))))], [.inl (Sx65_.1 11 0 16)], Sx65_)) rfl ?_
          refine sm_T_b0 (a := 1) (z := 7) rfl (fun cx71_ => ?_) (fun cx71_ => ?_)
          · have cx71_ : (Sx65_.1 11 0 16) ≠ 0 := of_decide_eq_true cx71_
            refine sm_T_go 1 (c1 := (83, [some (.inr (.inr (some (12, 0)))), some (.inl kk_), some (.inl a_), some (.inl b_), some (.inl n_), some (.inr (.inr (some (2, kk_.toNat))))], [.inl 0], Sx65_)) rfl ?_
            refine sm_T_cale (d1_ := 0) (Q1_ := vq_268e 0 Sx65_) (Q2_ := (fun ex_ S1_ => ex_ ∈ ([3] : List Nat) ∧ vx_268e 0 Sx65_ S1_)) rfl rfl (by decide) (vc_268e 0 Sx65_ hIx66_ ) rfl (fun xx77_ Sx72_ px75_ => ?_) (fun u_ Sx72_ px75_ => ?_)
            · obtain ⟨px75m, hIx73_, hFx74_, px75_⟩ := px75_
              refine Or.inr ⟨_, _, rfl, by first | exact px75m | (simp only [List.mem_cons, List.not_mem_nil, or_false] at px75m ⊢; omega), hIx73_, ai_fr_tr hFx69_ (fr_le hFx74_ rfl), ?_⟩
              rw [px75_.2]; exact J8_
            · exact absurd rfl px75_.2.2.2.1
          · have cx71_ : ¬ ((Sx65_.1 11 0 16) ≠ 0) := of_decide_eq_false cx71_
            refine sm_T_go 2 (c1 := (83, [some (.inr (.inr (some (12, 0)))), some (.inl kk_), some (.inl a_), some (.inl b_), some (.inl n_), some (.inr (.inr (some (2, kk_.toNat))))], [.inl 1], Sx65_)) rfl ?_
            refine sm_T_cale (d1_ := 0) (Q1_ := vq_268e 1 Sx65_) (Q2_ := (fun ex_ S1_ => ex_ ∈ ([3] : List Nat) ∧ vx_268e 1 Sx65_ S1_)) rfl rfl (by decide) (vc_268e 1 Sx65_ hIx66_ ) rfl (fun xx83_ Sx78_ px81_ => ?_) (fun u_ Sx78_ px81_ => ?_)
            · exact absurd px81_.2.2.2.1 (by decide)
            obtain ⟨rfl, -, -, px81_, rfl⟩ := px81_
            refine sm_T_go 2 (c1 := (89, [some (.inr (.inr (some (12, 0)))), some (.inl kk_), some (.inl a_), some (.inl b_), some (.inl n_), some (.inr (.inr (some (2, kk_.toNat))))], [.inl (-1), .inl n_], Sx65_)) rfl ?_
            refine sm_T_br (a := 1) (z := 18) rfl (fun cx84_ => ?_) (fun cx84_ => ?_)
            · have cx84_ : n_ ≠ (-1) := of_decide_eq_true cx84_
              refine sm_T_go 3 (c1 := (113, [some (.inr (.inr (some (12, 0)))), some (.inl kk_), some (.inl a_), some (.inl b_), some (.inl n_), some (.inr (.inr (some (2, kk_.toNat))))], [.inl n_, .inr (.inr (some (11, 0)))], Sx65_)) rfl ?_
              refine sm_T_cal (d1 := 0) (Q1 := vq_208 n_ Sx65_) rfl rfl (by decide) (vc_208 n_ Sx65_ hIx66_ (by omega)) (fun u_ Sx85_ px88_ => ?_)
              obtain ⟨rfl, vx90_, rfl, px88_⟩ := px88_
              refine sm_T_ri rfl (Or.inl ⟨_, _, rfl, _, rfl, hIx66_, hFx69_, ?_⟩)
              exact J8_
            · have cx84_ : ¬ (n_ ≠ (-1)) := of_decide_eq_false cx84_
              refine sm_T_go 3 (c1 := (98, [some (.inr (.inr (some (12, 0)))), some (.inl kk_), some (.inl a_), some (.inl b_), some (.inl n_), some (.inr (.inr (some (2, kk_.toNat))))], [.inr (.inr (some (2, kk_.toNat))), .inr (.inr (some (11, 0)))], Sx65_)) rfl ?_
              refine sm_T_cal (d1 := 0) (Q1 := vq_55 kk_.toNat Sx65_) rfl rfl (by decide) (vc_55 kk_.toNat Sx65_ hIx66_ ) (fun u_ Sx91_ px94_ => ?_)
              obtain ⟨rfl, vx96_, rfl, px94_⟩ := px94_
              refine sm_T_cal (d1 := 0) (Q1 := vq_210 vx96_ Sx65_) rfl rfl (by decide) (vc_210 vx96_ Sx65_ hIx66_ (by omega)) (fun u_ Sx97_ px100_ => ?_)
              obtain ⟨rfl, vx102_, rfl, px100_⟩ := px100_
              refine sm_T_go 1 (c1 := (116, [some (.inr (.inr (some (12, 0)))), some (.inl kk_), some (.inl a_), some (.inl b_), some (.inl n_), some (.inr (.inr (some (2, kk_.toNat))))], [.inl vx102_], Sx65_)) rfl ?_
              refine sm_T_ri rfl (Or.inl ⟨_, _, rfl, _, rfl, hIx66_, hFx69_, ?_⟩)
              exact J8_
