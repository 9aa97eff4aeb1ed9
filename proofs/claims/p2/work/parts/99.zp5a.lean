/-! the face of the class: wires, times, tests; written by wip/p55/gen/vg -/

/-! faces: wires, times, tests -/
theorem jC_mk {w_ : sx_Wl} {S_ S'_ : sm_S} (h_ : jC S_) (g_ : ai_fr (sx_W w_) S_ S'_) (tp_ : tpo S'_) (sh_ : shn S'_) (d1_ : ∀ k_, k_ < 7 → (sx_W w_).1 3 k_ = false) (d2_ : ∀ t_, t_ < 48 → 42 ≤ t_ → (sx_W w_).2.1 t_ = false) (h2_ : ∀ k_, k_ < 9 → (sx_W w_).1 2 k_ = false) (h0_ : ∀ k_, k_ < 12 → (sx_W w_).1 0 k_ = false) (ha_ : ∀ t_, t_ < 24 → 14 ≤ t_ → t_ ≠ 21 → (sx_W w_).2.1 t_ = false) (hb_ : (sx_W w_).2.1 34 = false := by rfl) : jC S'_ :=
  ⟨dAll_fr h_.1 g_ d1_ d2_, cAll_fr h_.2.1 g_ h2_ h0_ ha_ hb_, tp_, sh_⟩
/-! ChipFlow.point -/
def vw_244 : sx_Wl := ([], [], [])
def vq_244 (kk_ : Int) (nu_ : Int) (S0_ : sm_S) (u_ : Option sm_V) (S1_ : sm_S) : Prop := ∃ v_ : Int, u_ = some (.inl v_) ∧ gi S1_ ∧ ai_fr (sx_W vw_244) S0_ S1_ ∧ (True)
def vx_244 (kk_ : Int) (nu_ : Int) (S0_ : sm_S) (S1_ : sm_S) : Prop := gi S1_ ∧ ai_fr (sx_W vw_244) S0_ S1_ ∧ (S1_ = S0_)
set_option maxHeartbeats 400000 in
theorem vc_244 {sc_ : Nat × (Nat → Int)} (kk_ : Int) (nu_ : Int) (S0_ : sm_S) (hI_ : gi S0_) (hJ_ : jC S0_) : sm_T (mt_P sc_) 2 244 (0, [some (.inr (.inr (some (12, 0)))), some (.inl kk_), some (.inl nu_), none], [], S0_) (fun ro9_ => (∃ u_ S1_, ro9_ = (.inl u_, S1_, 0) ∧ vq_244 kk_ nu_ S0_ u_ S1_) ∨ ∃ ex_ S1_, ro9_ = (.inr ex_, S1_, 1) ∧ ex_ ∈ ([0, 2] : List Nat) ∧ vx_244 kk_ nu_ S0_ S1_) := by
  have hF_ : ai_fr (sx_W vw_244) S0_ S0_ := ai_fr_rf
  refine sm_T_go 2 (c1 := (2, [some (.inr (.inr (some (12, 0)))), some (.inl kk_), some (.inl nu_), none], [.inl kk_, .inr (.inr (some (12, 0)))], S0_)) rfl ?_
  refine sm_T_cale (d1_ := 1) (Q1_ := vq_272 kk_ S0_) (Q2_ := (fun ex_ S1_ => ex_ ∈ ([0] : List Nat) ∧ vx_272 kk_ S0_ S1_)) rfl rfl (by decide) (vc_272 kk_ S0_ hI_ ) rfl (fun xx6_ Sx1_ px4_ => ?_) (fun u_ Sx1_ px4_ => ?_)
  · obtain ⟨px4m, hIx2_, hFx3_, px4_⟩ := px4_
    refine Or.inr ⟨_, _, rfl, by first | exact px4m | (simp only [List.mem_cons, List.not_mem_nil, or_false] at px4m ⊢; omega), hIx2_, ai_fr_tr hF_ (fr_le hFx3_ rfl), ?_⟩
    first | exact px4_.2 | exact px4_ | rfl
  obtain ⟨rfl, -, -, rfl, px4_⟩ := px4_
  have a9_ := px4_
  have J9_ := hJ_.2.1 kk_.toNat (by omega) a9_.2
  have J1_ := J9_.1
  have q9_ := a9_.2
  have c8_ : 0 ≤ S0_.1 2 (kk_.toNat) 8 ∧ S0_.1 2 (kk_.toNat) 8 ≤ 150 := hI_.1 2 (kk_.toNat) 8 rfl
  have c1_ : 0 ≤ S0_.1 2 (kk_.toNat) 1 ∧ S0_.1 2 (kk_.toNat) 1 ≤ 12 := hI_.1 2 (kk_.toNat) 1 rfl
  have c2_ : 0 ≤ S0_.1 2 (kk_.toNat) 2 ∧ S0_.1 2 (kk_.toNat) 2 ≤ 6 := hI_.1 2 (kk_.toNat) 2 rfl
  refine sm_T_go 2 (c1 := (7, [some (.inr (.inr (some (12, 0)))), some (.inl kk_), some (.inl nu_), some (.inr (.inr (some (2, kk_.toNat))))], [.inl nu_], S0_)) rfl ?_
  refine sm_T_b0 (a := 2) (z := 28) rfl (fun cx7_ => ?_) (fun cx7_ => ?_)
  · have cx7_ : nu_ < 0 := of_decide_eq_true cx7_
    refine sm_T_go 1 (c1 := (36, [some (.inr (.inr (some (12, 0)))), some (.inl kk_), some (.inl nu_), some (.inr (.inr (some (2, kk_.toNat))))], [.inl 0], S0_)) rfl ?_
    refine sm_T_cale (d1_ := 0) (Q1_ := vq_265e 0 S0_) (Q2_ := (fun ex_ S1_ => ex_ ∈ ([0] : List Nat) ∧ vx_265e 0 S0_ S1_)) rfl rfl (by decide) (vc_265e 0 S0_ hI_ ) rfl (fun xx13_ Sx8_ px11_ => ?_) (fun u_ Sx8_ px11_ => ?_)
    · obtain ⟨px11m, hIx9_, hFx10_, px11_⟩ := px11_
      refine Or.inr ⟨_, _, rfl, by first | exact px11m | (simp only [List.mem_cons, List.not_mem_nil, or_false] at px11m ⊢; omega), hIx9_, ai_fr_tr hF_ (fr_le hFx10_ rfl), ?_⟩
      first | exact px11_.2 | exact px11_ | rfl
    · exact absurd rfl px11_.2.2.2.1
  · have cx7_ : ¬ (nu_ < 0) := of_decide_eq_false cx7_
    have bx14_ : 0 ≤ S0_.1 0 (0 + kk_.toNat) 11 ∧ S0_.1 0 (0 + kk_.toNat) 11 ≤ 1 := hI_.1 0 (0 + kk_.toNat) 11 rfl
    refine sm_T_go 3 (c1 := (17, [some (.inr (.inr (some (12, 0)))), some (.inl kk_), some (.inl nu_), some (.inr (.inr (some (2, kk_.toNat))))], [.inl (S0_.1 0 (0 + kk_.toNat) 11)], S0_)) rfl ?_
    refine sm_T_b0 (a := 0) (z := 14) rfl (fun cx15_ => ?_) (fun cx15_ => ?_)
    · have cx15_ : (S0_.1 0 (0 + kk_.toNat) 11) = 0 := of_decide_eq_true cx15_
      refine sm_T_go 2 (c1 := (36, [some (.inr (.inr (some (12, 0)))), some (.inl kk_), some (.inl nu_), some (.inr (.inr (some (2, kk_.toNat))))], [.inl 1], S0_)) rfl ?_
      refine sm_T_cale (d1_ := 0) (Q1_ := vq_265e 1 S0_) (Q2_ := (fun ex_ S1_ => ex_ ∈ ([0] : List Nat) ∧ vx_265e 1 S0_ S1_)) rfl rfl (by decide) (vc_265e 1 S0_ hI_ ) rfl (fun xx21_ Sx16_ px19_ => ?_) (fun u_ Sx16_ px19_ => ?_)
      · exact absurd px19_.2.2.2.1 (by decide)
      obtain ⟨rfl, -, -, px19_, rfl⟩ := px19_
      refine sm_T_go 3 (c1 := (46, [some (.inr (.inr (some (12, 0)))), some (.inl kk_), some (.inl nu_), some (.inr (.inr (some (2, kk_.toNat))))], [.inl (S0_.1 0 (0 + kk_.toNat) 11)], S0_)) rfl ?_
      refine sm_T_cale (d1_ := 0) (Q1_ := vq_267e (S0_.1 0 (0 + kk_.toNat) 11) S0_) (Q2_ := (fun ex_ S1_ => ex_ ∈ ([2] : List Nat) ∧ vx_267e (S0_.1 0 (0 + kk_.toNat) 11) S0_ S1_)) rfl rfl (by decide) (vc_267e (S0_.1 0 (0 + kk_.toNat) 11) S0_ hI_ ) rfl (fun xx27_ Sx22_ px25_ => ?_) (fun u_ Sx22_ px25_ => ?_)
      · obtain ⟨px25m, hIx23_, hFx24_, px25_⟩ := px25_
        refine Or.inr ⟨_, _, rfl, by first | exact px25m | (simp only [List.mem_cons, List.not_mem_nil, or_false] at px25m ⊢; omega), hIx23_, ai_fr_tr hF_ (fr_le hFx24_ rfl), ?_⟩
        first | exact px25_.2 | exact px25_ | rfl
      obtain ⟨rfl, -, -, px25_, rfl⟩ := px25_
      refine sm_T_go 4 (c1 := (57, [some (.inr (.inr (some (12, 0)))), some (.inl kk_), some (.inl nu_), some (.inr (.inr (some (2, kk_.toNat))))], [.inl nu_, .inr (.inr (some (22, (0 + (0 + kk_.toNat)))))], S0_)) rfl ?_
      refine sm_T_iald (n := 4712) rfl rfl (by omega) (by omega) ?_
      have bx28_ : (-1) ≤ S0_.2.2.1 22 (0 + (0 + kk_.toNat)) nu_.toNat ∧ S0_.2.2.1 22 (0 + (0 + kk_.toNat)) nu_.toNat ≤ 161 := hI_.2 22 (0 + (0 + kk_.toNat)) _
      refine sm_T_ri rfl (Or.inl ⟨_, _, rfl, _, rfl, hI_, hF_, ?_⟩)
      trivial
    · have cx15_ : ¬ ((S0_.1 0 (0 + kk_.toNat) 11) = 0) := of_decide_eq_false cx15_
      refine sm_T_go 3 (c1 := (25, [some (.inr (.inr (some (12, 0)))), some (.inl kk_), some (.inl nu_), some (.inr (.inr (some (2, kk_.toNat))))], [.inr (.inr (some (0, (0 + kk_.toNat)))), .inl nu_], S0_)) rfl ?_
      refine sm_T_cal (d1 := 0) (Q1 := vq_16 (0 + kk_.toNat) S0_) rfl rfl (by decide) (vc_16 (0 + kk_.toNat) S0_ hI_ ) (fun u_ Sx29_ px32_ => ?_)
      obtain ⟨rfl, vx34_, rfl, px32_⟩ := px32_
      have p25_ := px32_
      refine sm_T_br (a := 3) (z := 7) rfl (fun cx35_ => ?_) (fun cx35_ => ?_)
      · have cx35_ : vx34_ ≤ nu_ := of_decide_eq_true cx35_
        refine sm_T_go 1 (c1 := (36, [some (.inr (.inr (some (12, 0)))), some (.inl kk_), some (.inl nu_), some (.inr (.inr (some (2, kk_.toNat))))], [.inl 0], S0_)) rfl ?_
        refine sm_T_cale (d1_ := 0) (Q1_ := vq_265e 0 S0_) (Q2_ := (fun ex_ S1_ => ex_ ∈ ([0] : List Nat) ∧ vx_265e 0 S0_ S1_)) rfl rfl (by decide) (vc_265e 0 S0_ hI_ ) rfl (fun xx41_ Sx36_ px39_ => ?_) (fun u_ Sx36_ px39_ => ?_)
        · obtain ⟨px39m, hIx37_, hFx38_, px39_⟩ := px39_
          refine Or.inr ⟨_, _, rfl, by first | exact px39m | (simp only [List.mem_cons, List.not_mem_nil, or_false] at px39m ⊢; omega), hIx37_, ai_fr_tr hF_ (fr_le hFx38_ rfl), ?_⟩
          first | exact px39_.2 | exact px39_ | rfl
        · exact absurd rfl px39_.2.2.2.1
      · have cx35_ : ¬ (vx34_ ≤ nu_) := of_decide_eq_false cx35_
        refine sm_T_go 2 (c1 := (36, [some (.inr (.inr (some (12, 0)))), some (.inl kk_), some (.inl nu_), some (.inr (.inr (some (2, kk_.toNat))))], [.inl 1], S0_)) rfl ?_
        refine sm_T_cale (d1_ := 0) (Q1_ := vq_265e 1 S0_) (Q2_ := (fun ex_ S1_ => ex_ ∈ ([0] : List Nat) ∧ vx_265e 1 S0_ S1_)) rfl rfl (by decide) (vc_265e 1 S0_ hI_ ) rfl (fun xx47_ Sx42_ px45_ => ?_) (fun u_ Sx42_ px45_ => ?_)
        · exact absurd px45_.2.2.2.1 (by decide)
        obtain ⟨rfl, -, -, px45_, rfl⟩ := px45_
        refine sm_T_go 3 (c1 := (46, [some (.inr (.inr (some (12, 0)))), some (.inl kk_), some (.inl nu_), some (.inr (.inr (some (2, kk_.toNat))))], [.inl (S0_.1 0 (0 + kk_.toNat) 11)], S0_)) rfl ?_
        refine sm_T_cale (d1_ := 0) (Q1_ := vq_267e (S0_.1 0 (0 + kk_.toNat) 11) S0_) (Q2_ := (fun ex_ S1_ => ex_ ∈ ([2] : List Nat) ∧ vx_267e (S0_.1 0 (0 + kk_.toNat) 11) S0_ S1_)) rfl rfl (by decide) (vc_267e (S0_.1 0 (0 + kk_.toNat) 11) S0_ hI_ ) rfl (fun xx53_ Sx48_ px51_ => ?_) (fun u_ Sx48_ px51_ => ?_)
        · obtain ⟨px51m, hIx49_, hFx50_, px51_⟩ := px51_
          refine Or.inr ⟨_, _, rfl, by first | exact px51m | (simp only [List.mem_cons, List.not_mem_nil, or_false] at px51m ⊢; omega), hIx49_, ai_fr_tr hF_ (fr_le hFx50_ rfl), ?_⟩
          first | exact px51_.2 | exact px51_ | rfl
        obtain ⟨rfl, -, -, px51_, rfl⟩ := px51_
        refine sm_T_go 4 (c1 := (57, [some (.inr (.inr (some (12, 0)))), some (.inl kk_), some (.inl nu_), some (.inr (.inr (some (2, kk_.toNat))))], [.inl nu_, .inr (.inr (some (22, (0 + (0 + kk_.toNat)))))], S0_)) rfl ?_
        refine sm_T_iald (n := 4712) rfl rfl (by omega) (by omega) ?_
        have bx54_ : (-1) ≤ S0_.2.2.1 22 (0 + (0 + kk_.toNat)) nu_.toNat ∧ S0_.2.2.1 22 (0 + (0 + kk_.toNat)) nu_.toNat ≤ 161 := hI_.2 22 (0 + (0 + kk_.toNat)) _
        refine sm_T_ri rfl (Or.inl ⟨_, _, rfl, _, rfl, hI_, hF_, ?_⟩)
        trivial
