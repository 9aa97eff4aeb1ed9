/-! ChipFlow.box -/
def vw_247 : sx_Wl := ([], [], [])
def vq_247 (kk_ : Int) (b_ : Int) (wh_ : Int) (S0_ : sm_S) (u_ : Option sm_V) (S1_ : sm_S) : Prop := ∃ v_ : Int, u_ = some (.inl v_) ∧ gi S1_ ∧ ai_fr (sx_W vw_247) S0_ S1_ ∧ (True)
def vx_247 (kk_ : Int) (b_ : Int) (wh_ : Int) (S0_ : sm_S) (S1_ : sm_S) : Prop := gi S1_ ∧ ai_fr (sx_W vw_247) S0_ S1_ ∧ (S1_ = S0_)
set_option maxHeartbeats 400000 in
theorem vc_247 {sc_ : Nat × (Nat → Int)} (kk_ : Int) (b_ : Int) (wh_ : Int) (S0_ : sm_S) (hI_ : gi S0_) (hJ_ : jC S0_) : sm_T (mt_P sc_) 2 247 (0, [some (.inr (.inr (some (12, 0)))), some (.inl kk_), some (.inl b_), some (.inl wh_), none], [], S0_) (fun ro9_ => (∃ u_ S1_, ro9_ = (.inl u_, S1_, 0) ∧ vq_247 kk_ b_ wh_ S0_ u_ S1_) ∨ ∃ ex_ S1_, ro9_ = (.inr ex_, S1_, 1) ∧ ex_ ∈ ([0, 1, 2] : List Nat) ∧ vx_247 kk_ b_ wh_ S0_ S1_) := by
  have hF_ : ai_fr (sx_W vw_247) S0_ S0_ := ai_fr_rf
  refine sm_T_go 2 (c1 := (2, [some (.inr (.inr (some (12, 0)))), some (.inl kk_), some (.inl b_), some (.inl wh_), none], [.inl kk_, .inr (.inr (some (12, 0)))], S0_)) rfl ?_
  refine sm_T_cale (d1_ := 1) (Q1_ := vq_272 kk_ S0_) (Q2_ := (fun ex_ S1_ => ex_ ∈ ([0] : List Nat) ∧ vx_272 kk_ S0_ S1_)) rfl rfl (by decide) (vc_272 kk_ S0_ hI_ ) rfl (fun xx6_ Sx1_ px4_ => ?_) (fun u_ Sx1_ px4_ => ?_)
  · obtain ⟨px4m, hIx2_, hFx3_, px4_⟩ := px4_
    refine Or.inr ⟨_, _, rfl, by first | exact px4m | (simp only [List.mem_cons, List.not_mem_nil, or_false] at px4m ⊢; omega), hIx2_, ai_fr_tr hF_ (fr_le hFx3_ rfl), ?_⟩
    first | exact px4_.2 | exact px4_ | rfl
  obtain ⟨rfl, -, -, rfl, px4_⟩ := px4_
  have a9_ := px4_
  have J9_ := hJ_.2.1 kk_.toNat (by omega) a9_.2
  have J1_ := J9_.1
  have q9_ := a9_.2
  have c8_ : 0 ≤ S0_.1 2 (kk_.toNat) 8 ∧ S0_.1 2 (kk_.toNat) 8 ≤ 150 := hI_.1 2 (kk_.toNat) 8 rfl
  have c1_ : 0 ≤ S0_.1 2 (kk_.toNat) 1 ∧ S0_.1 2 (kk_.toNat) 1 ≤ 12 := hI_.1 2 (kk_.toNat) 1 rfl
  have c2_ : 0 ≤ S0_.1 2 (kk_.toNat) 2 ∧ S0_.1 2 (kk_.toNat) 2 ≤ 6 := hI_.1 2 (kk_.toNat) 2 rfl
  refine sm_T_go 5 (c1 := (15, [some (.inr (.inr (some (12, 0)))), some (.inl kk_), some (.inl b_), some (.inl wh_), some (.inr (.inr (some (4, (0 + (0 + kk_.toNat))))))], [.inl (-1), .inl b_], S0_)) rfl ?_
  refine sm_T_br (a := 2) (z := 24) rfl (fun cx7_ => ?_) (fun cx7_ => ?_)
  · have cx7_ : b_ < (-1) := of_decide_eq_true cx7_
    refine sm_T_go 1 (c1 := (40, [some (.inr (.inr (some (12, 0)))), some (.inl kk_), some (.inl b_), some (.inl wh_), some (.inr (.inr (some (4, (0 + (0 + kk_.toNat))))))], [.inl 0], S0_)) rfl ?_
    refine sm_T_cale (d1_ := 0) (Q1_ := vq_265e 0 S0_) (Q2_ := (fun ex_ S1_ => ex_ ∈ ([0] : List Nat) ∧ vx_265e 0 S0_ S1_)) rfl rfl (by decide) (vc_265e 0 S0_ hI_ ) rfl (fun xx13_ Sx8_ px11_ => ?_) (fun u_ Sx8_ px11_ => ?_)
    · obtain ⟨px11m, hIx9_, hFx10_, px11_⟩ := px11_
      refine Or.inr ⟨_, _, rfl, by first | exact px11m | (simp only [List.mem_cons, List.not_mem_nil, or_false] at px11m ⊢; omega), hIx9_, ai_fr_tr hF_ (fr_le hFx10_ rfl), ?_⟩
      first | exact px11_.2 | exact px11_ | rfl
    · exact absurd rfl px11_.2.2.2.1
  · have cx7_ : ¬ (b_ < (-1)) := of_decide_eq_false cx7_
    have bx14_ : 0 ≤ S0_.1 4 (0 + (0 + kk_.toNat)) 0 ∧ S0_.1 4 (0 + (0 + kk_.toNat)) 0 ≤ 1 := hI_.1 4 (0 + (0 + kk_.toNat)) 0 rfl
    refine sm_T_go 2 (c1 := (23, [some (.inr (.inr (some (12, 0)))), some (.inl kk_), some (.inl b_), some (.inl wh_), some (.inr (.inr (some (4, (0 + (0 + kk_.toNat))))))], [.inl (S0_.1 4 (0 + (0 + kk_.toNat)) 0)], S0_)) rfl ?_
    refine sm_T_b0 (a := 0) (z := 12) rfl (fun cx15_ => ?_) (fun cx15_ => ?_)
    · have cx15_ : (S0_.1 4 (0 + (0 + kk_.toNat)) 0) = 0 := of_decide_eq_true cx15_
      refine sm_T_go 2 (c1 := (40, [some (.inr (.inr (some (12, 0)))), some (.inl kk_), some (.inl b_), some (.inl wh_), some (.inr (.inr (some (4, (0 + (0 + kk_.toNat))))))], [.inl 1], S0_)) rfl ?_
      refine sm_T_cale (d1_ := 0) (Q1_ := vq_265e 1 S0_) (Q2_ := (fun ex_ S1_ => ex_ ∈ ([0] : List Nat) ∧ vx_265e 1 S0_ S1_)) rfl rfl (by decide) (vc_265e 1 S0_ hI_ ) rfl (fun xx21_ Sx16_ px19_ => ?_) (fun u_ Sx16_ px19_ => ?_)
      · exact absurd px19_.2.2.2.1 (by decide)
      obtain ⟨rfl, -, -, px19_, rfl⟩ := px19_
      refine sm_T_go 1 (c1 := (44, [some (.inr (.inr (some (12, 0)))), some (.inl kk_), some (.inl b_), some (.inl wh_), some (.inr (.inr (some (4, (0 + (0 + kk_.toNat))))))], [.inl wh_], S0_)) rfl ?_
      refine sm_T_b0 (a := 2) (z := 21) rfl (fun cx22_ => ?_) (fun cx22_ => ?_)
      · have cx22_ : wh_ < 0 := of_decide_eq_true cx22_
        refine sm_T_go 1 (c1 := (66, [some (.inr (.inr (some (12, 0)))), some (.inl kk_), some (.inl b_), some (.inl wh_), some (.inr (.inr (some (4, (0 + (0 + kk_.toNat))))))], [.inl 0], S0_)) rfl ?_
        refine sm_T_cale (d1_ := 0) (Q1_ := vq_266e 0 S0_) (Q2_ := (fun ex_ S1_ => ex_ ∈ ([1] : List Nat) ∧ vx_266e 0 S0_ S1_)) rfl rfl (by decide) (vc_266e 0 S0_ hI_ ) rfl (fun xx28_ Sx23_ px26_ => ?_) (fun u_ Sx23_ px26_ => ?_)
        · obtain ⟨px26m, hIx24_, hFx25_, px26_⟩ := px26_
          refine Or.inr ⟨_, _, rfl, by first | exact px26m | (simp only [List.mem_cons, List.not_mem_nil, or_false] at px26m ⊢; omega), hIx24_, ai_fr_tr hF_ (fr_le hFx25_ rfl), ?_⟩
          first | exact px26_.2 | exact px26_ | rfl
        · exact absurd rfl px26_.2.2.2.1
      · have cx22_ : ¬ (wh_ < 0) := of_decide_eq_false cx22_
        refine sm_T_go 3 (c1 := (50, [some (.inr (.inr (some (12, 0)))), some (.inl kk_), some (.inl b_), some (.inl wh_), some (.inr (.inr (some (4, (0 + (0 + kk_.toNat))))))], [.inl (-1), .inl b_, .inl wh_], S0_)) rfl ?_
        refine sm_T_br (a := 1) (z := 7) rfl (fun cx29_ => ?_) (fun cx29_ => ?_)
        · have cx29_ : b_ ≠ (-1) := of_decide_eq_true cx29_
          refine sm_T_go 1 (c1 := (58, [some (.inr (.inr (some (12, 0)))), some (.inl kk_), some (.inl b_), some (.inl wh_), some (.inr (.inr (some (4, (0 + (0 + kk_.toNat))))))], [.inl 4, .inl wh_], S0_)) rfl ?_
          refine sm_T_br (a := 4) (z := 7) rfl (fun cx30_ => ?_) (fun cx30_ => ?_)
          · have cx30_ : 4 < wh_ := of_decide_eq_true cx30_
            refine sm_T_go 1 (c1 := (66, [some (.inr (.inr (some (12, 0)))), some (.inl kk_), some (.inl b_), some (.inl wh_), some (.inr (.inr (some (4, (0 + (0 + kk_.toNat))))))], [.inl 0], S0_)) rfl ?_
            refine sm_T_cale (d1_ := 0) (Q1_ := vq_266e 0 S0_) (Q2_ := (fun ex_ S1_ => ex_ ∈ ([1] : List Nat) ∧ vx_266e 0 S0_ S1_)) rfl rfl (by decide) (vc_266e 0 S0_ hI_ ) rfl (fun xx36_ Sx31_ px34_ => ?_) (fun u_ Sx31_ px34_ => ?_)
            · obtain ⟨px34m, hIx32_, hFx33_, px34_⟩ := px34_
              refine Or.inr ⟨_, _, rfl, by first | exact px34m | (simp only [List.mem_cons, List.not_mem_nil, or_false] at px34m ⊢; omega), hIx32_, ai_fr_tr hF_ (fr_le hFx33_ rfl), ?_⟩
              first | exact px34_.2 | exact px34_ | rfl
            · exact absurd rfl px34_.2.2.2.1
          · have cx30_ : ¬ (4 < wh_) := of_decide_eq_false cx30_
            refine sm_T_go 2 (c1 := (66, [some (.inr (.inr (some (12, 0)))), some (.inl kk_), some (.inl b_), some (.inl wh_), some (.inr (.inr (some (4, (0 + (0 + kk_.toNat))))))], [.inl 1], S0_)) rfl ?_
            refine sm_T_cale (d1_ := 0) (Q1_ := vq_266e 1 S0_) (Q2_ := (fun ex_ S1_ => ex_ ∈ ([1] : List Nat) ∧ vx_266e 1 S0_ S1_)) rfl rfl (by decide) (vc_266e 1 S0_ hI_ ) rfl (fun xx42_ Sx37_ px40_ => ?_) (fun u_ Sx37_ px40_ => ?_)
            · exact absurd px40_.2.2.2.1 (by decide)
            obtain ⟨rfl, -, -, px40_, rfl⟩ := px40_
            refine sm_T_go 2 (c1 := (74, [some (.inr (.inr (some (12, 0)))), some (.inl kk_), some (.inl b_), some (.inl wh_), some (.inr (.inr (some (4, (0 + (0 + kk_.toNat))))))], [.inl (S0_.1 4 (0 + (0 + kk_.toNat)) 0)], S0_)) rfl ?_
            refine sm_T_cale (d1_ := 0) (Q1_ := vq_267e (S0_.1 4 (0 + (0 + kk_.toNat)) 0) S0_) (Q2_ := (fun ex_ S1_ => ex_ ∈ ([2] : List Nat) ∧ vx_267e (S0_.1 4 (0 + (0 + kk_.toNat)) 0) S0_ S1_)) rfl rfl (by decide) (vc_267e (S0_.1 4 (0 + (0 + kk_.toNat)) 0) S0_ hI_ ) rfl (fun xx48_ Sx43_ px46_ => ?_) (fun u_ Sx43_ px46_ => ?_)
            · obtain ⟨px46m, hIx44_, hFx45_, px46_⟩ := px46_
              refine Or.inr ⟨_, _, rfl, by first | exact px46m | (simp only [List.mem_cons, List.not_mem_nil, or_false] at px46m ⊢; omega), hIx44_, ai_fr_tr hF_ (fr_le hFx45_ rfl), ?_⟩
              first | exact px46_.2 | exact px46_ | rfl
            obtain ⟨rfl, -, -, px46_, rfl⟩ := px46_
            refine sm_T_go 2 (c1 := (79, [some (.inr (.inr (some (12, 0)))), some (.inl kk_), some (.inl b_), some (.inl wh_), some (.inr (.inr (some (4, (0 + (0 + kk_.toNat))))))], [.inl (-1), .inl b_], S0_)) rfl ?_
            refine sm_T_br (a := 1) (z := 11) rfl (fun cx49_ => ?_) (fun cx49_ => ?_)
            · have cx49_ : b_ ≠ (-1) := of_decide_eq_true cx49_
              refine sm_T_go 4 (c1 := (97, [some (.inr (.inr (some (12, 0)))), some (.inl kk_), some (.inl b_), some (.inl wh_), some (.inr (.inr (some (4, (0 + (0 + kk_.toNat))))))], [.inl b_, .inl 5, .inr (.inr (some (48, (0 + (0 + (0 + kk_.toNat))))))], S0_)) rfl ?_
              refine sm_T_bin (w := 5 * b_) rfl (bi_mul (by omega) (by omega) (by omega)) ?_ -- pc_ 97
              refine sm_T_go 1 (c1 := (99, [some (.inr (.inr (some (12, 0)))), some (.inl kk_), some (.inl b_), some (.inl wh_), some (.inr (.inr (some (4, (0 + (0 + kk_.toNat))))))], [.inl wh_, .inl (5 * b_), .inr (.inr (some (48, (0 + (0 + (0 + kk_.toNat))))))], S0_)) rfl ?_
              refine sm_T_bin (w := 5 * b_ + wh_) rfl (bi_add (by omega) (by omega) (by omega)) ?_ -- pc_ 99
              refine sm_T_iald (n := 10000) rfl rfl (by omega) (by omega) ?_
              have bx50_ : (-1000) ≤ S0_.2.2.1 48 (0 + (0 + (0 + kk_.toNat))) (5 * b_ + wh_).toNat ∧ S0_.2.2.1 48 (0 + (0 + (0 + kk_.toNat))) (5 * b_ + wh_).toNat ≤ 1000 := hI_.2 48 (0 + (0 + (0 + kk_.toNat))) _
              refine sm_T_ri rfl (Or.inl ⟨_, _, rfl, _, rfl, hI_, hF_, ?_⟩)
              trivial
            · have cx49_ : ¬ (b_ ≠ (-1)) := of_decide_eq_false cx49_
              exfalso; omega
        · have cx29_ : ¬ (b_ ≠ (-1)) := of_decide_eq_false cx29_
          refine sm_T_go 2 (c1 := (58, [some (.inr (.inr (some (12, 0)))), some (.inl kk_), some (.inl b_), some (.inl wh_), some (.inr (.inr (some (4, (0 + (0 + kk_.toNat))))))], [.inl 0, .inl wh_], S0_)) rfl ?_
          refine sm_T_br (a := 4) (z := 7) rfl (fun cx51_ => ?_) (fun cx51_ => ?_)
          · have cx51_ : 0 < wh_ := of_decide_eq_true cx51_
            refine sm_T_go 1 (c1 := (66, [some (.inr (.inr (some (12, 0)))), some (.inl kk_), some (.inl b_), some (.inl wh_), some (.inr (.inr (some (4, (0 + (0 + kk_.toNat))))))], [.inl 0], S0_)) rfl ?_
            refine sm_T_cale (d1_ := 0) (Q1_ := vq_266e 0 S0_) (Q2_ := (fun ex_ S1_ => ex_ ∈ ([1] : List Nat) ∧ vx_266e 0 S0_ S1_)) rfl rfl (by decide) (vc_266e 0 S0_ hI_ ) rfl (fun xx57_ Sx52_ px55_ => ?_) (fun u_ Sx52_ px55_ => ?_)
            · obtain ⟨px55m, hIx53_, hFx54_, px55_⟩ := px55_
              refine Or.inr ⟨_, _, rfl, by first | exact px55m | (simp only [List.mem_cons, List.not_mem_nil, or_false] at px55m ⊢; omega), hIx53_, ai_fr_tr hF_ (fr_le hFx54_ rfl), ?_⟩
              first | exact px55_.2 | exact px55_ | rfl
            · exact absurd rfl px55_.2.2.2.1
          · have cx51_ : ¬ (0 < wh_) := of_decide_eq_false cx51_
            refine sm_T_go 2 (c1 := (66, [some (.inr (.inr (some (12, 0)))), some (.inl kk_), some (.inl b_), some (.inl wh_), some (.inr (.inr (some (4, (0 + (0 + kk_.toNat))))))], [.inl 1], S0_)) rfl ?_
            refine sm_T_cale (d1_ := 0) (Q1_ := vq_266e 1 S0_) (Q2_ := (fun ex_ S1_ => ex_ ∈ ([1] : List Nat) ∧ vx_266e 1 S0_ S1_)) rfl rfl (by decide) (vc_266e 1 S0_ hI_ ) rfl (fun xx63_ Sx58_ px61_ => ?_) (fun u_ Sx58_ px61_ => ?_)
            · exact absurd px61_.2.2.2.1 (by decide)
            obtain ⟨rfl, -, -, px61_, rfl⟩ := px61_
            refine sm_T_go 2 (c1 := (74, [some (.inr (.inr (some (12, 0)))), some (.inl kk_), some (.inl b_), some (.inl wh_), some (.inr (.inr (some (4, (0 + (0 + kk_.toNat))))))], [.inl (S0_.1 4 (0 + (0 + kk_.toNat)) 0)], S0_)) rfl ?_
            refine sm_T_cale (d1_ := 0) (Q1_ := vq_267e (S0_.1 4 (0 + (0 + kk_.toNat)) 0) S0_) (Q2_ := (fun ex_ S1_ => ex_ ∈ ([2] : List Nat) ∧ vx_267e (S0_.1 4 (0 + (0 + kk_.toNat)) 0) S0_ S1_)) rfl rfl (by decide) (vc_267e (S0_.1 4 (0 + (0 + kk_.toNat)) 0) S0_ hI_ ) rfl (fun xx69_ Sx64_ px67_ => ?_) (fun u_ Sx64_ px67_ => ?_)
            · obtain ⟨px67m, hIx65_, hFx66_, px67_⟩ := px67_
              refine Or.inr ⟨_, _, rfl, by first | exact px67m | (simp only [List.mem_cons, List.not_mem_nil, or_false] at px67m ⊢; omega), hIx65_, ai_fr_tr hF_ (fr_le hFx66_ rfl), ?_⟩
              first | exact px67_.2 | exact px67_ | rfl
            obtain ⟨rfl, -, -, px67_, rfl⟩ := px67_
            refine sm_T_go 2 (c1 := (79, [some (.inr (.inr (some (12, 0)))), some (.inl kk_), some (.inl b_), some (.inl wh_), some (.inr (.inr (some (4, (0 + (0 + kk_.toNat))))))], [.inl (-1), .inl b_], S0_)) rfl ?_
            refine sm_T_br (a := 1) (z := 11) rfl (fun cx70_ => ?_) (fun cx70_ => ?_)
            · have cx70_ : b_ ≠ (-1) := of_decide_eq_true cx70_
              exfalso; omega
            · have cx70_ : ¬ (b_ ≠ (-1)) := of_decide_eq_false cx70_
              have bx71_ : 0 ≤ S0_.1 4 (0 + (0 + kk_.toNat)) 1 ∧ S0_.1 4 (0 + (0 + kk_.toNat)) 1 ≤ 2000 := hI_.1 4 (0 + (0 + kk_.toNat)) 1 rfl
              refine sm_T_go 3 (c1 := (101, [some (.inr (.inr (some (12, 0)))), some (.inl kk_), some (.inl b_), some (.inl wh_), some (.inr (.inr (some (4, (0 + (0 + kk_.toNat))))))], [.inl (S0_.1 4 (0 + (0 + kk_.toNat)) 1)], S0_)) rfl ?_
              refine sm_T_ri rfl (Or.inl ⟨_, _, rfl, _, rfl, hI_, hF_, ?_⟩)
              trivial
    · have cx15_ : ¬ ((S0_.1 4 (0 + (0 + kk_.toNat)) 0) = 0) := of_decide_eq_false cx15_
      have bx72_ : 0 ≤ S0_.1 4 (0 + (0 + kk_.toNat)) 1 ∧ S0_.1 4 (0 + (0 + kk_.toNat)) 1 ≤ 2000 := hI_.1 4 (0 + (0 + kk_.toNat)) 1 rfl
      refine sm_T_go 3 (c1 := (32, [some (.inr (.inr (some (12, 0)))), some (.inl kk_), some (.inl b_), some (.inl wh_), some (.inr (.inr (some (4, (0 + (0 + kk_.toNat))))))], [.inl (S0_.1 4 (0 + (0 + kk_.toNat)) 1), .inl b_], S0_)) rfl ?_
      refine sm_T_br (a := 3) (z := 7) rfl (fun cx73_ => ?_) (fun cx73_ => ?_)
      · have cx73_ : (S0_.1 4 (0 + (0 + kk_.toNat)) 1) ≤ b_ := of_decide_eq_true cx73_
        refine sm_T_go 1 (c1 := (40, [some (.inr (.inr (some (12, 0)))), some (.inl kk_), some (.inl b_), some (.inl wh_), some (.inr (.inr (some (4, (0 + (0 + kk_.toNat))))))], [.inl 0], S0_)) rfl ?_
        refine sm_T_cale (d1_ := 0) (Q1_ := vq_265e 0 S0_) (Q2_ := (fun ex_ S1_ => ex_ ∈ ([0] : List Nat) ∧ vx_265e 0 S0_ S1_)) rfl rfl (by decide) (vc_265e 0 S0_ hI_ ) rfl (fun xx79_ Sx74_ px77_ => ?_) (fun u_ Sx74_ px77_ => ?_)
        · obtain ⟨px77m, hIx75_, hFx76_, px77_⟩ := px77_
          refine Or.inr ⟨_, _, rfl, by first | exact px77m | (simp only [List.mem_cons, List.not_mem_nil, or_false] at px77m ⊢; omega), hIx75_, ai_fr_tr hF_ (fr_le hFx76_ rfl), ?_⟩
          first | exact px77_.2 | exact px77_ | rfl
        · exact absurd rfl px77_.2.2.2.1
      · have cx73_ : ¬ ((S0_.1 4 (0 + (0 + kk_.toNat)) 1) ≤ b_) := of_decide_eq_false cx73_
        refine sm_T_go 2 (c1 := (40, [some (.inr (.inr (some (12, 0)))), some (.inl kk_), some (.inl b_), some (.inl wh_), some (.inr (.inr (some (4, (0 + (0 + kk_.toNat))))))], [.inl 1], S0_)) rfl ?_
        refine sm_T_cale (d1_ := 0) (Q1_ := vq_265e 1 S0_) (Q2_ := (fun ex_ S1_ => ex_ ∈ ([0] : List Nat) ∧ vx_265e 1 S0_ S1_)) rfl rfl (by decide) (vc_265e 1 S0_ hI_ ) rfl (fun xx85_ Sx80_ px83_ => ?_) (fun u_ Sx80_ px83_ => ?_)
        · exact absurd px83_.2.2.2.1 (by decide)
        obtain ⟨rfl, -, -, px83_, rfl⟩ := px83_
        refine sm_T_go 1 (c1 := (44, [some (.inr (.inr (some (12, 0)))), some (.inl kk_), some (.inl b_), some (.inl wh_), some (.inr (.inr (some (4, (0 + (0 + kk_.toNat))))))], [.inl wh_], S0_)) rfl ?_
        refine sm_T_b0 (a := 2) (z := 21) rfl (fun cx86_ => ?_) (fun cx86_ => ?_)
        · have cx86_ : wh_ < 0 := of_decide_eq_true cx86_
          refine sm_T_go 1 (c1 := (66, [some (.inr (.inr (some (12, 0)))), some (.inl kk_), some (.inl b_), some (.inl wh_), some (.inr (.inr (some (4, (0 + (0 + kk_.toNat))))))], [.inl 0], S0_)) rfl ?_
          refine sm_T_cale (d1_ := 0) (Q1_ := vq_266e 0 S0_) (Q2_ := (fun ex_ S1_ => ex_ ∈ ([1] : List Nat) ∧ vx_266e 0 S0_ S1_)) rfl rfl (by decide) (vc_266e 0 S0_ hI_ ) rfl (fun xx92_ Sx87_ px90_ => ?_) (fun u_ Sx87_ px90_ => ?_)
          · obtain ⟨px90m, hIx88_, hFx89_, px90_⟩ := px90_
            refine Or.inr ⟨_, _, rfl, by first | exact px90m | (simp only [List.mem_cons, List.not_mem_nil, or_false] at px90m ⊢; omega), hIx88_, ai_fr_tr hF_ (fr_le hFx89_ rfl), ?_⟩
            first | exact px90_.2 | exact px90_ | rfl
          · exact absurd rfl px90_.2.2.2.1
        · have cx86_ : ¬ (wh_ < 0) := of_decide_eq_false cx86_
          refine sm_T_go 3 (c1 := (50, [some (.inr (.inr (some (12, 0)))), some (.inl kk_), some (.inl b_), some (.inl wh_), some (.inr (.inr (some (4, (0 + (0 + kk_.toNat))))))], [.inl (-1), .inl b_, .inl wh_], S0_)) rfl ?_
          refine sm_T_br (a := 1) (z := 7) rfl (fun cx93_ => ?_) (fun cx93_ => ?_)
          · have cx93_ : b_ ≠ (-1) := of_decide_eq_true cx93_
            refine sm_T_go 1 (c1 := (58, [some (.inr (.inr (some (12, 0)))), some (.inl kk_), some (.inl b_), some (.inl wh_), some (.inr (.inr (some (4, (0 + (0 + kk_.toNat))))))], [.inl 4, .inl wh_], S0_)) rfl ?_
            refine sm_T_br (a := 4) (z := 7) rfl (fun cx94_ => ?_) (fun cx94_ => ?_)
            · have cx94_ : 4 < wh_ := of_decide_eq_true cx94_
              refine sm_T_go 1 (c1 := (66, [some (.inr (.inr (some (12, 0)))), some (.inl kk_), some (.inl b_), some (.inl wh_), some (.inr (.inr (some (4, (0 + (0 + kk_.toNat))))))], [.inl 0], S0_)) rfl ?_
              refine sm_T_cale (d1_ := 0) (Q1_ := vq_266e 0 S0_) (Q2_ := (fun ex_ S1_ => ex_ ∈ ([1] : List Nat) ∧ vx_266e 0 S0_ S1_)) rfl rfl (by decide) (vc_266e 0 S0_ hI_ ) rfl (fun xx100_ Sx95_ px98_ => ?_) (fun u_ Sx95_ px98_ => ?_)
              · obtain ⟨px98m, hIx96_, hFx97_, px98_⟩ := px98_
                refine Or.inr ⟨_, _, rfl, by first | exact px98m | (simp only [List.mem_cons, List.not_mem_nil, or_false] at px98m ⊢; omega), hIx96_, ai_fr_tr hF_ (fr_le hFx97_ rfl), ?_⟩
                first | exact px98_.2 | exact px98_ | rfl
              · exact absurd rfl px98_.2.2.2.1
            · have cx94_ : ¬ (4 < wh_) := of_decide_eq_false cx94_
              refine sm_T_go 2 (c1 := (66, [some (.inr (.inr (some (12, 0)))), some (.inl kk_), some (.inl b_), some (.inl wh_), some (.inr (.inr (some (4, (0 + (0 + kk_.toNat))))))], [.inl 1], S0_)) rfl ?_
              refine sm_T_cale (d1_ := 0) (Q1_ := vq_266e 1 S0_) (Q2_ := (fun ex_ S1_ => ex_ ∈ ([1] : List Nat) ∧ vx_266e 1 S0_ S1_)) rfl rfl (by decide) (vc_266e 1 S0_ hI_ ) rfl (fun xx106_ Sx101_ px104_ => ?_) (fun u_ Sx101_ px104_ => ?_)
              · exact absurd px104_.2.2.2.1 (by decide)
              obtain ⟨rfl, -, -, px104_, rfl⟩ := px104_
              refine sm_T_go 2 (c1 := (74, [some (.inr (.inr (some (12, 0)))), some (.inl kk_), some (.inl b_), some (.inl wh_), some (.inr (.inr (some (4, (0 + (0 + kk_.toNat))))))], [.inl (S0_.1 4 (0 + (0 + kk_.toNat)) 0)], S0_)) rfl ?_
              refine sm_T_cale (d1_ := 0) (Q1_ := vq_267e (S0_.1 4 (0 + (0 + kk_.toNat)) 0) S0_) (Q2_ := (fun ex_ S1_ => ex_ ∈ ([2] : List Nat) ∧ vx_267e (S0_.1 4 (0 + (0 + kk_.toNat)) 0) S0_ S1_)) rfl rfl (by decide) (vc_267e (S0_.1 4 (0 + (0 + kk_.toNat)) 0) S0_ hI_ ) rfl (fun xx112_ Sx107_ px110_ => ?_) (fun u_ Sx107_ px110_ => ?_)
              · obtain ⟨px110m, hIx108_, hFx109_, px110_⟩ := px110_
                refine Or.inr ⟨_, _, rfl, by first | exact px110m | (simp only [List.mem_cons, List.not_mem_nil, or_false] at px110m ⊢; omega), hIx108_, ai_fr_tr hF_ (fr_le hFx109_ rfl), ?_⟩
                first | exact px110_.2 | exact px110_ | rfl
              obtain ⟨rfl, -, -, px110_, rfl⟩ := px110_
              refine sm_T_go 2 (c1 := (79, [some (.inr (.inr (some (12, 0)))), some (.inl kk_), some (.inl b_), some (.inl wh_), some (.inr (.inr (some (4, (0 + (0 + kk_.toNat))))))], [.inl (-1), .inl b_], S0_)) rfl ?_
              refine sm_T_br (a := 1) (z := 11) rfl (fun cx113_ => ?_) (fun cx113_ => ?_)
              · have cx113_ : b_ ≠ (-1) := of_decide_eq_true cx113_
                refine sm_T_go 4 (c1 := (97, [some (.inr (.inr (some (12, 0)))), some (.inl kk_), some (.inl b_), some (.inl wh_), some (.inr (.inr (some (4, (0 + (0 + kk_.toNat))))))], [.inl b_, .inl 5, .inr (.inr (some (48, (0 + (0 + (0 + kk_.toNat))))))], S0_)) rfl ?_
                refine sm_T_bin (w := 5 * b_) rfl (bi_mul (by omega) (by omega) (by omega)) ?_ -- pc_ 97
                refine sm_T_go 1 (c1 := (99, [some (.inr (.inr (some (12, 0)))), some (.inl kk_), some (.inl b_), some (.inl wh_), some (.inr (.inr (some (4, (0 + (0 + kk_.toNat))))))], [.inl wh_, .inl (5 * b_), .inr (.inr (some (48, (0 + (0 + (0 + kk_.toNat))))))], S0_)) rfl ?_
                refine sm_T_bin (w := 5 * b_ + wh_) rfl (bi_add (by omega) (by omega) (by omega)) ?_ -- pc_ 99
                refine sm_T_iald (n := 10000) rfl rfl (by omega) (by omega) ?_
                have bx114_ : (-1000) ≤ S0_.2.2.1 48 (0 + (0 + (0 + kk_.toNat))) (5 * b_ + wh_).toNat ∧ S0_.2.2.1 48 (0 + (0 + (0 + kk_.toNat))) (5 * b_ + wh_).toNat ≤ 1000 := hI_.2 48 (0 + (0 + (0 + kk_.toNat))) _
                refine sm_T_ri rfl (Or.inl ⟨_, _, rfl, _, rfl, hI_, hF_, ?_⟩)
                trivial
              · have cx113_ : ¬ (b_ ≠ (-1)) := of_decide_eq_false cx113_
                exfalso; omega
          · have cx93_ : ¬ (b_ ≠ (-1)) := of_decide_eq_false cx93_
            refine sm_T_go 2 (c1 := (58, [some (.inr (.inr (some (12, 0)))), some (.inl kk_), some (.inl b_), some (.inl wh_), some (.inr (.inr (some (4, (0 + (0 + kk_.toNat))))))], [.inl 0, .inl wh_], S0_)) rfl ?_
            refine sm_T_br (a := 4) (z := 7) rfl (fun cx115_ => ?_) (fun cx115_ => ?_)
            · have cx115_ : 0 < wh_ := of_decide_eq_true cx115_
              refine sm_T_go 1 (c1 := (66, [some (.inr (.inr (some (12, 0)))), some (.inl kk_), some (.inl b_), some (.inl wh_), some (.inr (.inr (some (4, (0 + (0 + kk_.toNat))))))], [.inl 0], S0_)) rfl ?_
              refine sm_T_cale (d1_ := 0) (Q1_ := vq_266e 0 S0_) (Q2_ := (fun ex_ S1_ => ex_ ∈ ([1] : List Nat) ∧ vx_266e 0 S0_ S1_)) rfl rfl (by decide) (vc_266e 0 S0_ hI_ ) rfl (fun xx121_ Sx116_ px119_ => ?_) (fun u_ Sx116_ px119_ => ?_)
              · obtain ⟨px119m, hIx117_, hFx118_, px119_⟩ := px119_
                refine Or.inr ⟨_, _, rfl, by first | exact px119m | (simp only [List.mem_cons, List.not_mem_nil, or_false] at px119m ⊢; omega), hIx117_, ai_fr_tr hF_ (fr_le hFx118_ rfl), ?_⟩
                first | exact px119_.2 | exact px119_ | rfl
              · exact absurd rfl px119_.2.2.2.1
            · have cx115_ : ¬ (0 < wh_) := of_decide_eq_false cx115_
              refine sm_T_go 2 (c1 := (66, [some (.inr (.inr (some (12, 0)))), some (.inl kk_), some (.inl b_), some (.inl wh_), some (.inr (.inr (some (4, (0 + (0 + kk_.toNat))))))], [.inl 1], S0_)) rfl ?_
              refine sm_T_cale (d1_ := 0) (Q1_ := vq_266e 1 S0_) (Q2_ := (fun ex_ S1_ => ex_ ∈ ([1] : List Nat) ∧ vx_266e 1 S0_ S1_)) rfl rfl (by decide) (vc_266e 1 S0_ hI_ ) rfl (fun xx127_ Sx122_ px125_ => ?_) (fun u_ Sx122_ px125_ => ?_)
              · exact absurd px125_.2.2.2.1 (by decide)
              obtain ⟨rfl, -, -, px125_, rfl⟩ := px125_
              refine sm_T_go 2 (c1 := (74, [some (.inr (.inr (some (12, 0)))), some (.inl kk_), some (.inl b_), some (.inl wh_), some (.inr (.inr (some (4, (0 + (0 + kk_.toNat))))))], [.inl (S0_.1 4 (0 + (0 + kk_.toNat)) 0)], S0_)) rfl ?_
              refine sm_T_cale (d1_ := 0) (Q1_ := vq_267e (S0_.1 4 (0 + (0 + kk_.toNat)) 0) S0_) (Q2_ := (fun ex_ S1_ => ex_ ∈ ([2] : List Nat) ∧ vx_267e (S0_.1 4 (0 + (0 + kk_.toNat)) 0) S0_ S1_)) rfl rfl (by decide) (vc_267e (S0_.1 4 (0 + (0 + kk_.toNat)) 0) S0_ hI_ ) rfl (fun xx133_ Sx128_ px131_ => ?_) (fun u_ Sx128_ px131_ => ?_)
              · obtain ⟨px131m, hIx129_, hFx130_, px131_⟩ := px131_
                refine Or.inr ⟨_, _, rfl, by first | exact px131m | (simp only [List.mem_cons, List.not_mem_nil, or_false] at px131m ⊢; omega), hIx129_, ai_fr_tr hF_ (fr_le hFx130_ rfl), ?_⟩
                first | exact px131_.2 | exact px131_ | rfl
              obtain ⟨rfl, -, -, px131_, rfl⟩ := px131_
              refine sm_T_go 2 (c1 := (79, [some (.inr (.inr (some (12, 0)))), some (.inl kk_), some (.inl b_), some (.inl wh_), some (.inr (.inr (some (4, (0 + (0 + kk_.toNat))))))], [.inl (-1), .inl b_], S0_)) rfl ?_
              refine sm_T_br (a := 1) (z := 11) rfl (fun cx134_ => ?_) (fun cx134_ => ?_)
              · have cx134_ : b_ ≠ (-1) := of_decide_eq_true cx134_
                exfalso; omega
              · have cx134_ : ¬ (b_ ≠ (-1)) := of_decide_eq_false cx134_
                refine sm_T_go 3 (c1 := (101, [some (.inr (.inr (some (12, 0)))), some (.inl kk_), some (.inl b_), some (.inl wh_), some (.inr (.inr (some (4, (0 + (0 + kk_.toNat))))))], [.inl (S0_.1 4 (0 + (0 + kk_.toNat)) 1)], S0_)) rfl ?_
                refine sm_T_ri rfl (Or.inl ⟨_, _, rfl, _, rfl, hI_, hF_, ?_⟩)
                trivial
