/-! ChipFlow.add -/
def vw_248 : sx_Wl := ([(4, 1), (4, 9), (4, 10)], [48], [])
def vq_248 (kk_ : Int) (ly_ : Int) (x0_ : Int) (y0_ : Int) (x1_ : Int) (y1_ : Int) (S0_ : sm_S) (u_ : Option sm_V) (S1_ : sm_S) : Prop := ∃ v_ : Int, u_ = some (.inl v_) ∧ gi S1_ ∧ ai_fr (sx_W vw_248) S0_ S1_ ∧ (jC S1_)
def vx_248 (kk_ : Int) (ly_ : Int) (x0_ : Int) (y0_ : Int) (x1_ : Int) (y1_ : Int) (S0_ : sm_S) (S1_ : sm_S) : Prop := gi S1_ ∧ ai_fr (sx_W vw_248) S0_ S1_ ∧ (S1_ = S0_)
set_option maxHeartbeats 400000 in
theorem vc_248 {sc_ : Nat × (Nat → Int)} (kk_ : Int) (ly_ : Int) (x0_ : Int) (y0_ : Int) (x1_ : Int) (y1_ : Int) (S0_ : sm_S) (hI_ : gi S0_) (hJ_ : jC S0_) : sm_T (mt_P sc_) 2 248 (0, [some (.inr (.inr (some (12, 0)))), some (.inl kk_), some (.inl ly_), some (.inl x0_), some (.inl y0_), some (.inl x1_), some (.inl y1_), none], [], S0_) (fun ro9_ => (∃ u_ S1_, ro9_ = (.inl u_, S1_, 0) ∧ vq_248 kk_ ly_ x0_ y0_ x1_ y1_ S0_ u_ S1_) ∨ ∃ ex_ S1_, ro9_ = (.inr ex_, S1_, 1) ∧ ex_ ∈ ([0, 1, 2, 3] : List Nat) ∧ vx_248 kk_ ly_ x0_ y0_ x1_ y1_ S0_ S1_) := by
  have hF_ : ai_fr (sx_W vw_248) S0_ S0_ := ai_fr_rf
  refine sm_T_go 2 (c1 := (2, [some (.inr (.inr (some (12, 0)))), some (.inl kk_), some (.inl ly_), some (.inl x0_), some (.inl y0_), some (.inl x1_), some (.inl y1_), none], [.inl kk_, .inr (.inr (some (12, 0)))], S0_)) rfl ?_
  refine sm_T_cale (d1_ := 1) (Q1_ := vq_272 kk_ S0_) (Q2_ := (fun ex_ S1_ => ex_ ∈ ([0] : List Nat) ∧ vx_272 kk_ S0_ S1_)) rfl rfl (by decide) (vc_272 kk_ S0_ hI_ ) rfl (fun xx6_ Sx1_ px4_ => ?_) (fun u_ Sx1_ px4_ => ?_)
  · obtain ⟨px4m, hIx2_, hFx3_, px4_⟩ := px4_
    refine Or.inr ⟨_, _, rfl, by first | exact px4m | (simp only [List.mem_cons, List.not_mem_nil, or_false] at px4m ⊢; omega), hIx2_, ai_fr_tr hF_ (fr_le hFx3_ rfl), ?_⟩
    first | exact px4_.2 | exact px4_ | rfl
  obtain ⟨rfl, -, -, rfl, px4_⟩ := px4_
  have a9_ := px4_
  have J9_ := hJ_.2.1 kk_.toNat (by omega) a9_.2
  have J1_ := J9_.1
  have q9_ := a9_.2
  have c8_ : 0 ≤ S0_.1 2 (kk_.toNat) 8 ∧ S0_.1 2 (kk_.toNat) 8 ≤ 150 := hI_.1 2 (kk_.toNat) 8 rfl
  have c1_ : 0 ≤ S0_.1 2 (kk_.toNat) 1 ∧ S0_.1 2 (kk_.toNat) 1 ≤ 12 := hI_.1 2 (kk_.toNat) 1 rfl
  have c2_ : 0 ≤ S0_.1 2 (kk_.toNat) 2 ∧ S0_.1 2 (kk_.toNat) 2 ≤ 6 := hI_.1 2 (kk_.toNat) 2 rfl
  refine sm_T_go 4 (c1 := (14, [some (.inr (.inr (some (12, 0)))), some (.inl kk_), some (.inl ly_), some (.inl x0_), some (.inl y0_), some (.inl x1_), some (.inl y1_), some (.inr (.inr (some (4, (0 + (0 + kk_.toNat))))))], [.inl ly_], S0_)) rfl ?_
  refine sm_T_b0 (a := 2) (z := 12) rfl (fun cx7_ => ?_) (fun cx7_ => ?_)
  · have cx7_ : ly_ < 0 := of_decide_eq_true cx7_
    refine sm_T_go 1 (c1 := (27, [some (.inr (.inr (some (12, 0)))), some (.inl kk_), some (.inl ly_), some (.inl x0_), some (.inl y0_), some (.inl x1_), some (.inl y1_), some (.inr (.inr (some (4, (0 + (0 + kk_.toNat))))))], [.inl 0], S0_)) rfl ?_
    refine sm_T_cale (d1_ := 0) (Q1_ := vq_266e 0 S0_) (Q2_ := (fun ex_ S1_ => ex_ ∈ ([1] : List Nat) ∧ vx_266e 0 S0_ S1_)) rfl rfl (by decide) (vc_266e 0 S0_ hI_ ) rfl (fun xx13_ Sx8_ px11_ => ?_) (fun u_ Sx8_ px11_ => ?_)
    · obtain ⟨px11m, hIx9_, hFx10_, px11_⟩ := px11_
      refine Or.inr ⟨_, _, rfl, by first | exact px11m | (simp only [List.mem_cons, List.not_mem_nil, or_false] at px11m ⊢; omega), hIx9_, ai_fr_tr hF_ (fr_le hFx10_ rfl), ?_⟩
      first | exact px11_.2 | exact px11_ | rfl
    · exact absurd rfl px11_.2.2.2.1
  · have cx7_ : ¬ (ly_ < 0) := of_decide_eq_false cx7_
    refine sm_T_go 2 (c1 := (19, [some (.inr (.inr (some (12, 0)))), some (.inl kk_), some (.inl ly_), some (.inl x0_), some (.inl y0_), some (.inl x1_), some (.inl y1_), some (.inr (.inr (some (4, (0 + (0 + kk_.toNat))))))], [.inl 2, .inl ly_], S0_)) rfl ?_
    refine sm_T_br (a := 4) (z := 7) rfl (fun cx14_ => ?_) (fun cx14_ => ?_)
    · have cx14_ : 2 < ly_ := of_decide_eq_true cx14_
      refine sm_T_go 1 (c1 := (27, [some (.inr (.inr (some (12, 0)))), some (.inl kk_), some (.inl ly_), some (.inl x0_), some (.inl y0_), some (.inl x1_), some (.inl y1_), some (.inr (.inr (some (4, (0 + (0 + kk_.toNat))))))], [.inl 0], S0_)) rfl ?_
      refine sm_T_cale (d1_ := 0) (Q1_ := vq_266e 0 S0_) (Q2_ := (fun ex_ S1_ => ex_ ∈ ([1] : List Nat) ∧ vx_266e 0 S0_ S1_)) rfl rfl (by decide) (vc_266e 0 S0_ hI_ ) rfl (fun xx20_ Sx15_ px18_ => ?_) (fun u_ Sx15_ px18_ => ?_)
      · obtain ⟨px18m, hIx16_, hFx17_, px18_⟩ := px18_
        refine Or.inr ⟨_, _, rfl, by first | exact px18m | (simp only [List.mem_cons, List.not_mem_nil, or_false] at px18m ⊢; omega), hIx16_, ai_fr_tr hF_ (fr_le hFx17_ rfl), ?_⟩
        first | exact px18_.2 | exact px18_ | rfl
      · exact absurd rfl px18_.2.2.2.1
    · have cx14_ : ¬ (2 < ly_) := of_decide_eq_false cx14_
      refine sm_T_go 2 (c1 := (27, [some (.inr (.inr (some (12, 0)))), some (.inl kk_), some (.inl ly_), some (.inl x0_), some (.inl y0_), some (.inl x1_), some (.inl y1_), some (.inr (.inr (some (4, (0 + (0 + kk_.toNat))))))], [.inl 1], S0_)) rfl ?_
      refine sm_T_cale (d1_ := 0) (Q1_ := vq_266e 1 S0_) (Q2_ := (fun ex_ S1_ => ex_ ∈ ([1] : List Nat) ∧ vx_266e 1 S0_ S1_)) rfl rfl (by decide) (vc_266e 1 S0_ hI_ ) rfl (fun xx26_ Sx21_ px24_ => ?_) (fun u_ Sx21_ px24_ => ?_)
      · exact absurd px24_.2.2.2.1 (by decide)
      obtain ⟨rfl, -, -, px24_, rfl⟩ := px24_
      refine sm_T_go 2 (c1 := (34, [some (.inr (.inr (some (12, 0)))), some (.inl kk_), some (.inl ly_), some (.inl x0_), some (.inl y0_), some (.inl x1_), some (.inl y1_), some (.inr (.inr (some (4, (0 + (0 + kk_.toNat))))))], [.inl (-1000), .inl x0_], S0_)) rfl ?_
      refine sm_T_br (a := 2) (z := 21) rfl (fun cx27_ => ?_) (fun cx27_ => ?_)
      · have cx27_ : x0_ < (-1000) := of_decide_eq_true cx27_
        refine sm_T_go 1 (c1 := (56, [some (.inr (.inr (some (12, 0)))), some (.inl kk_), some (.inl ly_), some (.inl x0_), some (.inl y0_), some (.inl x1_), some (.inl y1_), some (.inr (.inr (some (4, (0 + (0 + kk_.toNat))))))], [.inl 0], S0_)) rfl ?_
        refine sm_T_cale (d1_ := 0) (Q1_ := vq_266e 0 S0_) (Q2_ := (fun ex_ S1_ => ex_ ∈ ([1] : List Nat) ∧ vx_266e 0 S0_ S1_)) rfl rfl (by decide) (vc_266e 0 S0_ hI_ ) rfl (fun xx33_ Sx28_ px31_ => ?_) (fun u_ Sx28_ px31_ => ?_)
        · obtain ⟨px31m, hIx29_, hFx30_, px31_⟩ := px31_
          refine Or.inr ⟨_, _, rfl, by first | exact px31m | (simp only [List.mem_cons, List.not_mem_nil, or_false] at px31m ⊢; omega), hIx29_, ai_fr_tr hF_ (fr_le hFx30_ rfl), ?_⟩
          first | exact px31_.2 | exact px31_ | rfl
        · exact absurd rfl px31_.2.2.2.1
      · have cx27_ : ¬ (x0_ < (-1000)) := of_decide_eq_false cx27_
        refine sm_T_go 2 (c1 := (40, [some (.inr (.inr (some (12, 0)))), some (.inl kk_), some (.inl ly_), some (.inl x0_), some (.inl y0_), some (.inl x1_), some (.inl y1_), some (.inr (.inr (some (4, (0 + (0 + kk_.toNat))))))], [.inl x1_, .inl x0_], S0_)) rfl ?_
        refine sm_T_br (a := 3) (z := 15) rfl (fun cx34_ => ?_) (fun cx34_ => ?_)
        · have cx34_ : x1_ ≤ x0_ := of_decide_eq_true cx34_
          refine sm_T_go 1 (c1 := (56, [some (.inr (.inr (some (12, 0)))), some (.inl kk_), some (.inl ly_), some (.inl x0_), some (.inl y0_), some (.inl x1_), some (.inl y1_), some (.inr (.inr (some (4, (0 + (0 + kk_.toNat))))))], [.inl 0], S0_)) rfl ?_
          refine sm_T_cale (d1_ := 0) (Q1_ := vq_266e 0 S0_) (Q2_ := (fun ex_ S1_ => ex_ ∈ ([1] : List Nat) ∧ vx_266e 0 S0_ S1_)) rfl rfl (by decide) (vc_266e 0 S0_ hI_ ) rfl (fun xx40_ Sx35_ px38_ => ?_) (fun u_ Sx35_ px38_ => ?_)
          · obtain ⟨px38m, hIx36_, hFx37_, px38_⟩ := px38_
            refine Or.inr ⟨_, _, rfl, by first | exact px38m | (simp only [List.mem_cons, List.not_mem_nil, or_false] at px38m ⊢; omega), hIx36_, ai_fr_tr hF_ (fr_le hFx37_ rfl), ?_⟩
            first | exact px38_.2 | exact px38_ | rfl
          · exact absurd rfl px38_.2.2.2.1
        · have cx34_ : ¬ (x1_ ≤ x0_) := of_decide_eq_false cx34_
          refine sm_T_go 2 (c1 := (48, [some (.inr (.inr (some (12, 0)))), some (.inl kk_), some (.inl ly_), some (.inl x0_), some (.inl y0_), some (.inl x1_), some (.inl y1_), some (.inr (.inr (some (4, (0 + (0 + kk_.toNat))))))], [.inl 1000, .inl x1_], S0_)) rfl ?_
          refine sm_T_br (a := 4) (z := 7) rfl (fun cx41_ => ?_) (fun cx41_ => ?_)
          · have cx41_ : 1000 < x1_ := of_decide_eq_true cx41_
            refine sm_T_go 1 (c1 := (56, [some (.inr (.inr (some (12, 0)))), some (.inl kk_), some (.inl ly_), some (.inl x0_), some (.inl y0_), some (.inl x1_), some (.inl y1_), some (.inr (.inr (some (4, (0 + (0 + kk_.toNat))))))], [.inl 0], S0_)) rfl ?_
            refine sm_T_cale (d1_ := 0) (Q1_ := vq_266e 0 S0_) (Q2_ := (fun ex_ S1_ => ex_ ∈ ([1] : List Nat) ∧ vx_266e 0 S0_ S1_)) rfl rfl (by decide) (vc_266e 0 S0_ hI_ ) rfl (fun xx47_ Sx42_ px45_ => ?_) (fun u_ Sx42_ px45_ => ?_)
            · obtain ⟨px45m, hIx43_, hFx44_, px45_⟩ := px45_
              refine Or.inr ⟨_, _, rfl, by first | exact px45m | (simp only [List.mem_cons, List.not_mem_nil, or_false] at px45m ⊢; omega), hIx43_, ai_fr_tr hF_ (fr_le hFx44_ rfl), ?_⟩
              first | exact px45_.2 | exact px45_ | rfl
            · exact absurd rfl px45_.2.2.2.1
          · have cx41_ : ¬ (1000 < x1_) := of_decide_eq_false cx41_
            refine sm_T_go 2 (c1 := (56, [some (.inr (.inr (some (12, 0)))), some (.inl kk_), some (.inl ly_), some (.inl x0_), some (.inl y0_), some (.inl x1_), some (.inl y1_), some (.inr (.inr (some (4, (0 + (0 + kk_.toNat))))))], [.inl 1], S0_)) rfl ?_
            refine sm_T_cale (d1_ := 0) (Q1_ := vq_266e 1 S0_) (Q2_ := (fun ex_ S1_ => ex_ ∈ ([1] : List Nat) ∧ vx_266e 1 S0_ S1_)) rfl rfl (by decide) (vc_266e 1 S0_ hI_ ) rfl (fun xx53_ Sx48_ px51_ => ?_) (fun u_ Sx48_ px51_ => ?_)
            · exact absurd px51_.2.2.2.1 (by decide)
            obtain ⟨rfl, -, -, px51_, rfl⟩ := px51_
            refine sm_T_go 2 (c1 := (64, [some (.inr (.inr (some (12, 0)))), some (.inl kk_), some (.inl ly_), some (.inl x0_), some (.inl y0_), some (.inl x1_), some (.inl y1_), some (.inr (.inr (some (4, (0 + (0 + kk_.toNat))))))], [.inl (-1000), .inl y0_], S0_)) rfl ?_
            refine sm_T_br (a := 2) (z := 22) rfl (fun cx54_ => ?_) (fun cx54_ => ?_)
            · have cx54_ : y0_ < (-1000) := of_decide_eq_true cx54_
              refine sm_T_go 1 (c1 := (87, [some (.inr (.inr (some (12, 0)))), some (.inl kk_), some (.inl ly_), some (.inl x0_), some (.inl y0_), some (.inl x1_), some (.inl y1_), some (.inr (.inr (some (4, (0 + (0 + kk_.toNat))))))], [.inl 0], S0_)) rfl ?_
              refine sm_T_cale (d1_ := 0) (Q1_ := vq_266e 0 S0_) (Q2_ := (fun ex_ S1_ => ex_ ∈ ([1] : List Nat) ∧ vx_266e 0 S0_ S1_)) rfl rfl (by decide) (vc_266e 0 S0_ hI_ ) rfl (fun xx60_ Sx55_ px58_ => ?_) (fun u_ Sx55_ px58_ => ?_)
              · obtain ⟨px58m, hIx56_, hFx57_, px58_⟩ := px58_
                refine Or.inr ⟨_, _, rfl, by first | exact px58m | (simp only [List.mem_cons, List.not_mem_nil, or_false] at px58m ⊢; omega), hIx56_, ai_fr_tr hF_ (fr_le hFx57_ rfl), ?_⟩
                first | exact px58_.2 | exact px58_ | rfl
              · exact absurd rfl px58_.2.2.2.1
            · have cx54_ : ¬ (y0_ < (-1000)) := of_decide_eq_false cx54_
              refine sm_T_go 2 (c1 := (71, [some (.inr (.inr (some (12, 0)))), some (.inl kk_), some (.inl ly_), some (.inl x0_), some (.inl y0_), some (.inl x1_), some (.inl y1_), some (.inr (.inr (some (4, (0 + (0 + kk_.toNat))))))], [.inl y1_, .inl y0_], S0_)) rfl ?_
              refine sm_T_br (a := 3) (z := 15) rfl (fun cx61_ => ?_) (fun cx61_ => ?_)
              · have cx61_ : y1_ ≤ y0_ := of_decide_eq_true cx61_
                refine sm_T_go 1 (c1 := (87, [some (.inr (.inr (some (12, 0)))), some (.inl kk_), some (.inl ly_), some (.inl x0_), some (.inl y0_), some (.inl x1_), some (.inl y1_), some (.inr (.inr (some (4, (0 + (0 + kk_.toNat))))))], [.inl 0], S0_)) rfl ?_
                refine sm_T_cale (d1_ := 0) (Q1_ := vq_266e 0 S0_) (Q2_ := (fun ex_ S1_ => ex_ ∈ ([1] : List Nat) ∧ vx_266e 0 S0_ S1_)) rfl rfl (by decide) (vc_266e 0 S0_ hI_ ) rfl (fun xx67_ Sx62_ px65_ => ?_) (fun u_ Sx62_ px65_ => ?_)
                · obtain ⟨px65m, hIx63_, hFx64_, px65_⟩ := px65_
                  refine Or.inr ⟨_, _, rfl, by first | exact px65m | (simp only [List.mem_cons, List.not_mem_nil, or_false] at px65m ⊢; omega), hIx63_, ai_fr_tr hF_ (fr_le hFx64_ rfl), ?_⟩
                  first | exact px65_.2 | exact px65_ | rfl
                · exact absurd rfl px65_.2.2.2.1
              · have cx61_ : ¬ (y1_ ≤ y0_) := of_decide_eq_false cx61_
                refine sm_T_go 2 (c1 := (79, [some (.inr (.inr (some (12, 0)))), some (.inl kk_), some (.inl ly_), some (.inl x0_), some (.inl y0_), some (.inl x1_), some (.inl y1_), some (.inr (.inr (some (4, (0 + (0 + kk_.toNat))))))], [.inl 1000, .inl y1_], S0_)) rfl ?_
                refine sm_T_br (a := 4) (z := 7) rfl (fun cx68_ => ?_) (fun cx68_ => ?_)
                · have cx68_ : 1000 < y1_ := of_decide_eq_true cx68_
                  refine sm_T_go 1 (c1 := (87, [some (.inr (.inr (some (12, 0)))), some (.inl kk_), some (.inl ly_), some (.inl x0_), some (.inl y0_), some (.inl x1_), some (.inl y1_), some (.inr (.inr (some (4, (0 + (0 + kk_.toNat))))))], [.inl 0], S0_)) rfl ?_
                  refine sm_T_cale (d1_ := 0) (Q1_ := vq_266e 0 S0_) (Q2_ := (fun ex_ S1_ => ex_ ∈ ([1] : List Nat) ∧ vx_266e 0 S0_ S1_)) rfl rfl (by decide) (vc_266e 0 S0_ hI_ ) rfl (fun xx74_ Sx69_ px72_ => ?_) (fun u_ Sx69_ px72_ => ?_)
                  · obtain ⟨px72m, hIx70_, hFx71_, px72_⟩ := px72_
                    refine Or.inr ⟨_, _, rfl, by first | exact px72m | (simp only [List.mem_cons, List.not_mem_nil, or_false] at px72m ⊢; omega), hIx70_, ai_fr_tr hF_ (fr_le hFx71_ rfl), ?_⟩
                    first | exact px72_.2 | exact px72_ | rfl
                  · exact absurd rfl px72_.2.2.2.1
                · have cx68_ : ¬ (1000 < y1_) := of_decide_eq_false cx68_
                  refine sm_T_go 2 (c1 := (87, [some (.inr (.inr (some (12, 0)))), some (.inl kk_), some (.inl ly_), some (.inl x0_), some (.inl y0_), some (.inl x1_), some (.inl y1_), some (.inr (.inr (some (4, (0 + (0 + kk_.toNat))))))], [.inl 1], S0_)) rfl ?_
                  refine sm_T_cale (d1_ := 0) (Q1_ := vq_266e 1 S0_) (Q2_ := (fun ex_ S1_ => ex_ ∈ ([1] : List Nat) ∧ vx_266e 1 S0_ S1_)) rfl rfl (by decide) (vc_266e 1 S0_ hI_ ) rfl (fun xx80_ Sx75_ px78_ => ?_) (fun u_ Sx75_ px78_ => ?_)
                  · exact absurd px78_.2.2.2.1 (by decide)
                  obtain ⟨rfl, -, -, px78_, rfl⟩ := px78_
                  have bx81_ : 0 ≤ S0_.1 4 (0 + (0 + kk_.toNat)) 0 ∧ S0_.1 4 (0 + (0 + kk_.toNat)) 0 ≤ 1 := hI_.1 4 (0 + (0 + kk_.toNat)) 0 rfl
                  refine sm_T_go 2 (c1 := (95, [some (.inr (.inr (some (12, 0)))), some (.inl kk_), some (.inl ly_), some (.inl x0_), some (.inl y0_), some (.inl x1_), some (.inl y1_), some (.inr (.inr (some (4, (0 + (0 + kk_.toNat))))))], [.inl (S0_.1 4 (0 + (0 + kk_.toNat)) 0)], S0_)) rfl ?_
                  refine sm_T_cale (d1_ := 0) (Q1_ := vq_267e (S0_.1 4 (0 + (0 + kk_.toNat)) 0) S0_) (Q2_ := (fun ex_ S1_ => ex_ ∈ ([2] : List Nat) ∧ vx_267e (S0_.1 4 (0 + (0 + kk_.toNat)) 0) S0_ S1_)) rfl rfl (by decide) (vc_267e (S0_.1 4 (0 + (0 + kk_.toNat)) 0) S0_ hI_ ) rfl (fun xx87_ Sx82_ px85_ => ?_) (fun u_ Sx82_ px85_ => ?_)
                  · obtain ⟨px85m, hIx83_, hFx84_, px85_⟩ := px85_
                    refine Or.inr ⟨_, _, rfl, by first | exact px85m | (simp only [List.mem_cons, List.not_mem_nil, or_false] at px85m ⊢; omega), hIx83_, ai_fr_tr hF_ (fr_le hFx84_ rfl), ?_⟩
                    first | exact px85_.2 | exact px85_ | rfl
                  obtain ⟨rfl, -, -, px85_, rfl⟩ := px85_
                  have bx88_ : 0 ≤ S0_.1 4 (0 + (0 + kk_.toNat)) 1 ∧ S0_.1 4 (0 + (0 + kk_.toNat)) 1 ≤ 2000 := hI_.1 4 (0 + (0 + kk_.toNat)) 1 rfl
                  refine sm_T_go 3 (c1 := (106, [some (.inr (.inr (some (12, 0)))), some (.inl kk_), some (.inl ly_), some (.inl x0_), some (.inl y0_), some (.inl x1_), some (.inl y1_), some (.inr (.inr (some (4, (0 + (0 + kk_.toNat))))))], [.inl 2000, .inl (S0_.1 4 (0 + (0 + kk_.toNat)) 1)], S0_)) rfl ?_
                  refine sm_T_br (a := 3) (z := 7) rfl (fun cx89_ => ?_) (fun cx89_ => ?_)
                  · have cx89_ : 2000 ≤ (S0_.1 4 (0 + (0 + kk_.toNat)) 1) := of_decide_eq_true cx89_
                    refine sm_T_go 1 (c1 := (114, [some (.inr (.inr (some (12, 0)))), some (.inl kk_), some (.inl ly_), some (.inl x0_), some (.inl y0_), some (.inl x1_), some (.inl y1_), some (.inr (.inr (some (4, (0 + (0 + kk_.toNat))))))], [.inl 0], S0_)) rfl ?_
                    refine sm_T_cale (d1_ := 0) (Q1_ := vq_268e 0 S0_) (Q2_ := (fun ex_ S1_ => ex_ ∈ ([3] : List Nat) ∧ vx_268e 0 S0_ S1_)) rfl rfl (by decide) (vc_268e 0 S0_ hI_ ) rfl (fun xx95_ Sx90_ px93_ => ?_) (fun u_ Sx90_ px93_ => ?_)
                    · obtain ⟨px93m, hIx91_, hFx92_, px93_⟩ := px93_
                      refine Or.inr ⟨_, _, rfl, by first | exact px93m | (simp only [List.mem_cons, List.not_mem_nil, or_false] at px93m ⊢; omega), hIx91_, ai_fr_tr hF_ (fr_le hFx92_ rfl), ?_⟩
                      first | exact px93_.2 | exact px93_ | rfl
                    · exact absurd rfl px93_.2.2.2.1
                  · have cx89_ : ¬ (2000 ≤ (S0_.1 4 (0 + (0 + kk_.toNat)) 1)) := of_decide_eq_false cx89_
                    refine sm_T_go 2 (c1 := (114, [some (.inr (.inr (some (12, 0)))), some (.inl kk_), some (.inl ly_), some (.inl x0_), some (.inl y0_), some (.inl x1_), some (.inl y1_), some (.inr (.inr (some (4, (0 + (0 + kk_.toNat))))))], [.inl 1], S0_)) rfl ?_
                    refine sm_T_cale (d1_ := 0) (Q1_ := vq_268e 1 S0_) (Q2_ := (fun ex_ S1_ => ex_ ∈ ([3] : List Nat) ∧ vx_268e 1 S0_ S1_)) rfl rfl (by decide) (vc_268e 1 S0_ hI_ ) rfl (fun xx101_ Sx96_ px99_ => ?_) (fun u_ Sx96_ px99_ => ?_)
                    · exact absurd px99_.2.2.2.1 (by decide)
                    obtain ⟨rfl, -, -, px99_, rfl⟩ := px99_
                    refine sm_T_go 8 (c1 := (132, [some (.inr (.inr (some (12, 0)))), some (.inl kk_), some (.inl ly_), some (.inl x0_), some (.inl y0_), some (.inl x1_), some (.inl y1_), some (.inr (.inr (some (4, (0 + (0 + kk_.toNat))))))], [.inl y1_, .inl x1_, .inl y0_, .inl x0_, .inl ly_, .inl (S0_.1 4 (0 + (0 + kk_.toNat)) 1), .inr (.inr (some (4, (0 + (0 + kk_.toNat)))))], S0_)) rfl ?_
                    refine sm_T_cal (d1 := 0) (Q1 := vq_69 (S0_.1 4 (0 + (0 + kk_.toNat)) 1) ly_ x0_ y0_ x1_ y1_ (0 + (0 + kk_.toNat)) S0_) rfl rfl (by decide) (vc_69 (S0_.1 4 (0 + (0 + kk_.toNat)) 1) ly_ x0_ y0_ x1_ y1_ (0 + (0 + kk_.toNat)) S0_ hI_ (by omega) (by omega) (by omega) (by omega) (by omega) (by omega)) (fun u_ Sx102_ px105_ => ?_)
                    obtain ⟨rfl, hIx103_, hFx104_, px105_⟩ := px105_
                    have hFx106_ : ai_fr (sx_W vw_248) S0_ Sx102_ := ai_fr_tr hF_ (fr_le hFx104_ rfl)
                    obtain ⟨dx107_, px105_⟩ := px105_
                    have y132_ := hFx104_.1 4 (0 + (0 + kk_.toNat)) 1 rfl
                    have bx108_ : 0 ≤ Sx102_.1 4 (0 + (0 + kk_.toNat)) 1 ∧ Sx102_.1 4 (0 + (0 + kk_.toNat)) 1 ≤ 2000 := hIx103_.1 4 (0 + (0 + kk_.toNat)) 1 rfl
                    refine sm_T_go 4 (c1 := (142, [some (.inr (.inr (some (12, 0)))), some (.inl kk_), some (.inl ly_), some (.inl x0_), some (.inl y0_), some (.inl x1_), some (.inl y1_), some (.inr (.inr (some (4, (0 + (0 + kk_.toNat))))))], [.inl 1, .inl (Sx102_.1 4 (0 + (0 + kk_.toNat)) 1), .inr (.inr (some (4, (0 + (0 + kk_.toNat)))))], Sx102_)) rfl ?_
                    refine sm_T_bin (w := (Sx102_.1 4 (0 + (0 + kk_.toNat)) 1) + 1) rfl (bi_add (by omega) (by omega) (by omega)) ?_ -- pc_ 142
                    have hIx109_ : gi (sm_pI Sx102_ 4 (0 + (0 + kk_.toNat)) 1 ((Sx102_.1 4 (0 + (0 + kk_.toNat)) 1) + 1)) := gi_pI hIx103_ (show 0 ≤ (Sx102_.1 4 (0 + (0 + kk_.toNat)) 1) + 1 ∧ (Sx102_.1 4 (0 + (0 + kk_.toNat)) 1) + 1 ≤ 2000 from ⟨by omega, by omega⟩)
                    have hFx110_ : ai_fr (sx_W vw_248) S0_ (sm_pI Sx102_ 4 (0 + (0 + kk_.toNat)) 1 ((Sx102_.1 4 (0 + (0 + kk_.toNat)) 1) + 1)) := ai_fr_tr hFx106_ (ai_fr_pI rfl)
                    refine sm_T_go 2 (c1 := (148, [some (.inr (.inr (some (12, 0)))), some (.inl kk_), some (.inl ly_), some (.inl x0_), some (.inl y0_), some (.inl x1_), some (.inl y1_), some (.inr (.inr (some (4, (0 + (0 + kk_.toNat))))))], [.inr (.inr (some (4, (0 + (0 + kk_.toNat)))))], sm_pI Sx102_ 4 (0 + (0 + kk_.toNat)) 1 ((Sx102_.1 4 (0 + (0 + kk_.toNat)) 1) + 1))) rfl ?_
                    refine sm_T_cal (d1 := 0) (Q1 := vq_68 (0 + (0 + kk_.toNat)) (sm_pI Sx102_ 4 (0 + (0 + kk_.toNat)) 1 ((Sx102_.1 4 (0 + (0 + kk_.toNat)) 1) + 1))) rfl rfl (by decide) (vc_68 (0 + (0 + kk_.toNat)) (sm_pI Sx102_ 4 (0 + (0 + kk_.toNat)) 1 ((Sx102_.1 4 (0 + (0 + kk_.toNat)) 1) + 1)) hIx109_ ) (fun u_ Sx111_ px114_ => ?_)
                    obtain ⟨rfl, hIx112_, hFx113_, px114_⟩ := px114_
                    have hFx115_ : ai_fr (sx_W vw_248) S0_ Sx111_ := ai_fr_tr hFx110_ (fr_le hFx113_ rfl)
                    obtain ⟨dx116_, px114_⟩ := px114_
                    have bx117_ : 0 ≤ Sx111_.1 4 (0 + (0 + kk_.toNat)) 1 ∧ Sx111_.1 4 (0 + (0 + kk_.toNat)) 1 ≤ 2000 := hIx112_.1 4 (0 + (0 + kk_.toNat)) 1 rfl
                    refine sm_T_go 3 (c1 := (157, [some (.inr (.inr (some (12, 0)))), some (.inl kk_), some (.inl ly_), some (.inl x0_), some (.inl y0_), some (.inl x1_), some (.inl y1_), some (.inr (.inr (some (4, (0 + (0 + kk_.toNat))))))], [.inl 1, .inl (Sx111_.1 4 (0 + (0 + kk_.toNat)) 1)], Sx111_)) rfl ?_
                    refine sm_T_bin (w := (Sx111_.1 4 (0 + (0 + kk_.toNat)) 1) - 1) rfl (bi_sub (by omega) (by omega) (by omega)) ?_ -- pc_ 157
                    refine sm_T_ri rfl (Or.inl ⟨_, _, rfl, _, rfl, hIx112_, hFx115_, ?_⟩)
                    exact jC_fr hJ_ hFx115_ (by decide) (by decide) (by decide) (by decide) (by decide) rfl rfl rfl rfl rfl rfl
