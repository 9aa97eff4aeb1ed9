/-! the face of the class: waves; written by wip/p55/gen/vg -/
/-! ChipFlow.wave -/
def vw_256 : sx_Wl := ([(11, 13), (11, 14), (11, 15), (11, 16)], [99, 107, 108, 109], [(11, 12)])
def vq_256 (kk_ : Int) (a_ : Int) (b_ : Int) (n_ : Int) (t_ : Int) (S0_ : sm_S) (u_ : Option sm_V) (S1_ : sm_S) : Prop := ∃ v_ : Int, u_ = some (.inl v_) ∧ gi S1_ ∧ ai_fr (sx_W vw_256) S0_ S1_ ∧ (jC S1_)
def vx_256 (kk_ : Int) (a_ : Int) (b_ : Int) (n_ : Int) (t_ : Int) (S0_ : sm_S) (S1_ : sm_S) : Prop := gi S1_ ∧ ai_fr (sx_W vw_256) S0_ S1_ ∧ (jC S1_)
set_option maxHeartbeats 400000 in
theorem vc_256 {sc_ : Nat × (Nat → Int)} (kk_ : Int) (a_ : Int) (b_ : Int) (n_ : Int) (t_ : Int) (S0_ : sm_S) (hI_ : gi S0_) (hJ_ : jC S0_) : sm_T (mt_P sc_) 3 256 (0, [some (.inr (.inr (some (12, 0)))), some (.inl kk_), some (.inl a_), some (.inl b_), some (.inl n_), some (.inl t_), none], [], S0_) (fun ro9_ => (∃ u_ S1_, ro9_ = (.inl u_, S1_, 0) ∧ vq_256 kk_ a_ b_ n_ t_ S0_ u_ S1_) ∨ ∃ ex_ S1_, ro9_ = (.inr ex_, S1_, 1) ∧ ex_ ∈ ([0, 1, 3] : List Nat) ∧ vx_256 kk_ a_ b_ n_ t_ S0_ S1_) := by
  have hF_ : ai_fr (sx_W vw_256) S0_ S0_ := ai_fr_rf
  refine sm_T_go 2 (c1 := (2, [some (.inr (.inr (some (12, 0)))), some (.inl kk_), some (.inl a_), some (.inl b_), some (.inl n_), some (.inl t_), none], [.inl kk_, .inr (.inr (some (12, 0)))], S0_)) rfl ?_
  refine sm_T_cale (d1_ := 1) (Q1_ := vq_272 kk_ S0_) (Q2_ := (fun ex_ S1_ => ex_ ∈ ([0] : List Nat) ∧ vx_272 kk_ S0_ S1_)) rfl rfl (by decide) (vc_272 kk_ S0_ hI_ ) rfl (fun xx6_ Sx1_ px4_ => ?_) (fun u_ Sx1_ px4_ => ?_)
  · obtain ⟨px4m, hIx2_, hFx3_, px4_⟩ := px4_
    refine Or.inr ⟨_, _, rfl, by first | exact px4m | (simp only [List.mem_cons, List.not_mem_nil, or_false] at px4m ⊢; omega), hIx2_, ai_fr_tr hF_ (fr_le hFx3_ rfl), ?_⟩
    first | (rw [px4_.2]; exact hJ_) | (rw [px4_]; exact hJ_)
  obtain ⟨rfl, -, -, rfl, px4_⟩ := px4_
  have a9_ := px4_
  have J9_ := hJ_.2.1 kk_.toNat (by omega) a9_.2
  have J1_ := J9_.1
  have q9_ := a9_.2
  have c8_ : 0 ≤ S0_.1 2 (kk_.toNat) 8 ∧ S0_.1 2 (kk_.toNat) 8 ≤ 150 := hI_.1 2 (kk_.toNat) 8 rfl
  have c1_ : 0 ≤ S0_.1 2 (kk_.toNat) 1 ∧ S0_.1 2 (kk_.toNat) 1 ≤ 12 := hI_.1 2 (kk_.toNat) 1 rfl
  have c2_ : 0 ≤ S0_.1 2 (kk_.toNat) 2 ∧ S0_.1 2 (kk_.toNat) 2 ≤ 6 := hI_.1 2 (kk_.toNat) 2 rfl
  refine sm_T_go 2 (c1 := (9, [some (.inr (.inr (some (12, 0)))), some (.inl kk_), some (.inl a_), some (.inl b_), some (.inl n_), some (.inl t_), some (.inr (.inr (some (2, kk_.toNat))))], [.inl n_], S0_)) rfl ?_
  refine sm_T_b0 (a := 2) (z := 17) rfl (fun cx7_ => ?_) (fun cx7_ => ?_)
  · have cx7_ : n_ < 0 := of_decide_eq_true cx7_
    refine sm_T_go 1 (c1 := (27, [some (.inr (.inr (some (12, 0)))), some (.inl kk_), some (.inl a_), some (.inl b_), some (.inl n_), some (.inl t_), some (.inr (.inr (some (2, kk_.toNat))))], [.inl 0], S0_)) rfl ?_
    refine sm_T_cale (d1_ := 0) (Q1_ := vq_265e 0 S0_) (Q2_ := (fun ex_ S1_ => ex_ ∈ ([0] : List Nat) ∧ vx_265e 0 S0_ S1_)) rfl rfl (by decide) (vc_265e 0 S0_ hI_ ) rfl (fun xx13_ Sx8_ px11_ => ?_) (fun u_ Sx8_ px11_ => ?_)
    · obtain ⟨px11m, hIx9_, hFx10_, px11_⟩ := px11_
      refine Or.inr ⟨_, _, rfl, by first | exact px11m | (simp only [List.mem_cons, List.not_mem_nil, or_false] at px11m ⊢; omega), hIx9_, ai_fr_tr hF_ (fr_le hFx10_ rfl), ?_⟩
      first | (rw [px11_.2]; exact hJ_) | (rw [px11_]; exact hJ_)
    · exact absurd rfl px11_.2.2.2.1
  · have cx7_ : ¬ (n_ < 0) := of_decide_eq_false cx7_
    refine sm_T_go 2 (c1 := (16, [some (.inr (.inr (some (12, 0)))), some (.inl kk_), some (.inl a_), some (.inl b_), some (.inl n_), some (.inl t_), some (.inr (.inr (some (2, kk_.toNat))))], [.inr (.inr (some (2, kk_.toNat))), .inl n_], S0_)) rfl ?_
    refine sm_T_cal (d1 := 0) (Q1 := vq_55 kk_.toNat S0_) rfl rfl (by decide) (vc_55 kk_.toNat S0_ hI_ ) (fun u_ Sx14_ px17_ => ?_)
    obtain ⟨rfl, vx19_, rfl, px17_⟩ := px17_
    refine sm_T_br (a := 3) (z := 7) rfl (fun cx20_ => ?_) (fun cx20_ => ?_)
    · have cx20_ : vx19_ ≤ n_ := of_decide_eq_true cx20_
      refine sm_T_go 1 (c1 := (27, [some (.inr (.inr (some (12, 0)))), some (.inl kk_), some (.inl a_), some (.inl b_), some (.inl n_), some (.inl t_), some (.inr (.inr (some (2, kk_.toNat))))], [.inl 0], S0_)) rfl ?_
      refine sm_T_cale (d1_ := 0) (Q1_ := vq_265e 0 S0_) (Q2_ := (fun ex_ S1_ => ex_ ∈ ([0] : List Nat) ∧ vx_265e 0 S0_ S1_)) rfl rfl (by decide) (vc_265e 0 S0_ hI_ ) rfl (fun xx26_ Sx21_ px24_ => ?_) (fun u_ Sx21_ px24_ => ?_)
      · obtain ⟨px24m, hIx22_, hFx23_, px24_⟩ := px24_
        refine Or.inr ⟨_, _, rfl, by first | exact px24m | (simp only [List.mem_cons, List.not_mem_nil, or_false] at px24m ⊢; omega), hIx22_, ai_fr_tr hF_ (fr_le hFx23_ rfl), ?_⟩
        first | (rw [px24_.2]; exact hJ_) | (rw [px24_]; exact hJ_)
      · exact absurd rfl px24_.2.2.2.1
    · have cx20_ : ¬ (vx19_ ≤ n_) := of_decide_eq_false cx20_
      refine sm_T_go 2 (c1 := (27, [some (.inr (.inr (some (12, 0)))), some (.inl kk_), some (.inl a_), some (.inl b_), some (.inl n_), some (.inl t_), some (.inr (.inr (some (2, kk_.toNat))))], [.inl 1], S0_)) rfl ?_
      refine sm_T_cale (d1_ := 0) (Q1_ := vq_265e 1 S0_) (Q2_ := (fun ex_ S1_ => ex_ ∈ ([0] : List Nat) ∧ vx_265e 1 S0_ S1_)) rfl rfl (by decide) (vc_265e 1 S0_ hI_ ) rfl (fun xx32_ Sx27_ px30_ => ?_) (fun u_ Sx27_ px30_ => ?_)
      · exact absurd px30_.2.2.2.1 (by decide)
      obtain ⟨rfl, -, -, px30_, rfl⟩ := px30_
      refine sm_T_go 2 (c1 := (33, [some (.inr (.inr (some (12, 0)))), some (.inl kk_), some (.inl a_), some (.inl b_), some (.inl n_), some (.inl t_), some (.inr (.inr (some (2, kk_.toNat))))], [.inl a_, .inr (.inr (some (2, kk_.toNat)))], S0_)) rfl ?_
      refine sm_T_cal (d1 := 0) (Q1 := vq_61p a_ kk_.toNat S0_) rfl rfl (by decide) (vc_61p a_ kk_.toNat S0_ hI_ (by omega)) (fun u_ Sx33_ px36_ => ?_)
      obtain ⟨rfl, vx38_, rfl, px36_⟩ := px36_
      have m33_ := px36_.2
      have n33_ := px36_.1
      refine sm_T_b0 (a := 0) (z := 16) rfl (fun cx39_ => ?_) (fun cx39_ => ?_)
      · have cx39_ : vx38_ = 0 := of_decide_eq_true cx39_
        refine sm_T_go 1 (c1 := (53, [some (.inr (.inr (some (12, 0)))), some (.inl kk_), some (.inl a_), some (.inl b_), some (.inl n_), some (.inl t_), some (.inr (.inr (some (2, kk_.toNat))))], [.inl 0], S0_)) rfl ?_
        refine sm_T_cale (d1_ := 0) (Q1_ := vq_266e 0 S0_) (Q2_ := (fun ex_ S1_ => ex_ ∈ ([1] : List Nat) ∧ vx_266e 0 S0_ S1_)) rfl rfl (by decide) (vc_266e 0 S0_ hI_ ) rfl (fun xx45_ Sx40_ px43_ => ?_) (fun u_ Sx40_ px43_ => ?_)
        · obtain ⟨px43m, hIx41_, hFx42_, px43_⟩ := px43_
          refine Or.inr ⟨_, _, rfl, by first | exact px43m | (simp only [List.mem_cons, List.not_mem_nil, or_false] at px43m ⊢; omega), hIx41_, ai_fr_tr hF_ (fr_le hFx42_ rfl), ?_⟩
          first | (rw [px43_.2]; exact hJ_) | (rw [px43_]; exact hJ_)
        · exact absurd rfl px43_.2.2.2.1
      · have cx39_ : ¬ (vx38_ = 0) := of_decide_eq_false cx39_
        have o33_ := m33_ (by omega)
        refine sm_T_go 2 (c1 := (42, [some (.inr (.inr (some (12, 0)))), some (.inl kk_), some (.inl a_), some (.inl b_), some (.inl n_), some (.inl t_), some (.inr (.inr (some (2, kk_.toNat))))], [.inl b_, .inr (.inr (some (2, kk_.toNat)))], S0_)) rfl ?_
        refine sm_T_cal (d1 := 0) (Q1 := vq_61p b_ kk_.toNat S0_) rfl rfl (by decide) (vc_61p b_ kk_.toNat S0_ hI_ (by omega)) (fun u_ Sx46_ px49_ => ?_)
        obtain ⟨rfl, vx51_, rfl, px49_⟩ := px49_
        have m42_ := px49_.2
        have n42_ := px49_.1
        refine sm_T_b0 (a := 0) (z := 7) rfl (fun cx52_ => ?_) (fun cx52_ => ?_)
        · have cx52_ : vx51_ = 0 := of_decide_eq_true cx52_
          refine sm_T_go 1 (c1 := (53, [some (.inr (.inr (some (12, 0)))), some (.inl kk_), some (.inl a_), some (.inl b_), some (.inl n_), some (.inl t_), some (.inr (.inr (some (2, kk_.toNat))))], [.inl 0], S0_)) rfl ?_
          refine sm_T_cale (d1_ := 0) (Q1_ := vq_266e 0 S0_) (Q2_ := (fun ex_ S1_ => ex_ ∈ ([1] : List Nat) ∧ vx_266e 0 S0_ S1_)) rfl rfl (by decide) (vc_266e 0 S0_ hI_ ) rfl (fun xx58_ Sx53_ px56_ => ?_) (fun u_ Sx53_ px56_ => ?_)
          · obtain ⟨px56m, hIx54_, hFx55_, px56_⟩ := px56_
            refine Or.inr ⟨_, _, rfl, by first | exact px56m | (simp only [List.mem_cons, List.not_mem_nil, or_false] at px56m ⊢; omega), hIx54_, ai_fr_tr hF_ (fr_le hFx55_ rfl), ?_⟩
            first | (rw [px56_.2]; exact hJ_) | (rw [px56_]; exact hJ_)
          · exact absurd rfl px56_.2.2.2.1
        · have cx52_ : ¬ (vx51_ = 0) := of_decide_eq_false cx52_
          have o42_ := m42_ (by omega)
          refine sm_T_go 2 (c1 := (53, [some (.inr (.inr (some (12, 0)))), some (.inl kk_), some (.inl a_), some (.inl b_), some (.inl n_), some (.inl t_), some (.inr (.inr (some (2, kk_.toNat))))], [.inl 1], S0_)) rfl ?_
          refine sm_T_cale (d1_ := 0) (Q1_ := vq_266e 1 S0_) (Q2_ := (fun ex_ S1_ => ex_ ∈ ([1] : List Nat) ∧ vx_266e 1 S0_ S1_)) rfl rfl (by decide) (vc_266e 1 S0_ hI_ ) rfl (fun xx64_ Sx59_ px62_ => ?_) (fun u_ Sx59_ px62_ => ?_)
          · exact absurd px62_.2.2.2.1 (by decide)
          obtain ⟨rfl, -, -, px62_, rfl⟩ := px62_
          refine sm_T_go 2 (c1 := (59, [some (.inr (.inr (some (12, 0)))), some (.inl kk_), some (.inl a_), some (.inl b_), some (.inl n_), some (.inl t_), some (.inr (.inr (some (2, kk_.toNat))))], [.inl (-1), .inl t_], S0_)) rfl ?_
          refine sm_T_br (a := 2) (z := 15) rfl (fun cx65_ => ?_) (fun cx65_ => ?_)
          · have cx65_ : t_ < (-1) := of_decide_eq_true cx65_
            refine sm_T_go 1 (c1 := (75, [some (.inr (.inr (some (12, 0)))), some (.inl kk_), some (.inl a_), some (.inl b_), some (.inl n_), some (.inl t_), some (.inr (.inr (some (2, kk_.toNat))))], [.inl 0], S0_)) rfl ?_
            refine sm_T_cale (d1_ := 0) (Q1_ := vq_266e 0 S0_) (Q2_ := (fun ex_ S1_ => ex_ ∈ ([1] : List Nat) ∧ vx_266e 0 S0_ S1_)) rfl rfl (by decide) (vc_266e 0 S0_ hI_ ) rfl (fun xx71_ Sx66_ px69_ => ?_) (fun u_ Sx66_ px69_ => ?_)
            · obtain ⟨px69m, hIx67_, hFx68_, px69_⟩ := px69_
              refine Or.inr ⟨_, _, rfl, by first | exact px69m | (simp only [List.mem_cons, List.not_mem_nil, or_false] at px69m ⊢; omega), hIx67_, ai_fr_tr hF_ (fr_le hFx68_ rfl), ?_⟩
              first | (rw [px69_.2]; exact hJ_) | (rw [px69_]; exact hJ_)
            · exact absurd rfl px69_.2.2.2.1
          · have cx65_ : ¬ (t_ < (-1)) := of_decide_eq_false cx65_
            refine sm_T_go 1 (c1 := (64, [some (.inr (.inr (some (12, 0)))), some (.inl kk_), some (.inl a_), some (.inl b_), some (.inl n_), some (.inl t_), some (.inr (.inr (some (2, kk_.toNat))))], [.inl t_], S0_)) rfl ?_
            refine sm_T_nt (u := some (.inl 100000)) (S1 := S0_) rfl rfl rfl ?_
            refine sm_T_br (a := 4) (z := 7) rfl (fun cx72_ => ?_) (fun cx72_ => ?_)
            · have cx72_ : 100000 < t_ := of_decide_eq_true cx72_
              refine sm_T_go 1 (c1 := (75, [some (.inr (.inr (some (12, 0)))), some (.inl kk_), some (.inl a_), some (.inl b_), some (.inl n_), some (.inl t_), some (.inr (.inr (some (2, kk_.toNat))))], [.inl 0], S0_)) rfl ?_
              refine sm_T_cale (d1_ := 0) (Q1_ := vq_266e 0 S0_) (Q2_ := (fun ex_ S1_ => ex_ ∈ ([1] : List Nat) ∧ vx_266e 0 S0_ S1_)) rfl rfl (by decide) (vc_266e 0 S0_ hI_ ) rfl (fun xx78_ Sx73_ px76_ => ?_) (fun u_ Sx73_ px76_ => ?_)
              · obtain ⟨px76m, hIx74_, hFx75_, px76_⟩ := px76_
                refine Or.inr ⟨_, _, rfl, by first | exact px76m | (simp only [List.mem_cons, List.not_mem_nil, or_false] at px76m ⊢; omega), hIx74_, ai_fr_tr hF_ (fr_le hFx75_ rfl), ?_⟩
                first | (rw [px76_.2]; exact hJ_) | (rw [px76_]; exact hJ_)
              · exact absurd rfl px76_.2.2.2.1
            · have cx72_ : ¬ (100000 < t_) := of_decide_eq_false cx72_
              refine sm_T_go 2 (c1 := (75, [some (.inr (.inr (some (12, 0)))), some (.inl kk_), some (.inl a_), some (.inl b_), some (.inl n_), some (.inl t_), some (.inr (.inr (some (2, kk_.toNat))))], [.inl 1], S0_)) rfl ?_
              refine sm_T_cale (d1_ := 0) (Q1_ := vq_266e 1 S0_) (Q2_ := (fun ex_ S1_ => ex_ ∈ ([1] : List Nat) ∧ vx_266e 1 S0_ S1_)) rfl rfl (by decide) (vc_266e 1 S0_ hI_ ) rfl (fun xx84_ Sx79_ px82_ => ?_) (fun u_ Sx79_ px82_ => ?_)
              · exact absurd px82_.2.2.2.1 (by decide)
              obtain ⟨rfl, -, -, px82_, rfl⟩ := px82_
              refine sm_T_go 5 (c1 := (86, [some (.inr (.inr (some (12, 0)))), some (.inl kk_), some (.inl a_), some (.inl b_), some (.inl n_), some (.inl t_), some (.inr (.inr (some (2, kk_.toNat))))], [.inl b_, .inl a_, .inr (.inr (some (2, kk_.toNat))), .inr (.inr (some (11, 0)))], S0_)) rfl ?_
              refine sm_T_cal (d1 := 2) (Q1 := vq_205 a_ b_ kk_.toNat S0_) rfl rfl (by decide) (vc_205 a_ b_ kk_.toNat S0_ hI_ (by omega) (by omega) (by omega)) (fun u_ Sx85_ px88_ => ?_)
              obtain ⟨rfl, hIx86_, hFx87_, px88_⟩ := px88_
              have hFx89_ : ai_fr (sx_W vw_256) S0_ Sx85_ := ai_fr_tr hF_ (fr_le hFx87_ rfl)
              have J8_ := jC_fr hJ_ hFx89_ (by decide) (by decide) (by decide) (by decide) (by decide) rfl rfl rfl rfl rfl rfl
              have y1_ := hFx87_.1 2 kk_.toNat 1 rfl
              have y2_ := hFx87_.1 2 kk_.toNat 2 rfl
              have y8_ := hFx87_.1 2 kk_.toNat 8 rfl
              have bx90_ : 0 ≤ Sx85_.1 11 0 16 ∧ Sx85_.1 11 0 16 ≤ 1 := hIx86_.1 11 0 16 rfl
              refine sm_T_go 3 (c1 := (96, [some (.inr (.inr (some (12, 0)))), some (.inl kk_), some (.inl a_), some (.inl b_), some (.inl n_), some (.inl t_), some (.inr (.inr (some (2, kk_.toNat))))], [.inl (Sx85_.1 11 0 16)], Sx85_)) rfl ?_
              refine sm_T_b0 (a := 1) (z := 7) rfl (fun cx91_ => ?_) (fun cx91_ => ?_)
              · have cx91_ : (Sx85_.1 11 0 16) ≠ 0 := of_decide_eq_true cx91_
                refine sm_T_go 1 (c1 := (104, [some (.inr (.inr (some (12, 0)))), some (.inl kk_), some (.inl a_), some (.inl b_), some (.inl n_), some (.inl t_), some (.inr (.inr (some (2, kk_.toNat))))], [.inl 0], Sx85_)) rfl ?_
                refine sm_T_cale (d1_ := 0) (Q1_ := vq_268e 0 Sx85_) (Q2_ := (fun ex_ S1_ => ex_ ∈ ([3] : List Nat) ∧ vx_268e 0 Sx85_ S1_)) rfl rfl (by decide) (vc_268e 0 Sx85_ hIx86_ ) rfl (fun xx97_ Sx92_ px95_ => ?_) (fun u_ Sx92_ px95_ => ?_)
                · obtain ⟨px95m, hIx93_, hFx94_, px95_⟩ := px95_
                  refine Or.inr ⟨_, _, rfl, by first | exact px95m | (simp only [List.mem_cons, List.not_mem_nil, or_false] at px95m ⊢; omega), hIx93_, ai_fr_tr hFx89_ (fr_le hFx94_ rfl), ?_⟩
                  rw [px95_.2]; exact J8_
                · exact absurd rfl px95_.2.2.2.1
              · have cx91_ : ¬ ((Sx85_.1 11 0 16) ≠ 0) := of_decide_eq_false cx91_
                refine sm_T_go 2 (c1 := (104, [some (.inr (.inr (some (12, 0)))), some (.inl kk_), some (.inl a_), some (.inl b_), some (.inl n_), some (.inl t_), some (.inr (.inr (some (2, kk_.toNat))))], [.inl 1], Sx85_)) rfl ?_
                refine sm_T_cale (d1_ := 0) (Q1_ := vq_268e 1 Sx85_) (Q2_ := (fun ex_ S1_ => ex_ ∈ ([3] : List Nat) ∧ vx_268e 1 Sx85_ S1_)) rfl rfl (by decide) (vc_268e 1 Sx85_ hIx86_ ) rfl (fun xx103_ Sx98_ px101_ => ?_) (fun u_ Sx98_ px101_ => ?_)
                · exact absurd px101_.2.2.2.1 (by decide)
                obtain ⟨rfl, -, -, px101_, rfl⟩ := px101_
                refine sm_T_go 4 (c1 := (115, [some (.inr (.inr (some (12, 0)))), some (.inl kk_), some (.inl a_), some (.inl b_), some (.inl n_), some (.inl t_), some (.inr (.inr (some (2, kk_.toNat))))], [.inl t_, .inl n_, .inr (.inr (some (11, 0)))], Sx85_)) rfl ?_
                refine sm_T_cal (d1 := 0) (Q1 := vq_209 n_ t_ Sx85_) rfl rfl (by decide) (vc_209 n_ t_ Sx85_ hIx86_ (by omega)) (fun u_ Sx104_ px107_ => ?_)
                obtain ⟨rfl, vx109_, rfl, px107_⟩ := px107_
                refine sm_T_ri rfl (Or.inl ⟨_, _, rfl, _, rfl, hIx86_, hFx89_, ?_⟩)
                exact J8_
