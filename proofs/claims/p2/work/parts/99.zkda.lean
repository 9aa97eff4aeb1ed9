/-! wires: neighbours; written by wip/p55/gen/vg -/
/-! Router.spreadFrom -/
def vw_162 : sx_Wl := ([(8, 6), (8, 8)], [86, 87, 88], [])
def vq_162 (a1_ : Int) (a2_ : Int) (a3_ : Int) (bb_ : Nat) (S0_ : sm_S) (u_ : Option sm_V) (S1_ : sm_S) : Prop := u_ = none ∧ gi S1_ ∧ ai_fr (sx_W vw_162) S0_ S1_ ∧ (rsp bb_ a2_ S1_ ∧ rmo S0_ S1_)
set_option maxHeartbeats 400000 in
theorem vc_162 {sc_ : Nat × (Nat → Int)} (a1_ : Int) (a2_ : Int) (a3_ : Int) (bb_ : Nat) (S0_ : sm_S) (hI_ : gi S0_) (hb_ : S0_.2.1 8 0 0 = some bb_) (hg_ : rgw S0_) (hr_ : rsp bb_ a2_ S0_) (h1_ : 0 ≤ a1_ ∧ a1_ < 2 * S0_.1 8 0 2) (h2_ : 0 ≤ a2_ ∧ a2_ ≤ 161) (h0_ : 0 ≤ S0_.2.2.1 86 0 a1_.toNat) : sm_T (mt_P sc_) 1 162 (0, [some (.inr (.inr (some (8, 0)))), some (.inl a1_), some (.inl a2_), some (.inl a3_), none, none], [], S0_) (fun ro9_ => ∃ u_ S1_, ro9_ = (.inl u_, S1_, 0) ∧ vq_162 a1_ a2_ a3_ bb_ S0_ u_ S1_) := by
  have hF_ : ai_fr (sx_W vw_162) S0_ S0_ := ai_fr_rf
  have cL_ : 0 ≤ S0_.1 8 0 2 ∧ S0_.1 8 0 2 ≤ 2356 := hI_.1 8 0 2 rfl
  have cw : 0 ≤ S0_.1 8 0 1 ∧ S0_.1 8 0 1 ≤ 62 := hI_.1 8 0 1 rfl
  have w9_ := hg_.1
  have L9_ := hg_.2.1
  obtain ⟨kk_, hkk_⟩ := hg_.2.2
  have q9_ := Int.emod_lt_of_pos a1_ (show 0 < S0_.1 8 0 1 by omega)
  have q8_ := Int.emod_nonneg a1_ (show S0_.1 8 0 1 ≠ 0 by omega)
  refine sm_T_go 3 (c1 := (5, [some (.inr (.inr (some (8, 0)))), some (.inl a1_), some (.inl a2_), some (.inl a3_), none, none], [.inl a1_, .inr (.inr (some (86, 0)))], S0_)) rfl ?_
  refine sm_T_iald (n := 4712) rfl rfl (by omega) (by omega) ?_
  have bx1_ : (-1) ≤ S0_.2.2.1 86 0 a1_.toNat ∧ S0_.2.2.1 86 0 a1_.toNat ≤ 100000 := hI_.2 86 0 _
  have bx2_ : 0 ≤ S0_.1 8 0 2 ∧ S0_.1 8 0 2 ≤ 2356 := hI_.1 8 0 2 rfl
  refine sm_T_go 4 (c1 := (13, [some (.inr (.inr (some (8, 0)))), some (.inl a1_), some (.inl a2_), some (.inl a3_), some (.inl (S0_.2.2.1 86 0 a1_.toNat)), none], [.inl (S0_.1 8 0 2), .inl a1_], S0_)) rfl ?_
  refine sm_T_br (a := 3) (z := 77) rfl (fun cx3_ => ?_) (fun cx3_ => ?_)
  · have cx3_ : (S0_.1 8 0 2) ≤ a1_ := of_decide_eq_true cx3_
    refine sm_T_go 3 (c1 := (95, [some (.inr (.inr (some (8, 0)))), some (.inl a1_), some (.inl a2_), some (.inl a3_), some (.inl (S0_.2.2.1 86 0 a1_.toNat)), none], [.inl (S0_.1 8 0 2), .inl a1_], S0_)) rfl ?_
    refine sm_T_bin (w := a1_ - (S0_.1 8 0 2)) rfl (bi_sub (by omega) (by omega) (by omega)) ?_ -- pc_ 95
    have bx4_ : 0 ≤ S0_.1 8 0 1 ∧ S0_.1 8 0 1 ≤ 62 := hI_.1 8 0 1 rfl
    refine sm_T_go 4 (c1 := (104, [some (.inr (.inr (some (8, 0)))), some (.inl a1_), some (.inl a2_), some (.inl a3_), some (.inl (S0_.2.2.1 86 0 a1_.toNat)), some (.inl (a1_ - (S0_.1 8 0 2)))], [.inl (S0_.1 8 0 1), .inl (a1_ - (S0_.1 8 0 2))], S0_)) rfl ?_
    refine sm_T_br (a := 2) (z := 17) rfl (fun cx5_ => ?_) (fun cx5_ => ?_)
    · have cx5_ : a1_ - (S0_.1 8 0 2) < (S0_.1 8 0 1) := of_decide_eq_true cx5_
      refine sm_T_go 5 (c1 := (131, [some (.inr (.inr (some (8, 0)))), some (.inl a1_), some (.inl a2_), some (.inl a3_), some (.inl (S0_.2.2.1 86 0 a1_.toNat)), some (.inl (a1_ - (S0_.1 8 0 2)))], [.inl (S0_.1 8 0 1), .inl (S0_.1 8 0 2), .inl (a1_ - (S0_.1 8 0 2))], S0_)) rfl ?_
      refine sm_T_bin (w := (S0_.1 8 0 2) - (S0_.1 8 0 1)) rfl (bi_sub (by omega) (by omega) (by omega)) ?_ -- pc_ 131
      refine sm_T_br (a := 3) (z := 17) rfl (fun cx6_ => ?_) (fun cx6_ => ?_)
      · have cx6_ : (S0_.1 8 0 2) - (S0_.1 8 0 1) ≤ a1_ - (S0_.1 8 0 2) := of_decide_eq_true cx6_
        refine sm_T_go 5 (c1 := (156, [some (.inr (.inr (some (8, 0)))), some (.inl a1_), some (.inl a2_), some (.inl a3_), some (.inl (S0_.2.2.1 86 0 a1_.toNat)), some (.inl (a1_ - (S0_.1 8 0 2)))], [.inl a3_, .inl a2_, .inl (S0_.2.2.1 86 0 a1_.toNat), .inl (a1_ - (S0_.1 8 0 2)), .inr (.inr (some (8, 0)))], S0_)) rfl ?_
        refine sm_T_cal (d1 := 0) (Q1 := vq_163 (a1_ - (S0_.1 8 0 2)) (S0_.2.2.1 86 0 a1_.toNat) a2_ a3_ bb_ a1_ S0_) rfl rfl (by decide) (vc_163 (a1_ - (S0_.1 8 0 2)) (S0_.2.2.1 86 0 a1_.toNat) a2_ a3_ bb_ a1_ S0_ hI_ (by exact (hF_.2.1 8 0 0 rfl).trans hb_) (by exact rgw_fr hg_ hF_) (by first | exact x146_.1 | exact x118_.1 | exact hr_) (by omega) (by omega) (by omega) (by (first | rfl | omega)) (by omega) (by ((first | rw [l146_, m146_] | rw [l118_, m118_] | skip); exact ⟨4, by decide, by rw [nb_4 (by omega)]; omega⟩))) (fun u_ Sx7_ px10_ => ?_)
        obtain ⟨rfl, hIx8_, hFx9_, px10_⟩ := px10_
        have hFx11_ : ai_fr (sx_W vw_162) S0_ Sx7_ := ai_fr_tr hF_ (fr_le hFx9_ rfl)
        have ex12_ : Sx7_.1 8 0 2 = S0_.1 8 0 2 := hFx9_.1 8 0 2 rfl
        have ex13_ : Sx7_.1 8 0 1 = S0_.1 8 0 1 := hFx9_.1 8 0 1 rfl
        have x156_ := px10_
        have y156_ : rmo S0_ Sx7_ := by first | exact rmo_tr y146_ px10_.2 | exact rmo_tr y118_ px10_.2 | exact px10_.2
        have l156_ : Sx7_.1 8 0 1 = S0_.1 8 0 1 := hFx11_.1 8 0 1 rfl
        have m156_ : Sx7_.1 8 0 2 = S0_.1 8 0 2 := hFx11_.1 8 0 2 rfl
        have z156_ : Sx7_.2.2.1 86 0 a1_.toNat = S0_.2.2.1 86 0 a1_.toNat := y156_.1 a1_.toNat (by omega)
        refine sm_T_rv rfl ⟨_, _, rfl, rfl, hIx8_, hFx11_, ?_⟩
        first | exact ⟨x84_.1, y84_⟩ | exact ⟨x156_.1, y156_⟩
      · have cx6_ : ¬ ((S0_.1 8 0 2) - (S0_.1 8 0 1) ≤ a1_ - (S0_.1 8 0 2)) := of_decide_eq_false cx6_
        refine sm_T_go 4 (c1 := (141, [some (.inr (.inr (some (8, 0)))), some (.inl a1_), some (.inl a2_), some (.inl a3_), some (.inl (S0_.2.2.1 86 0 a1_.toNat)), some (.inl (a1_ - (S0_.1 8 0 2)))], [.inl (S0_.1 8 0 1), .inl a1_, .inr (.inr (some (8, 0)))], S0_)) rfl ?_
        refine sm_T_bin (w := a1_ + (S0_.1 8 0 1)) rfl (bi_add (by omega) (by omega) (by omega)) ?_ -- pc_ 141
        refine sm_T_go 3 (c1 := (146, [some (.inr (.inr (some (8, 0)))), some (.inl a1_), some (.inl a2_), some (.inl a3_), some (.inl (S0_.2.2.1 86 0 a1_.toNat)), some (.inl (a1_ - (S0_.1 8 0 2)))], [.inl a3_, .inl a2_, .inl (S0_.2.2.1 86 0 a1_.toNat), .inl (a1_ + (S0_.1 8 0 1)), .inr (.inr (some (8, 0)))], S0_)) rfl ?_
        refine sm_T_cal (d1 := 0) (Q1 := vq_163 (a1_ + (S0_.1 8 0 1)) (S0_.2.2.1 86 0 a1_.toNat) a2_ a3_ bb_ a1_ S0_) rfl rfl (by decide) (vc_163 (a1_ + (S0_.1 8 0 1)) (S0_.2.2.1 86 0 a1_.toNat) a2_ a3_ bb_ a1_ S0_ hI_ (by exact (hF_.2.1 8 0 0 rfl).trans hb_) (by exact rgw_fr hg_ hF_) (by first | exact x118_.1 | exact hr_) (by omega) (by omega) (by omega) (by (first | rfl | omega)) (by omega) (by ((first | rw [l118_, m118_] | skip); exact ⟨2, by decide, by rw [nb_2 (by omega) (by omega)]; omega⟩))) (fun u_ Sx14_ px17_ => ?_)
        obtain ⟨rfl, hIx15_, hFx16_, px17_⟩ := px17_
        have hFx18_ : ai_fr (sx_W vw_162) S0_ Sx14_ := ai_fr_tr hF_ (fr_le hFx16_ rfl)
        have ex19_ : Sx14_.1 8 0 2 = S0_.1 8 0 2 := hFx16_.1 8 0 2 rfl
        have ex20_ : Sx14_.1 8 0 1 = S0_.1 8 0 1 := hFx16_.1 8 0 1 rfl
        have x146_ := px17_
        have y146_ : rmo S0_ Sx14_ := by first | exact rmo_tr y118_ px17_.2 | exact px17_.2
        have l146_ : Sx14_.1 8 0 1 = S0_.1 8 0 1 := hFx18_.1 8 0 1 rfl
        have m146_ : Sx14_.1 8 0 2 = S0_.1 8 0 2 := hFx18_.1 8 0 2 rfl
        have z146_ : Sx14_.2.2.1 86 0 a1_.toNat = S0_.2.2.1 86 0 a1_.toNat := y146_.1 a1_.toNat (by omega)
        refine sm_T_go 5 (c1 := (156, [some (.inr (.inr (some (8, 0)))), some (.inl a1_), some (.inl a2_), some (.inl a3_), some (.inl (S0_.2.2.1 86 0 a1_.toNat)), some (.inl (a1_ - (S0_.1 8 0 2)))], [.inl a3_, .inl a2_, .inl (S0_.2.2.1 86 0 a1_.toNat), .inl (a1_ - (S0_.1 8 0 2)), .inr (.inr (some (8, 0)))], Sx14_)) rfl ?_
        refine sm_T_cal (d1 := 0) (Q1 := vq_163 (a1_ - (S0_.1 8 0 2)) (S0_.2.2.1 86 0 a1_.toNat) a2_ a3_ bb_ a1_ Sx14_) rfl rfl (by decide) (vc_163 (a1_ - (S0_.1 8 0 2)) (S0_.2.2.1 86 0 a1_.toNat) a2_ a3_ bb_ a1_ Sx14_ hIx15_ (by exact (hFx18_.2.1 8 0 0 rfl).trans hb_) (by exact rgw_fr hg_ hFx18_) (by first | exact x146_.1 | exact x118_.1 | exact hr_) (by omega) (by omega) (by omega) (by (first | rfl | omega)) (by omega) (by ((first | rw [l146_, m146_] | rw [l118_, m118_] | skip); exact ⟨4, by decide, by rw [nb_4 (by omega)]; omega⟩))) (fun u_ Sx21_ px24_ => ?_)
        obtain ⟨rfl, hIx22_, hFx23_, px24_⟩ := px24_
        have hFx25_ : ai_fr (sx_W vw_162) S0_ Sx21_ := ai_fr_tr hFx18_ (fr_le hFx23_ rfl)
        have x156_ := px24_
        have y156_ : rmo S0_ Sx21_ := by first | exact rmo_tr y146_ px24_.2 | exact rmo_tr y118_ px24_.2 | exact px24_.2
        have l156_ : Sx21_.1 8 0 1 = S0_.1 8 0 1 := hFx25_.1 8 0 1 rfl
        have m156_ : Sx21_.1 8 0 2 = S0_.1 8 0 2 := hFx25_.1 8 0 2 rfl
        have z156_ : Sx21_.2.2.1 86 0 a1_.toNat = S0_.2.2.1 86 0 a1_.toNat := y156_.1 a1_.toNat (by omega)
        refine sm_T_rv rfl ⟨_, _, rfl, rfl, hIx22_, hFx25_, ?_⟩
        first | exact ⟨x84_.1, y84_⟩ | exact ⟨x156_.1, y156_⟩
    · have cx5_ : ¬ (a1_ - (S0_.1 8 0 2) < (S0_.1 8 0 1)) := of_decide_eq_false cx5_
      refine sm_T_go 4 (c1 := (113, [some (.inr (.inr (some (8, 0)))), some (.inl a1_), some (.inl a2_), some (.inl a3_), some (.inl (S0_.2.2.1 86 0 a1_.toNat)), some (.inl (a1_ - (S0_.1 8 0 2)))], [.inl (S0_.1 8 0 1), .inl a1_, .inr (.inr (some (8, 0)))], S0_)) rfl ?_
      refine sm_T_bin (w := a1_ - (S0_.1 8 0 1)) rfl (bi_sub (by omega) (by omega) (by omega)) ?_ -- pc_ 113
      refine sm_T_go 3 (c1 := (118, [some (.inr (.inr (some (8, 0)))), some (.inl a1_), some (.inl a2_), some (.inl a3_), some (.inl (S0_.2.2.1 86 0 a1_.toNat)), some (.inl (a1_ - (S0_.1 8 0 2)))], [.inl a3_, .inl a2_, .inl (S0_.2.2.1 86 0 a1_.toNat), .inl (a1_ - (S0_.1 8 0 1)), .inr (.inr (some (8, 0)))], S0_)) rfl ?_
      refine sm_T_cal (d1 := 0) (Q1 := vq_163 (a1_ - (S0_.1 8 0 1)) (S0_.2.2.1 86 0 a1_.toNat) a2_ a3_ bb_ a1_ S0_) rfl rfl (by decide) (vc_163 (a1_ - (S0_.1 8 0 1)) (S0_.2.2.1 86 0 a1_.toNat) a2_ a3_ bb_ a1_ S0_ hI_ (by exact (hF_.2.1 8 0 0 rfl).trans hb_) (by exact rgw_fr hg_ hF_) (by exact hr_) (by omega) (by omega) (by omega) (by (first | rfl | omega)) (by omega) (by (skip; exact ⟨3, by decide, by rw [nb_3 (by omega) (by omega)]; omega⟩))) (fun u_ Sx26_ px29_ => ?_)
      obtain ⟨rfl, hIx27_, hFx28_, px29_⟩ := px29_
      have hFx30_ : ai_fr (sx_W vw_162) S0_ Sx26_ := ai_fr_tr hF_ (fr_le hFx28_ rfl)
      have ex31_ : Sx26_.1 8 0 2 = S0_.1 8 0 2 := hFx28_.1 8 0 2 rfl
      have ex32_ : Sx26_.1 8 0 1 = S0_.1 8 0 1 := hFx28_.1 8 0 1 rfl
      have x118_ := px29_
      have y118_ : rmo S0_ Sx26_ := by first | exact px29_.2
      have l118_ : Sx26_.1 8 0 1 = S0_.1 8 0 1 := hFx30_.1 8 0 1 rfl
      have m118_ : Sx26_.1 8 0 2 = S0_.1 8 0 2 := hFx30_.1 8 0 2 rfl
      have z118_ : Sx26_.2.2.1 86 0 a1_.toNat = S0_.2.2.1 86 0 a1_.toNat := y118_.1 a1_.toNat (by omega)
      have bx33_ : 0 ≤ Sx26_.1 8 0 2 ∧ Sx26_.1 8 0 2 ≤ 2356 := hIx27_.1 8 0 2 rfl
      have bx34_ : 0 ≤ Sx26_.1 8 0 1 ∧ Sx26_.1 8 0 1 ≤ 62 := hIx27_.1 8 0 1 rfl
      refine sm_T_go 5 (c1 := (131, [some (.inr (.inr (some (8, 0)))), some (.inl a1_), some (.inl a2_), some (.inl a3_), some (.inl (S0_.2.2.1 86 0 a1_.toNat)), some (.inl (a1_ - (S0_.1 8 0 2)))], [.inl (Sx26_.1 8 0 1), .inl (Sx26_.1 8 0 2), .inl (a1_ - (S0_.1 8 0 2))], Sx26_)) rfl ?_
      refine sm_T_bin (w := (Sx26_.1 8 0 2) - (Sx26_.1 8 0 1)) rfl (bi_sub (by omega) (by omega) (by omega)) ?_ -- pc_ 131
      refine sm_T_br (a := 3) (z := 17) rfl (fun cx35_ => ?_) (fun cx35_ => ?_)
      · have cx35_ : (Sx26_.1 8 0 2) - (Sx26_.1 8 0 1) ≤ a1_ - (S0_.1 8 0 2) := of_decide_eq_true cx35_
        refine sm_T_go 5 (c1 := (156, [some (.inr (.inr (some (8, 0)))), some (.inl a1_), some (.inl a2_), some (.inl a3_), some (.inl (S0_.2.2.1 86 0 a1_.toNat)), some (.inl (a1_ - (S0_.1 8 0 2)))], [.inl a3_, .inl a2_, .inl (S0_.2.2.1 86 0 a1_.toNat), .inl (a1_ - (S0_.1 8 0 2)), .inr (.inr (some (8, 0)))], Sx26_)) rfl ?_
        refine sm_T_cal (d1 := 0) (Q1 := vq_163 (a1_ - (S0_.1 8 0 2)) (S0_.2.2.1 86 0 a1_.toNat) a2_ a3_ bb_ a1_ Sx26_) rfl rfl (by decide) (vc_163 (a1_ - (S0_.1 8 0 2)) (S0_.2.2.1 86 0 a1_.toNat) a2_ a3_ bb_ a1_ Sx26_ hIx27_ (by exact (hFx30_.2.1 8 0 0 rfl).trans hb_) (by exact rgw_fr hg_ hFx30_) (by first | exact x146_.1 | exact x118_.1 | exact hr_) (by omega) (by omega) (by omega) (by (first | rfl | omega)) (by omega) (by ((first | rw [l146_, m146_] | rw [l118_, m118_] | skip); exact ⟨4, by decide, by rw [nb_4 (by omega)]; omega⟩))) (fun u_ Sx36_ px39_ => ?_)
        obtain ⟨rfl, hIx37_, hFx38_, px39_⟩ := px39_
        have hFx40_ : ai_fr (sx_W vw_162) S0_ Sx36_ := ai_fr_tr hFx30_ (fr_le hFx38_ rfl)
        have ex41_ : Sx36_.1 8 0 2 = Sx26_.1 8 0 2 := hFx38_.1 8 0 2 rfl
        have ex42_ : Sx36_.1 8 0 1 = Sx26_.1 8 0 1 := hFx38_.1 8 0 1 rfl
        have x156_ := px39_
        have y156_ : rmo S0_ Sx36_ := by first | exact rmo_tr y146_ px39_.2 | exact rmo_tr y118_ px39_.2 | exact px39_.2
        have l156_ : Sx36_.1 8 0 1 = S0_.1 8 0 1 := hFx40_.1 8 0 1 rfl
        have m156_ : Sx36_.1 8 0 2 = S0_.1 8 0 2 := hFx40_.1 8 0 2 rfl
        have z156_ : Sx36_.2.2.1 86 0 a1_.toNat = S0_.2.2.1 86 0 a1_.toNat := y156_.1 a1_.toNat (by omega)
        refine sm_T_rv rfl ⟨_, _, rfl, rfl, hIx37_, hFx40_, ?_⟩
        first | exact ⟨x84_.1, y84_⟩ | exact ⟨x156_.1, y156_⟩
      · have cx35_ : ¬ ((Sx26_.1 8 0 2) - (Sx26_.1 8 0 1) ≤ a1_ - (S0_.1 8 0 2)) := of_decide_eq_false cx35_
        refine sm_T_go 4 (c1 := (141, [some (.inr (.inr (some (8, 0)))), some (.inl a1_), some (.inl a2_), some (.inl a3_), some (.inl (S0_.2.2.1 86 0 a1_.toNat)), some (.inl (a1_ - (S0_.1 8 0 2)))], [.inl (Sx26_.1 8 0 1), .inl a1_, .inr (.inr (some (8, 0)))], Sx26_)) rfl ?_
        refine sm_T_bin (w := a1_ + (Sx26_.1 8 0 1)) rfl (bi_add (by omega) (by omega) (by omega)) ?_ -- pc_ 141
        refine sm_T_go 3 (c1 := (146, [some (.inr (.inr (some (8, 0)))), some (.inl a1_), some (.inl a2_), some (.inl a3_), some (.inl (S0_.2.2.1 86 0 a1_.toNat)), some (.inl (a1_ - (S0_.1 8 0 2)))], [.inl a3_, .inl a2_, .inl (S0_.2.2.1 86 0 a1_.toNat), .inl (a1_ + (Sx26_.1 8 0 1)), .inr (.inr (some (8, 0)))], Sx26_)) rfl ?_
        refine sm_T_cal (d1 := 0) (Q1 := vq_163 (a1_ + (Sx26_.1 8 0 1)) (S0_.2.2.1 86 0 a1_.toNat) a2_ a3_ bb_ a1_ Sx26_) rfl rfl (by decide) (vc_163 (a1_ + (Sx26_.1 8 0 1)) (S0_.2.2.1 86 0 a1_.toNat) a2_ a3_ bb_ a1_ Sx26_ hIx27_ (by exact (hFx30_.2.1 8 0 0 rfl).trans hb_) (by exact rgw_fr hg_ hFx30_) (by first | exact x118_.1 | exact hr_) (by omega) (by omega) (by omega) (by (first | rfl | omega)) (by omega) (by ((first | rw [l118_, m118_] | skip); exact ⟨2, by decide, by rw [nb_2 (by omega) (by omega)]; omega⟩))) (fun u_ Sx43_ px46_ => ?_)
        obtain ⟨rfl, hIx44_, hFx45_, px46_⟩ := px46_
        have hFx47_ : ai_fr (sx_W vw_162) S0_ Sx43_ := ai_fr_tr hFx30_ (fr_le hFx45_ rfl)
        have ex48_ : Sx43_.1 8 0 2 = Sx26_.1 8 0 2 := hFx45_.1 8 0 2 rfl
        have ex49_ : Sx43_.1 8 0 1 = Sx26_.1 8 0 1 := hFx45_.1 8 0 1 rfl
        have x146_ := px46_
        have y146_ : rmo S0_ Sx43_ := by first | exact rmo_tr y118_ px46_.2 | exact px46_.2
        have l146_ : Sx43_.1 8 0 1 = S0_.1 8 0 1 := hFx47_.1 8 0 1 rfl
        have m146_ : Sx43_.1 8 0 2 = S0_.1 8 0 2 := hFx47_.1 8 0 2 rfl
        have z146_ : Sx43_.2.2.1 86 0 a1_.toNat = S0_.2.2.1 86 0 a1_.toNat := y146_.1 a1_.toNat (by omega)
        refine sm_T_go 5 (c1 := (156, [some (.inr (.inr (some (8, 0)))), some (.inl a1_), some (.inl a2_), some (.inl a3_), some (.inl (S0_.2.2.1 86 0 a1_.toNat)), some (.inl (a1_ - (S0_.1 8 0 2)))], [.inl a3_, .inl a2_, .inl (S0_.2.2.1 86 0 a1_.toNat), .inl (a1_ - (S0_.1 8 0 2)), .inr (.inr (some (8, 0)))], Sx43_)) rfl ?_
        refine sm_T_cal (d1 := 0) (Q1 := vq_163 (a1_ - (S0_.1 8 0 2)) (S0_.2.2.1 86 0 a1_.toNat) a2_ a3_ bb_ a1_ Sx43_) rfl rfl (by decide) (vc_163 (a1_ - (S0_.1 8 0 2)) (S0_.2.2.1 86 0 a1_.toNat) a2_ a3_ bb_ a1_ Sx43_ hIx44_ (by exact (hFx47_.2.1 8 0 0 rfl).trans hb_) (by exact rgw_fr hg_ hFx47_) (by first | exact x146_.1 | exact x118_.1 | exact hr_) (by omega) (by omega) (by omega) (by (first | rfl | omega)) (by omega) (by ((first | rw [l146_, m146_] | rw [l118_, m118_] | skip); exact ⟨4, by decide, by rw [nb_4 (by omega)]; omega⟩))) (fun u_ Sx50_ px53_ => ?_)
        obtain ⟨rfl, hIx51_, hFx52_, px53_⟩ := px53_
        have hFx54_ : ai_fr (sx_W vw_162) S0_ Sx50_ := ai_fr_tr hFx47_ (fr_le hFx52_ rfl)
        have x156_ := px53_
        have y156_ : rmo S0_ Sx50_ := by first | exact rmo_tr y146_ px53_.2 | exact rmo_tr y118_ px53_.2 | exact px53_.2
        have l156_ : Sx50_.1 8 0 1 = S0_.1 8 0 1 := hFx54_.1 8 0 1 rfl
        have m156_ : Sx50_.1 8 0 2 = S0_.1 8 0 2 := hFx54_.1 8 0 2 rfl
        have z156_ : Sx50_.2.2.1 86 0 a1_.toNat = S0_.2.2.1 86 0 a1_.toNat := y156_.1 a1_.toNat (by omega)
        refine sm_T_rv rfl ⟨_, _, rfl, rfl, hIx51_, hFx54_, ?_⟩
        first | exact ⟨x84_.1, y84_⟩ | exact ⟨x156_.1, y156_⟩
  · have cx3_ : ¬ ((S0_.1 8 0 2) ≤ a1_) := of_decide_eq_false cx3_
    have bx55_ : 0 ≤ S0_.1 8 0 1 ∧ S0_.1 8 0 1 ≤ 62 := hI_.1 8 0 1 rfl
    refine sm_T_go 2 (c1 := (20, [some (.inr (.inr (some (8, 0)))), some (.inl a1_), some (.inl a2_), some (.inl a3_), some (.inl (S0_.2.2.1 86 0 a1_.toNat)), none], [.inl (S0_.1 8 0 1)], S0_)) rfl ?_
    refine sm_T_b0 (a := 5) (z := 12) rfl (fun cx56_ => ?_) (fun cx56_ => ?_)
    · have cx56_ : (S0_.1 8 0 1) ≤ 0 := of_decide_eq_true cx56_
      exfalso; omega
    · have cx56_ : ¬ ((S0_.1 8 0 1) ≤ 0) := of_decide_eq_false cx56_
      refine sm_T_go 3 (c1 := (28, [some (.inr (.inr (some (8, 0)))), some (.inl a1_), some (.inl a2_), some (.inl a3_), some (.inl (S0_.2.2.1 86 0 a1_.toNat)), none], [.inl (S0_.1 8 0 1), .inl a1_], S0_)) rfl ?_
      refine sm_T_bin (w := (a1_ % (S0_.1 8 0 1))) rfl (bi_rem (by omega) (by omega) (by omega) (by omega)) ?_ -- pc_ 28
      refine sm_T_go 3 (c1 := (37, [some (.inr (.inr (some (8, 0)))), some (.inl a1_), some (.inl a2_), some (.inl a3_), some (.inl (S0_.2.2.1 86 0 a1_.toNat)), some (.inl (a1_ % (S0_.1 8 0 1)))], [.inl (a1_ % (S0_.1 8 0 1))], S0_)) rfl ?_
      refine sm_T_b0 (a := 5) (z := 14) rfl (fun cx57_ => ?_) (fun cx57_ => ?_)
      · have cx57_ : (a1_ % (S0_.1 8 0 1)) ≤ 0 := of_decide_eq_true cx57_
        refine sm_T_go 4 (c1 := (58, [some (.inr (.inr (some (8, 0)))), some (.inl a1_), some (.inl a2_), some (.inl a3_), some (.inl (S0_.2.2.1 86 0 a1_.toNat)), some (.inl (a1_ % (S0_.1 8 0 1)))], [.inl 1, .inl (S0_.1 8 0 1), .inl (a1_ % (S0_.1 8 0 1))], S0_)) rfl ?_
        refine sm_T_bin (w := (S0_.1 8 0 1) - 1) rfl (bi_sub (by omega) (by omega) (by omega)) ?_ -- pc_ 58
        refine sm_T_br (a := 3) (z := 14) rfl (fun cx58_ => ?_) (fun cx58_ => ?_)
        · have cx58_ : (S0_.1 8 0 1) - 1 ≤ (a1_ % (S0_.1 8 0 1)) := of_decide_eq_true cx58_
          refine sm_T_go 4 (c1 := (79, [some (.inr (.inr (some (8, 0)))), some (.inl a1_), some (.inl a2_), some (.inl a3_), some (.inl (S0_.2.2.1 86 0 a1_.toNat)), some (.inl (a1_ % (S0_.1 8 0 1)))], [.inl (S0_.1 8 0 2), .inl a1_, .inr (.inr (some (8, 0)))], S0_)) rfl ?_
          refine sm_T_bin (w := a1_ + (S0_.1 8 0 2)) rfl (bi_add (by omega) (by omega) (by omega)) ?_ -- pc_ 79
          refine sm_T_go 3 (c1 := (84, [some (.inr (.inr (some (8, 0)))), some (.inl a1_), some (.inl a2_), some (.inl a3_), some (.inl (S0_.2.2.1 86 0 a1_.toNat)), some (.inl (a1_ % (S0_.1 8 0 1)))], [.inl a3_, .inl a2_, .inl (S0_.2.2.1 86 0 a1_.toNat), .inl (a1_ + (S0_.1 8 0 2)), .inr (.inr (some (8, 0)))], S0_)) rfl ?_
          refine sm_T_cal (d1 := 0) (Q1 := vq_163 (a1_ + (S0_.1 8 0 2)) (S0_.2.2.1 86 0 a1_.toNat) a2_ a3_ bb_ a1_ S0_) rfl rfl (by decide) (vc_163 (a1_ + (S0_.1 8 0 2)) (S0_.2.2.1 86 0 a1_.toNat) a2_ a3_ bb_ a1_ S0_ hI_ (by exact (hF_.2.1 8 0 0 rfl).trans hb_) (by exact rgw_fr hg_ hF_) (by first | exact x70_.1 | exact x48_.1 | exact hr_) (by omega) (by omega) (by omega) (by (first | rfl | omega)) (by omega) (by ((first | rw [l70_, m70_] | rw [l48_, m48_] | skip); exact ⟨4, by decide, by rw [nb_5 (by omega)]; omega⟩))) (fun u_ Sx59_ px62_ => ?_)
          obtain ⟨rfl, hIx60_, hFx61_, px62_⟩ := px62_
          have hFx63_ : ai_fr (sx_W vw_162) S0_ Sx59_ := ai_fr_tr hF_ (fr_le hFx61_ rfl)
          have ex64_ : Sx59_.1 8 0 2 = S0_.1 8 0 2 := hFx61_.1 8 0 2 rfl
          have ex65_ : Sx59_.1 8 0 1 = S0_.1 8 0 1 := hFx61_.1 8 0 1 rfl
          have x84_ := px62_
          have y84_ : rmo S0_ Sx59_ := by first | exact rmo_tr y70_ px62_.2 | exact rmo_tr y48_ px62_.2 | exact px62_.2
          have l84_ : Sx59_.1 8 0 1 = S0_.1 8 0 1 := hFx63_.1 8 0 1 rfl
          have m84_ : Sx59_.1 8 0 2 = S0_.1 8 0 2 := hFx63_.1 8 0 2 rfl
          have z84_ : Sx59_.2.2.1 86 0 a1_.toNat = S0_.2.2.1 86 0 a1_.toNat := y84_.1 a1_.toNat (by omega)
          refine sm_T_go 1 (c1 := (159, [some (.inr (.inr (some (8, 0)))), some (.inl a1_), some (.inl a2_), some (.inl a3_), some (.inl (S0_.2.2.1 86 0 a1_.toNat)), some (.inl (a1_ % (S0_.1 8 0 1)))], [], Sx59_)) rfl ?_
          refine sm_T_rv rfl ⟨_, _, rfl, rfl, hIx60_, hFx63_, ?_⟩
          first | exact ⟨x84_.1, y84_⟩ | exact ⟨x156_.1, y156_⟩
        · have cx58_ : ¬ ((S0_.1 8 0 1) - 1 ≤ (a1_ % (S0_.1 8 0 1))) := of_decide_eq_false cx58_
          have u9_ := (nb_b1 (p := a1_) (L := S0_.1 8 0 2) (w := S0_.1 8 0 1) (by omega) (by omega) hkk_ (by omega)).1
          refine sm_T_go 3 (c1 := (65, [some (.inr (.inr (some (8, 0)))), some (.inl a1_), some (.inl a2_), some (.inl a3_), some (.inl (S0_.2.2.1 86 0 a1_.toNat)), some (.inl (a1_ % (S0_.1 8 0 1)))], [.inl 1, .inl a1_, .inr (.inr (some (8, 0)))], S0_)) rfl ?_
          refine sm_T_bin (w := a1_ + 1) rfl (bi_add (by omega) (by omega) (by omega)) ?_ -- pc_ 65
          refine sm_T_go 3 (c1 := (70, [some (.inr (.inr (some (8, 0)))), some (.inl a1_), some (.inl a2_), some (.inl a3_), some (.inl (S0_.2.2.1 86 0 a1_.toNat)), some (.inl (a1_ % (S0_.1 8 0 1)))], [.inl a3_, .inl a2_, .inl (S0_.2.2.1 86 0 a1_.toNat), .inl (a1_ + 1), .inr (.inr (some (8, 0)))], S0_)) rfl ?_
          refine sm_T_cal (d1 := 0) (Q1 := vq_163 (a1_ + 1) (S0_.2.2.1 86 0 a1_.toNat) a2_ a3_ bb_ a1_ S0_) rfl rfl (by decide) (vc_163 (a1_ + 1) (S0_.2.2.1 86 0 a1_.toNat) a2_ a3_ bb_ a1_ S0_ hI_ (by exact (hF_.2.1 8 0 0 rfl).trans hb_) (by exact rgw_fr hg_ hF_) (by first | exact x48_.1 | exact hr_) (by omega) (by omega) (by omega) (by (first | rfl | omega)) (by omega) (by ((first | rw [l48_, m48_] | skip); exact ⟨0, by decide, (nb_b1 (by omega) (by omega) hkk_ (by omega)).2⟩))) (fun u_ Sx66_ px69_ => ?_)
          obtain ⟨rfl, hIx67_, hFx68_, px69_⟩ := px69_
          have hFx70_ : ai_fr (sx_W vw_162) S0_ Sx66_ := ai_fr_tr hF_ (fr_le hFx68_ rfl)
          have ex71_ : Sx66_.1 8 0 2 = S0_.1 8 0 2 := hFx68_.1 8 0 2 rfl
          have ex72_ : Sx66_.1 8 0 1 = S0_.1 8 0 1 := hFx68_.1 8 0 1 rfl
          have x70_ := px69_
          have y70_ : rmo S0_ Sx66_ := by first | exact rmo_tr y48_ px69_.2 | exact px69_.2
          have l70_ : Sx66_.1 8 0 1 = S0_.1 8 0 1 := hFx70_.1 8 0 1 rfl
          have m70_ : Sx66_.1 8 0 2 = S0_.1 8 0 2 := hFx70_.1 8 0 2 rfl
          have z70_ : Sx66_.2.2.1 86 0 a1_.toNat = S0_.2.2.1 86 0 a1_.toNat := y70_.1 a1_.toNat (by omega)
          have bx73_ : 0 ≤ Sx66_.1 8 0 2 ∧ Sx66_.1 8 0 2 ≤ 2356 := hIx67_.1 8 0 2 rfl
          refine sm_T_go 4 (c1 := (79, [some (.inr (.inr (some (8, 0)))), some (.inl a1_), some (.inl a2_), some (.inl a3_), some (.inl (S0_.2.2.1 86 0 a1_.toNat)), some (.inl (a1_ % (S0_.1 8 0 1)))], [.inl (Sx66_.1 8 0 2), .inl a1_, .inr (.inr (some (8, 0)))], Sx66_)) rfl ?_
          refine sm_T_bin (w := a1_ + (Sx66_.1 8 0 2)) rfl (bi_add (by omega) (by omega) (by omega)) ?_ -- pc_ 79
          refine sm_T_go 3 (c1 := (84, [some (.inr (.inr (some (8, 0)))), some (.inl a1_), some (.inl a2_), some (.inl a3_), some (.inl (S0_.2.2.1 86 0 a1_.toNat)), some (.inl (a1_ % (S0_.1 8 0 1)))], [.inl a3_, .inl a2_, .inl (S0_.2.2.1 86 0 a1_.toNat), .inl (a1_ + (Sx66_.1 8 0 2)), .inr (.inr (some (8, 0)))], Sx66_)) rfl ?_
          refine sm_T_cal (d1 := 0) (Q1 := vq_163 (a1_ + (Sx66_.1 8 0 2)) (S0_.2.2.1 86 0 a1_.toNat) a2_ a3_ bb_ a1_ Sx66_) rfl rfl (by decide) (vc_163 (a1_ + (Sx66_.1 8 0 2)) (S0_.2.2.1 86 0 a1_.toNat) a2_ a3_ bb_ a1_ Sx66_ hIx67_ (by exact (hFx70_.2.1 8 0 0 rfl).trans hb_) (by exact rgw_fr hg_ hFx70_) (by first | exact x70_.1 | exact x48_.1 | exact hr_) (by omega) (by omega) (by omega) (by (first | rfl | omega)) (by omega) (by ((first | rw [l70_, m70_] | rw [l48_, m48_] | skip); exact ⟨4, by decide, by rw [nb_5 (by omega)]; omega⟩))) (fun u_ Sx74_ px77_ => ?_)
          obtain ⟨rfl, hIx75_, hFx76_, px77_⟩ := px77_
          have hFx78_ : ai_fr (sx_W vw_162) S0_ Sx74_ := ai_fr_tr hFx70_ (fr_le hFx76_ rfl)
          have ex79_ : Sx74_.1 8 0 2 = Sx66_.1 8 0 2 := hFx76_.1 8 0 2 rfl
          have x84_ := px77_
          have y84_ : rmo S0_ Sx74_ := by first | exact rmo_tr y70_ px77_.2 | exact rmo_tr y48_ px77_.2 | exact px77_.2
          have l84_ : Sx74_.1 8 0 1 = S0_.1 8 0 1 := hFx78_.1 8 0 1 rfl
          have m84_ : Sx74_.1 8 0 2 = S0_.1 8 0 2 := hFx78_.1 8 0 2 rfl
          have z84_ : Sx74_.2.2.1 86 0 a1_.toNat = S0_.2.2.1 86 0 a1_.toNat := y84_.1 a1_.toNat (by omega)
          refine sm_T_go 1 (c1 := (159, [some (.inr (.inr (some (8, 0)))), some (.inl a1_), some (.inl a2_), some (.inl a3_), some (.inl (S0_.2.2.1 86 0 a1_.toNat)), some (.inl (a1_ % (S0_.1 8 0 1)))], [], Sx74_)) rfl ?_
          refine sm_T_rv rfl ⟨_, _, rfl, rfl, hIx75_, hFx78_, ?_⟩
          first | exact ⟨x84_.1, y84_⟩ | exact ⟨x156_.1, y156_⟩
      · have cx57_ : ¬ ((a1_ % (S0_.1 8 0 1)) ≤ 0) := of_decide_eq_false cx57_
        have u8_ := em_p (p := a1_) (w := S0_.1 8 0 1) h1_.1 (by omega)
        refine sm_T_go 3 (c1 := (43, [some (.inr (.inr (some (8, 0)))), some (.inl a1_), some (.inl a2_), some (.inl a3_), some (.inl (S0_.2.2.1 86 0 a1_.toNat)), some (.inl (a1_ % (S0_.1 8 0 1)))], [.inl 1, .inl a1_, .inr (.inr (some (8, 0)))], S0_)) rfl ?_
        refine sm_T_bin (w := a1_ - 1) rfl (bi_sub (by omega) (by omega) (by omega)) ?_ -- pc_ 43
        refine sm_T_go 3 (c1 := (48, [some (.inr (.inr (some (8, 0)))), some (.inl a1_), some (.inl a2_), some (.inl a3_), some (.inl (S0_.2.2.1 86 0 a1_.toNat)), some (.inl (a1_ % (S0_.1 8 0 1)))], [.inl a3_, .inl a2_, .inl (S0_.2.2.1 86 0 a1_.toNat), .inl (a1_ - 1), .inr (.inr (some (8, 0)))], S0_)) rfl ?_
        refine sm_T_cal (d1 := 0) (Q1 := vq_163 (a1_ - 1) (S0_.2.2.1 86 0 a1_.toNat) a2_ a3_ bb_ a1_ S0_) rfl rfl (by decide) (vc_163 (a1_ - 1) (S0_.2.2.1 86 0 a1_.toNat) a2_ a3_ bb_ a1_ S0_ hI_ (by exact (hF_.2.1 8 0 0 rfl).trans hb_) (by exact rgw_fr hg_ hF_) (by exact hr_) (by omega) (by omega) (by omega) (by (first | rfl | omega)) (by omega) (by (skip; exact ⟨1, by decide, nb_b0 (by omega) (by omega) (by omega)⟩))) (fun u_ Sx80_ px83_ => ?_)
        obtain ⟨rfl, hIx81_, hFx82_, px83_⟩ := px83_
        have hFx84_ : ai_fr (sx_W vw_162) S0_ Sx80_ := ai_fr_tr hF_ (fr_le hFx82_ rfl)
        have ex85_ : Sx80_.1 8 0 2 = S0_.1 8 0 2 := hFx82_.1 8 0 2 rfl
        have ex86_ : Sx80_.1 8 0 1 = S0_.1 8 0 1 := hFx82_.1 8 0 1 rfl
        have x48_ := px83_
        have y48_ : rmo S0_ Sx80_ := by first | exact px83_.2
        have l48_ : Sx80_.1 8 0 1 = S0_.1 8 0 1 := hFx84_.1 8 0 1 rfl
        have m48_ : Sx80_.1 8 0 2 = S0_.1 8 0 2 := hFx84_.1 8 0 2 rfl
        have z48_ : Sx80_.2.2.1 86 0 a1_.toNat = S0_.2.2.1 86 0 a1_.toNat := y48_.1 a1_.toNat (by omega)
        have bx87_ : 0 ≤ Sx80_.1 8 0 1 ∧ Sx80_.1 8 0 1 ≤ 62 := hIx81_.1 8 0 1 rfl
        refine sm_T_go 4 (c1 := (58, [some (.inr (.inr (some (8, 0)))), some (.inl a1_), some (.inl a2_), some (.inl a3_), some (.inl (S0_.2.2.1 86 0 a1_.toNat)), some (.inl (a1_ % (S0_.1 8 0 1)))], [.inl 1, .inl (Sx80_.1 8 0 1), .inl (a1_ % (S0_.1 8 0 1))], Sx80_)) rfl ?_
        refine sm_T_bin (w := (Sx80_.1 8 0 1) - 1) rfl (bi_sub (by omega) (by omega) (by omega)) ?_ -- pc_ 58
        refine sm_T_br (a := 3) (z := 14) rfl (fun cx88_ => ?_) (fun cx88_ => ?_)
        · have cx88_ : (Sx80_.1 8 0 1) - 1 ≤ (a1_ % (S0_.1 8 0 1)) := of_decide_eq_true cx88_
          have bx89_ : 0 ≤ Sx80_.1 8 0 2 ∧ Sx80_.1 8 0 2 ≤ 2356 := hIx81_.1 8 0 2 rfl
          refine sm_T_go 4 (c1 := (79, [some (.inr (.inr (some (8, 0)))), some (.inl a1_), some (.inl a2_), some (.inl a3_), some (.inl (S0_.2.2.1 86 0 a1_.toNat)), some (.inl (a1_ % (S0_.1 8 0 1)))], [.inl (Sx80_.1 8 0 2), .inl a1_, .inr (.inr (some (8, 0)))], Sx80_)) rfl ?_
          refine sm_T_bin (w := a1_ + (Sx80_.1 8 0 2)) rfl (bi_add (by omega) (by omega) (by omega)) ?_ -- pc_ 79
          refine sm_T_go 3 (c1 := (84, [some (.inr (.inr (some (8, 0)))), some (.inl a1_), some (.inl a2_), some (.inl a3_), some (.inl (S0_.2.2.1 86 0 a1_.toNat)), some (.inl (a1_ % (S0_.1 8 0 1)))], [.inl a3_, .inl a2_, .inl (S0_.2.2.1 86 0 a1_.toNat), .inl (a1_ + (Sx80_.1 8 0 2)), .inr (.inr (some (8, 0)))], Sx80_)) rfl ?_
          refine sm_T_cal (d1 := 0) (Q1 := vq_163 (a1_ + (Sx80_.1 8 0 2)) (S0_.2.2.1 86 0 a1_.toNat) a2_ a3_ bb_ a1_ Sx80_) rfl rfl (by decide) (vc_163 (a1_ + (Sx80_.1 8 0 2)) (S0_.2.2.1 86 0 a1_.toNat) a2_ a3_ bb_ a1_ Sx80_ hIx81_ (by exact (hFx84_.2.1 8 0 0 rfl).trans hb_) (by exact rgw_fr hg_ hFx84_) (by first | exact x70_.1 | exact x48_.1 | exact hr_) (by omega) (by omega) (by omega) (by (first | rfl | omega)) (by omega) (by ((first | rw [l70_, m70_] | rw [l48_, m48_] | skip); exact ⟨4, by decide, by rw [nb_5 (by omega)]; omega⟩))) (fun u_ Sx90_ px93_ => ?_)
          obtain ⟨rfl, hIx91_, hFx92_, px93_⟩ := px93_
          have hFx94_ : ai_fr (sx_W vw_162) S0_ Sx90_ := ai_fr_tr hFx84_ (fr_le hFx92_ rfl)
          have ex95_ : Sx90_.1 8 0 1 = Sx80_.1 8 0 1 := hFx92_.1 8 0 1 rfl
          have ex96_ : Sx90_.1 8 0 2 = Sx80_.1 8 0 2 := hFx92_.1 8 0 2 rfl
          have x84_ := px93_
          have y84_ : rmo S0_ Sx90_ := by first | exact rmo_tr y70_ px93_.2 | exact rmo_tr y48_ px93_.2 | exact px93_.2
          have l84_ : Sx90_.1 8 0 1 = S0_.1 8 0 1 := hFx94_.1 8 0 1 rfl
          have m84_ : Sx90_.1 8 0 2 = S0_.1 8 0 2 := hFx94_.1 8 0 2 rfl
          have z84_ : Sx90_.2.2.1 86 0 a1_.toNat = S0_.2.2.1 86 0 a1_.toNat := y84_.1 a1_.toNat (by omega)
          refine sm_T_go 1 (c1 := (159, [some (.inr (.inr (some (8, 0)))), some (.inl a1_), some (.inl a2_), some (.inl a3_), some (.inl (S0_.2.2.1 86 0 a1_.toNat)), some (.inl (a1_ % (S0_.1 8 0 1)))], [], Sx90_)) rfl ?_
          refine sm_T_rv rfl ⟨_, _, rfl, rfl, hIx91_, hFx94_, ?_⟩
          first | exact ⟨x84_.1, y84_⟩ | exact ⟨x156_.1, y156_⟩
        · have cx88_ : ¬ ((Sx80_.1 8 0 1) - 1 ≤ (a1_ % (S0_.1 8 0 1))) := of_decide_eq_false cx88_
          have u9_ := (nb_b1 (p := a1_) (L := S0_.1 8 0 2) (w := S0_.1 8 0 1) (by omega) (by omega) hkk_ (by omega)).1
          refine sm_T_go 3 (c1 := (65, [some (.inr (.inr (some (8, 0)))), some (.inl a1_), some (.inl a2_), some (.inl a3_), some (.inl (S0_.2.2.1 86 0 a1_.toNat)), some (.inl (a1_ % (S0_.1 8 0 1)))], [.inl 1, .inl a1_, .inr (.inr (some (8, 0)))], Sx80_)) rfl ?_
          refine sm_T_bin (w := a1_ + 1) rfl (bi_add (by omega) (by omega) (by omega)) ?_ -- pc_ 65
          refine sm_T_go 3 (c1 := (70, [some (.inr (.inr (some (8, 0)))), some (.inl a1_), some (.inl a2_), some (.inl a3_), some (.inl (S0_.2.2.1 86 0 a1_.toNat)), some (.inl (a1_ % (S0_.1 8 0 1)))], [.inl a3_, .inl a2_, .inl (S0_.2.2.1 86 0 a1_.toNat), .inl (a1_ + 1), .inr (.inr (some (8, 0)))], Sx80_)) rfl ?_
          refine sm_T_cal (d1 := 0) (Q1 := vq_163 (a1_ + 1) (S0_.2.2.1 86 0 a1_.toNat) a2_ a3_ bb_ a1_ Sx80_) rfl rfl (by decide) (vc_163 (a1_ + 1) (S0_.2.2.1 86 0 a1_.toNat) a2_ a3_ bb_ a1_ Sx80_ hIx81_ (by exact (hFx84_.2.1 8 0 0 rfl).trans hb_) (by exact rgw_fr hg_ hFx84_) (by first | exact x48_.1 | exact hr_) (by omega) (by omega) (by omega) (by (first | rfl | omega)) (by omega) (by ((first | rw [l48_, m48_] | skip); exact ⟨0, by decide, (nb_b1 (by omega) (by omega) hkk_ (by omega)).2⟩))) (fun u_ Sx97_ px100_ => ?_)
          obtain ⟨rfl, hIx98_, hFx99_, px100_⟩ := px100_
          have hFx101_ : ai_fr (sx_W vw_162) S0_ Sx97_ := ai_fr_tr hFx84_ (fr_le hFx99_ rfl)
          have ex102_ : Sx97_.1 8 0 1 = Sx80_.1 8 0 1 := hFx99_.1 8 0 1 rfl
          have x70_ := px100_
          have y70_ : rmo S0_ Sx97_ := by first | exact rmo_tr y48_ px100_.2 | exact px100_.2
          have l70_ : Sx97_.1 8 0 1 = S0_.1 8 0 1 := hFx101_.1 8 0 1 rfl
          have m70_ : Sx97_.1 8 0 2 = S0_.1 8 0 2 := hFx101_.1 8 0 2 rfl
          have z70_ : Sx97_.2.2.1 86 0 a1_.toNat = S0_.2.2.1 86 0 a1_.toNat := y70_.1 a1_.toNat (by omega)
          have bx103_ : 0 ≤ Sx97_.1 8 0 2 ∧ Sx97_.1 8 0 2 ≤ 2356 := hIx98_.1 8 0 2 rfl
          refine sm_T_go 4 (c1 := (79, [some (.inr (.inr (some (8, 0)))), some (.inl a1_), some (.inl a2_), some (.inl a3_), some (.inl (S0_.2.2.1 86 0 a1_.toNat)), some (.inl (a1_ % (S0_.1 8 0 1)))], [.inl (Sx97_.1 8 0 2), .inl a1_, .inr (.inr (some (8, 0)))], Sx97_)) rfl ?_
          refine sm_T_bin (w := a1_ + (Sx97_.1 8 0 2)) rfl (bi_add (by omega) (by omega) (by omega)) ?_ -- pc_ 79
          refine sm_T_go 3 (c1 := (84, [some (.inr (.inr (some (8, 0)))), some (.inl a1_), some (.inl a2_), some (.inl a3_), some (.inl (S0_.2.2.1 86 0 a1_.toNat)), some (.inl (a1_ % (S0_.1 8 0 1)))], [.inl a3_, .inl a2_, .inl (S0_.2.2.1 86 0 a1_.toNat), .inl (a1_ + (Sx97_.1 8 0 2)), .inr (.inr (some (8, 0)))], Sx97_)) rfl ?_
          refine sm_T_cal (d1 := 0) (Q1 := vq_163 (a1_ + (Sx97_.1 8 0 2)) (S0_.2.2.1 86 0 a1_.toNat) a2_ a3_ bb_ a1_ Sx97_) rfl rfl (by decide) (vc_163 (a1_ + (Sx97_.1 8 0 2)) (S0_.2.2.1 86 0 a1_.toNat) a2_ a3_ bb_ a1_ Sx97_ hIx98_ (by exact (hFx101_.2.1 8 0 0 rfl).trans hb_) (by exact rgw_fr hg_ hFx101_) (by first | exact x70_.1 | exact x48_.1 | exact hr_) (by omega) (by omega) (by omega) (by (first | rfl | omega)) (by omega) (by ((first | rw [l70_, m70_] | rw [l48_, m48_] | skip); exact ⟨4, by decide, by rw [nb_5 (by omega)]; omega⟩))) (fun u_ Sx104_ px107_ => ?_)
          obtain ⟨rfl, hIx105_, hFx106_, px107_⟩ := px107_
          have hFx108_ : ai_fr (sx_W vw_162) S0_ Sx104_ := ai_fr_tr hFx101_ (fr_le hFx106_ rfl)
          have ex109_ : Sx104_.1 8 0 2 = Sx97_.1 8 0 2 := hFx106_.1 8 0 2 rfl
          have x84_ := px107_
          have y84_ : rmo S0_ Sx104_ := by first | exact rmo_tr y70_ px107_.2 | exact rmo_tr y48_ px107_.2 | exact px107_.2
          have l84_ : Sx104_.1 8 0 1 = S0_.1 8 0 1 := hFx108_.1 8 0 1 rfl
          have m84_ : Sx104_.1 8 0 2 = S0_.1 8 0 2 := hFx108_.1 8 0 2 rfl
          have z84_ : Sx104_.2.2.1 86 0 a1_.toNat = S0_.2.2.1 86 0 a1_.toNat := y84_.1 a1_.toNat (by omega)
          refine sm_T_go 1 (c1 := (159, [some (.inr (.inr (some (8, 0)))), some (.inl a1_), some (.inl a2_), some (.inl a3_), some (.inl (S0_.2.2.1 86 0 a1_.toNat)), some (.inl (a1_ % (S0_.1 8 0 1)))], [], Sx104_)) rfl ?_
          refine sm_T_rv rfl ⟨_, _, rfl, rfl, hIx105_, hFx108_, ?_⟩
          first | exact ⟨x84_.1, y84_⟩ | exact ⟨x156_.1, y156_⟩
