/-! Layout.isTouching -/
def vw_78 : sx_Wl := ([], [], [])
def vq_78 (a1_ : Int) (a2_ : Int) (ii_ : Nat) (S0_ : sm_S) (u_ : Option sm_V) (S1_ : sm_S) : Prop := S0_ = S1_ ∧ ∃ v_ : Int, u_ = some (.inl v_) ∧ ((0 ≤ v_ ∧ v_ ≤ 1))
set_option maxHeartbeats 400000 in
theorem vc_78 {sc_ : Nat × (Nat → Int)} (a1_ : Int) (a2_ : Int) (ii_ : Nat) (S0_ : sm_S) (hI_ : gi S0_) (ha1_ : 0 ≤ a1_ ∧ a1_ ≤ 1999) (ha2_ : 0 ≤ a2_ ∧ a2_ ≤ 1999) : sm_T (mt_P sc_) 0 78 (0, [some (.inr (.inr (some (4, ii_)))), some (.inl a1_), some (.inl a2_), none, none], [], S0_) (fun ro9_ => ∃ u_ S1_, ro9_ = (.inl u_, S1_, 0) ∧ vq_78 a1_ a2_ ii_ S0_ u_ S1_) := by
  have hF_ : ai_fr (sx_W vw_78) S0_ S0_ := ai_fr_rf
  refine sm_T_go 2 (c1 := (2, [some (.inr (.inr (some (4, ii_)))), some (.inl a1_), some (.inl a2_), none, none], [.inl a1_, .inl 5], S0_)) rfl ?_
  refine sm_T_bin (w := 5 * a1_) rfl (bi_mul (by omega) (by omega) (by omega)) ?_ -- pc_ 2
  refine sm_T_go 3 (c1 := (6, [some (.inr (.inr (some (4, ii_)))), some (.inl a1_), some (.inl a2_), some (.inl (5 * a1_)), none], [.inl a2_, .inl 5], S0_)) rfl ?_
  refine sm_T_bin (w := 5 * a2_) rfl (bi_mul (by omega) (by omega) (by omega)) ?_ -- pc_ 6
  refine sm_T_go 5 (c1 := (15, [some (.inr (.inr (some (4, ii_)))), some (.inl a1_), some (.inl a2_), some (.inl (5 * a1_)), some (.inl (5 * a2_))], [.inl 1, .inl (5 * a1_), .inr (.inr (some (48, (0 + ii_))))], S0_)) rfl ?_
  refine sm_T_bin (w := 5 * a1_ + 1) rfl (bi_add (by omega) (by omega) (by omega)) ?_ -- pc_ 15
  refine sm_T_iald (n := 10000) rfl rfl (by omega) (by omega) ?_
  have bx1_ : (-1000) ≤ S0_.2.2.1 48 (0 + ii_) (5 * a1_ + 1).toNat ∧ S0_.2.2.1 48 (0 + ii_) (5 * a1_ + 1).toNat ≤ 1000 := hI_.2 48 (0 + ii_) _
  refine sm_T_go 4 (c1 := (24, [some (.inr (.inr (some (4, ii_)))), some (.inl a1_), some (.inl a2_), some (.inl (5 * a1_)), some (.inl (5 * a2_))], [.inl 3, .inl (5 * a2_), .inr (.inr (some (48, (0 + ii_)))), .inl (S0_.2.2.1 48 (0 + ii_) (5 * a1_ + 1).toNat)], S0_)) rfl ?_
  refine sm_T_bin (w := 5 * a2_ + 3) rfl (bi_add (by omega) (by omega) (by omega)) ?_ -- pc_ 24
  refine sm_T_iald (n := 10000) rfl rfl (by omega) (by omega) ?_
  have bx2_ : (-1000) ≤ S0_.2.2.1 48 (0 + ii_) (5 * a2_ + 3).toNat ∧ S0_.2.2.1 48 (0 + ii_) (5 * a2_ + 3).toNat ≤ 1000 := hI_.2 48 (0 + ii_) _
  refine sm_T_br (a := 4) (z := 67) rfl (fun cx3_ => ?_) (fun cx3_ => ?_)
  · have cx3_ : (S0_.2.2.1 48 (0 + ii_) (5 * a2_ + 3).toNat) < (S0_.2.2.1 48 (0 + ii_) (5 * a1_ + 1).toNat) := of_decide_eq_true cx3_
    refine sm_T_go 1 (c1 := (94, [some (.inr (.inr (some (4, ii_)))), some (.inl a1_), some (.inl a2_), some (.inl (5 * a1_)), some (.inl (5 * a2_))], [.inl 0], S0_)) rfl ?_
    refine sm_T_rz rfl (by omega) ⟨_, _, rfl, rfl, _, rfl, ?_⟩
    refine ⟨by omega, by omega⟩
  · have cx3_ : ¬ ((S0_.2.2.1 48 (0 + ii_) (5 * a2_ + 3).toNat) < (S0_.2.2.1 48 (0 + ii_) (5 * a1_ + 1).toNat)) := of_decide_eq_false cx3_
    refine sm_T_go 4 (c1 := (36, [some (.inr (.inr (some (4, ii_)))), some (.inl a1_), some (.inl a2_), some (.inl (5 * a1_)), some (.inl (5 * a2_))], [.inl 1, .inl (5 * a2_), .inr (.inr (some (48, (0 + ii_))))], S0_)) rfl ?_
    refine sm_T_bin (w := 5 * a2_ + 1) rfl (bi_add (by omega) (by omega) (by omega)) ?_ -- pc_ 36
    refine sm_T_iald (n := 10000) rfl rfl (by omega) (by omega) ?_
    have bx4_ : (-1000) ≤ S0_.2.2.1 48 (0 + ii_) (5 * a2_ + 1).toNat ∧ S0_.2.2.1 48 (0 + ii_) (5 * a2_ + 1).toNat ≤ 1000 := hI_.2 48 (0 + ii_) _
    refine sm_T_go 4 (c1 := (44, [some (.inr (.inr (some (4, ii_)))), some (.inl a1_), some (.inl a2_), some (.inl (5 * a1_)), some (.inl (5 * a2_))], [.inl 3, .inl (5 * a1_), .inr (.inr (some (48, (0 + ii_)))), .inl (S0_.2.2.1 48 (0 + ii_) (5 * a2_ + 1).toNat)], S0_)) rfl ?_
    refine sm_T_bin (w := 5 * a1_ + 3) rfl (bi_add (by omega) (by omega) (by omega)) ?_ -- pc_ 44
    refine sm_T_iald (n := 10000) rfl rfl (by omega) (by omega) ?_
    have bx5_ : (-1000) ≤ S0_.2.2.1 48 (0 + ii_) (5 * a1_ + 3).toNat ∧ S0_.2.2.1 48 (0 + ii_) (5 * a1_ + 3).toNat ≤ 1000 := hI_.2 48 (0 + ii_) _
    refine sm_T_br (a := 4) (z := 47) rfl (fun cx6_ => ?_) (fun cx6_ => ?_)
    · have cx6_ : (S0_.2.2.1 48 (0 + ii_) (5 * a1_ + 3).toNat) < (S0_.2.2.1 48 (0 + ii_) (5 * a2_ + 1).toNat) := of_decide_eq_true cx6_
      refine sm_T_go 1 (c1 := (94, [some (.inr (.inr (some (4, ii_)))), some (.inl a1_), some (.inl a2_), some (.inl (5 * a1_)), some (.inl (5 * a2_))], [.inl 0], S0_)) rfl ?_
      refine sm_T_rz rfl (by omega) ⟨_, _, rfl, rfl, _, rfl, ?_⟩
      refine ⟨by omega, by omega⟩
    · have cx6_ : ¬ ((S0_.2.2.1 48 (0 + ii_) (5 * a1_ + 3).toNat) < (S0_.2.2.1 48 (0 + ii_) (5 * a2_ + 1).toNat)) := of_decide_eq_false cx6_
      refine sm_T_go 4 (c1 := (55, [some (.inr (.inr (some (4, ii_)))), some (.inl a1_), some (.inl a2_), some (.inl (5 * a1_)), some (.inl (5 * a2_))], [.inl 2, .inl (5 * a1_), .inr (.inr (some (48, (0 + ii_))))], S0_)) rfl ?_
      refine sm_T_bin (w := 5 * a1_ + 2) rfl (bi_add (by omega) (by omega) (by omega)) ?_ -- pc_ 55
      refine sm_T_iald (n := 10000) rfl rfl (by omega) (by omega) ?_
      have bx7_ : (-1000) ≤ S0_.2.2.1 48 (0 + ii_) (5 * a1_ + 2).toNat ∧ S0_.2.2.1 48 (0 + ii_) (5 * a1_ + 2).toNat ≤ 1000 := hI_.2 48 (0 + ii_) _
      refine sm_T_go 4 (c1 := (64, [some (.inr (.inr (some (4, ii_)))), some (.inl a1_), some (.inl a2_), some (.inl (5 * a1_)), some (.inl (5 * a2_))], [.inl 4, .inl (5 * a2_), .inr (.inr (some (48, (0 + ii_)))), .inl (S0_.2.2.1 48 (0 + ii_) (5 * a1_ + 2).toNat)], S0_)) rfl ?_
      refine sm_T_bin (w := 5 * a2_ + 4) rfl (bi_add (by omega) (by omega) (by omega)) ?_ -- pc_ 64
      refine sm_T_iald (n := 10000) rfl rfl (by omega) (by omega) ?_
      have bx8_ : (-1000) ≤ S0_.2.2.1 48 (0 + ii_) (5 * a2_ + 4).toNat ∧ S0_.2.2.1 48 (0 + ii_) (5 * a2_ + 4).toNat ≤ 1000 := hI_.2 48 (0 + ii_) _
      refine sm_T_br (a := 4) (z := 27) rfl (fun cx9_ => ?_) (fun cx9_ => ?_)
      · have cx9_ : (S0_.2.2.1 48 (0 + ii_) (5 * a2_ + 4).toNat) < (S0_.2.2.1 48 (0 + ii_) (5 * a1_ + 2).toNat) := of_decide_eq_true cx9_
        refine sm_T_go 1 (c1 := (94, [some (.inr (.inr (some (4, ii_)))), some (.inl a1_), some (.inl a2_), some (.inl (5 * a1_)), some (.inl (5 * a2_))], [.inl 0], S0_)) rfl ?_
        refine sm_T_rz rfl (by omega) ⟨_, _, rfl, rfl, _, rfl, ?_⟩
        refine ⟨by omega, by omega⟩
      · have cx9_ : ¬ ((S0_.2.2.1 48 (0 + ii_) (5 * a2_ + 4).toNat) < (S0_.2.2.1 48 (0 + ii_) (5 * a1_ + 2).toNat)) := of_decide_eq_false cx9_
        refine sm_T_go 4 (c1 := (76, [some (.inr (.inr (some (4, ii_)))), some (.inl a1_), some (.inl a2_), some (.inl (5 * a1_)), some (.inl (5 * a2_))], [.inl 2, .inl (5 * a2_), .inr (.inr (some (48, (0 + ii_))))], S0_)) rfl ?_
        refine sm_T_bin (w := 5 * a2_ + 2) rfl (bi_add (by omega) (by omega) (by omega)) ?_ -- pc_ 76
        refine sm_T_iald (n := 10000) rfl rfl (by omega) (by omega) ?_
        have bx10_ : (-1000) ≤ S0_.2.2.1 48 (0 + ii_) (5 * a2_ + 2).toNat ∧ S0_.2.2.1 48 (0 + ii_) (5 * a2_ + 2).toNat ≤ 1000 := hI_.2 48 (0 + ii_) _
        refine sm_T_go 4 (c1 := (84, [some (.inr (.inr (some (4, ii_)))), some (.inl a1_), some (.inl a2_), some (.inl (5 * a1_)), some (.inl (5 * a2_))], [.inl 4, .inl (5 * a1_), .inr (.inr (some (48, (0 + ii_)))), .inl (S0_.2.2.1 48 (0 + ii_) (5 * a2_ + 2).toNat)], S0_)) rfl ?_
        refine sm_T_bin (w := 5 * a1_ + 4) rfl (bi_add (by omega) (by omega) (by omega)) ?_ -- pc_ 84
        refine sm_T_iald (n := 10000) rfl rfl (by omega) (by omega) ?_
        have bx11_ : (-1000) ≤ S0_.2.2.1 48 (0 + ii_) (5 * a1_ + 4).toNat ∧ S0_.2.2.1 48 (0 + ii_) (5 * a1_ + 4).toNat ≤ 1000 := hI_.2 48 (0 + ii_) _
        refine sm_T_br (a := 4) (z := 7) rfl (fun cx12_ => ?_) (fun cx12_ => ?_)
        · have cx12_ : (S0_.2.2.1 48 (0 + ii_) (5 * a1_ + 4).toNat) < (S0_.2.2.1 48 (0 + ii_) (5 * a2_ + 2).toNat) := of_decide_eq_true cx12_
          refine sm_T_go 1 (c1 := (94, [some (.inr (.inr (some (4, ii_)))), some (.inl a1_), some (.inl a2_), some (.inl (5 * a1_)), some (.inl (5 * a2_))], [.inl 0], S0_)) rfl ?_
          refine sm_T_rz rfl (by omega) ⟨_, _, rfl, rfl, _, rfl, ?_⟩
          refine ⟨by omega, by omega⟩
        · have cx12_ : ¬ ((S0_.2.2.1 48 (0 + ii_) (5 * a1_ + 4).toNat) < (S0_.2.2.1 48 (0 + ii_) (5 * a2_ + 2).toNat)) := of_decide_eq_false cx12_
          refine sm_T_go 2 (c1 := (94, [some (.inr (.inr (some (4, ii_)))), some (.inl a1_), some (.inl a2_), some (.inl (5 * a1_)), some (.inl (5 * a2_))], [.inl 1], S0_)) rfl ?_
          refine sm_T_rz rfl (by omega) ⟨_, _, rfl, rfl, _, rfl, ?_⟩
          refine ⟨by omega, by omega⟩
