/-! boxes judged; written by wip/p55/gen/vg -/
/-! Layout.isThin -/
def vw_76 : sx_Wl := ([], [], [])
def vq_76 (a1_ : Int) (ii_ : Nat) (S0_ : sm_S) (u_ : Option sm_V) (S1_ : sm_S) : Prop := S0_ = S1_ ∧ ∃ v_ : Int, u_ = some (.inl v_) ∧ ((0 ≤ v_ ∧ v_ ≤ 1))
set_option maxHeartbeats 400000 in
theorem vc_76 {sc_ : Nat × (Nat → Int)} (a1_ : Int) (ii_ : Nat) (S0_ : sm_S) (hI_ : gi S0_) (ha1_ : 0 ≤ a1_ ∧ a1_ ≤ 1999) : sm_T (mt_P sc_) 0 76 (0, [some (.inr (.inr (some (4, ii_)))), some (.inl a1_), none], [], S0_) (fun ro9_ => ∃ u_ S1_, ro9_ = (.inl u_, S1_, 0) ∧ vq_76 a1_ ii_ S0_ u_ S1_) := by
  have hF_ : ai_fr (sx_W vw_76) S0_ S0_ := ai_fr_rf
  refine sm_T_go 2 (c1 := (2, [some (.inr (.inr (some (4, ii_)))), some (.inl a1_), none], [.inl a1_, .inl 5], S0_)) rfl ?_
  refine sm_T_bin (w := 5 * a1_) rfl (bi_mul (by omega) (by omega) (by omega)) ?_ -- pc_ 2
  refine sm_T_go 5 (c1 := (10, [some (.inr (.inr (some (4, ii_)))), some (.inl a1_), some (.inl (5 * a1_))], [.inl 3, .inl (5 * a1_), .inr (.inr (some (48, (0 + ii_))))], S0_)) rfl ?_
  refine sm_T_bin (w := 5 * a1_ + 3) rfl (bi_add (by omega) (by omega) (by omega)) ?_ -- pc_ 10
  refine sm_T_iald (n := 10000) rfl rfl (by omega) (by omega) ?_
  have bx1_ : (-1000) ≤ S0_.2.2.1 48 (0 + ii_) (5 * a1_ + 3).toNat ∧ S0_.2.2.1 48 (0 + ii_) (5 * a1_ + 3).toNat ≤ 1000 := hI_.2 48 (0 + ii_) _
  refine sm_T_go 4 (c1 := (18, [some (.inr (.inr (some (4, ii_)))), some (.inl a1_), some (.inl (5 * a1_))], [.inl 1, .inl (5 * a1_), .inr (.inr (some (48, (0 + ii_)))), .inl (S0_.2.2.1 48 (0 + ii_) (5 * a1_ + 3).toNat)], S0_)) rfl ?_
  refine sm_T_bin (w := 5 * a1_ + 1) rfl (bi_add (by omega) (by omega) (by omega)) ?_ -- pc_ 18
  refine sm_T_iald (n := 10000) rfl rfl (by omega) (by omega) ?_
  have bx2_ : (-1000) ≤ S0_.2.2.1 48 (0 + ii_) (5 * a1_ + 1).toNat ∧ S0_.2.2.1 48 (0 + ii_) (5 * a1_ + 1).toNat ≤ 1000 := hI_.2 48 (0 + ii_) _
  refine sm_T_bin (w := (S0_.2.2.1 48 (0 + ii_) (5 * a1_ + 3).toNat) - (S0_.2.2.1 48 (0 + ii_) (5 * a1_ + 1).toNat)) rfl (bi_sub (by omega) (by omega) (by omega)) ?_ -- pc_ 20
  refine sm_T_go 1 (c1 := (22, [some (.inr (.inr (some (4, ii_)))), some (.inl a1_), some (.inl (5 * a1_))], [.inl 2, .inl ((S0_.2.2.1 48 (0 + ii_) (5 * a1_ + 3).toNat) - (S0_.2.2.1 48 (0 + ii_) (5 * a1_ + 1).toNat))], S0_)) rfl ?_
  refine sm_T_br (a := 2) (z := 24) rfl (fun cx3_ => ?_) (fun cx3_ => ?_)
  · have cx3_ : (S0_.2.2.1 48 (0 + ii_) (5 * a1_ + 3).toNat) - (S0_.2.2.1 48 (0 + ii_) (5 * a1_ + 1).toNat) < 2 := of_decide_eq_true cx3_
    refine sm_T_go 2 (c1 := (51, [some (.inr (.inr (some (4, ii_)))), some (.inl a1_), some (.inl (5 * a1_))], [.inl 1], S0_)) rfl ?_
    refine sm_T_rz rfl (by omega) ⟨_, _, rfl, rfl, _, rfl, ?_⟩
    refine ⟨by omega, by omega⟩
  · have cx3_ : ¬ ((S0_.2.2.1 48 (0 + ii_) (5 * a1_ + 3).toNat) - (S0_.2.2.1 48 (0 + ii_) (5 * a1_ + 1).toNat) < 2) := of_decide_eq_false cx3_
    refine sm_T_go 4 (c1 := (31, [some (.inr (.inr (some (4, ii_)))), some (.inl a1_), some (.inl (5 * a1_))], [.inl 4, .inl (5 * a1_), .inr (.inr (some (48, (0 + ii_))))], S0_)) rfl ?_
    refine sm_T_bin (w := 5 * a1_ + 4) rfl (bi_add (by omega) (by omega) (by omega)) ?_ -- pc_ 31
    refine sm_T_iald (n := 10000) rfl rfl (by omega) (by omega) ?_
    have bx4_ : (-1000) ≤ S0_.2.2.1 48 (0 + ii_) (5 * a1_ + 4).toNat ∧ S0_.2.2.1 48 (0 + ii_) (5 * a1_ + 4).toNat ≤ 1000 := hI_.2 48 (0 + ii_) _
    refine sm_T_go 4 (c1 := (39, [some (.inr (.inr (some (4, ii_)))), some (.inl a1_), some (.inl (5 * a1_))], [.inl 2, .inl (5 * a1_), .inr (.inr (some (48, (0 + ii_)))), .inl (S0_.2.2.1 48 (0 + ii_) (5 * a1_ + 4).toNat)], S0_)) rfl ?_
    refine sm_T_bin (w := 5 * a1_ + 2) rfl (bi_add (by omega) (by omega) (by omega)) ?_ -- pc_ 39
    refine sm_T_iald (n := 10000) rfl rfl (by omega) (by omega) ?_
    have bx5_ : (-1000) ≤ S0_.2.2.1 48 (0 + ii_) (5 * a1_ + 2).toNat ∧ S0_.2.2.1 48 (0 + ii_) (5 * a1_ + 2).toNat ≤ 1000 := hI_.2 48 (0 + ii_) _
    refine sm_T_bin (w := (S0_.2.2.1 48 (0 + ii_) (5 * a1_ + 4).toNat) - (S0_.2.2.1 48 (0 + ii_) (5 * a1_ + 2).toNat)) rfl (bi_sub (by omega) (by omega) (by omega)) ?_ -- pc_ 41
    refine sm_T_go 1 (c1 := (43, [some (.inr (.inr (some (4, ii_)))), some (.inl a1_), some (.inl (5 * a1_))], [.inl 2, .inl ((S0_.2.2.1 48 (0 + ii_) (5 * a1_ + 4).toNat) - (S0_.2.2.1 48 (0 + ii_) (5 * a1_ + 2).toNat))], S0_)) rfl ?_
    refine sm_T_br (a := 3) (z := 7) rfl (fun cx6_ => ?_) (fun cx6_ => ?_)
    · have cx6_ : 2 ≤ (S0_.2.2.1 48 (0 + ii_) (5 * a1_ + 4).toNat) - (S0_.2.2.1 48 (0 + ii_) (5 * a1_ + 2).toNat) := of_decide_eq_true cx6_
      refine sm_T_go 1 (c1 := (51, [some (.inr (.inr (some (4, ii_)))), some (.inl a1_), some (.inl (5 * a1_))], [.inl 0], S0_)) rfl ?_
      refine sm_T_rz rfl (by omega) ⟨_, _, rfl, rfl, _, rfl, ?_⟩
      refine ⟨by omega, by omega⟩
    · have cx6_ : ¬ (2 ≤ (S0_.2.2.1 48 (0 + ii_) (5 * a1_ + 4).toNat) - (S0_.2.2.1 48 (0 + ii_) (5 * a1_ + 2).toNat)) := of_decide_eq_false cx6_
      refine sm_T_go 2 (c1 := (51, [some (.inr (.inr (some (4, ii_)))), some (.inl a1_), some (.inl (5 * a1_))], [.inl 1], S0_)) rfl ?_
      refine sm_T_rz rfl (by omega) ⟨_, _, rfl, rfl, _, rfl, ?_⟩
      refine ⟨by omega, by omega⟩
