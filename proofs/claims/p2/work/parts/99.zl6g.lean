/-! Tester.inputWord -/
def vw_172 : sx_Wl := ([], [], [])
def vq_172 (a1_ : Int) (a2_ : Int) (a3_ : Int) (cc_ : Nat) (S0_ : sm_S) (u_ : Option sm_V) (S1_ : sm_S) : Prop := S0_ = S1_ ∧ ∃ v_ : Int, u_ = some (.inr (.inl v_)) ∧ (True)
set_option maxHeartbeats 400000 in
theorem vc_172 {sc_ : Nat × (Nat → Int)} (a1_ : Int) (a2_ : Int) (a3_ : Int) (cc_ : Nat) (S0_ : sm_S) (hI_ : gi S0_) (hb_ : S0_.2.1 9 0 0 = some cc_) (h1_ : 0 ≤ a1_ ∧ a1_ ≤ 149) (h2_ : 0 ≤ a2_ ∧ a2_ ≤ 2) (h3_ : 0 ≤ a3_ ∧ a3_ ≤ 63) : sm_T (mt_P sc_) 0 172 (0, [some (.inr (.inr (some (9, 0)))), some (.inl a1_), some (.inl a2_), some (.inl a3_), none], [], S0_) (fun ro9_ => ∃ u_ S1_, ro9_ = (.inl u_, S1_, 0) ∧ vq_172 a1_ a2_ a3_ cc_ S0_ u_ S1_) := by
  have hF_ : ai_fr (sx_W vw_172) S0_ S0_ := ai_fr_rf
  refine sm_T_go 1 (c1 := (1, [some (.inr (.inr (some (9, 0)))), some (.inl a1_), some (.inl a2_), some (.inl a3_), none], [.inr (.inr (some (9, 0)))], S0_)) rfl ?_
  refine sm_T_gr rfl rfl ((hF_.2.1 9 0 0 rfl).trans hb_) ?_
  refine sm_T_go 3 (c1 := (9, [some (.inr (.inr (some (9, 0)))), some (.inl a1_), some (.inl a2_), some (.inl a3_), none], [.inl a1_, .inl 3, .inr (.inr (some (36, (0 + cc_))))], S0_)) rfl ?_
  refine sm_T_bin (w := 3 * a1_) rfl (bi_mul (by omega) (by omega) (by omega)) ?_ -- pc_ 9
  refine sm_T_go 1 (c1 := (11, [some (.inr (.inr (some (9, 0)))), some (.inl a1_), some (.inl a2_), some (.inl a3_), none], [.inl a2_, .inl (3 * a1_), .inr (.inr (some (36, (0 + cc_))))], S0_)) rfl ?_
  refine sm_T_bin (w := 3 * a1_ + a2_) rfl (bi_add (by omega) (by omega) (by omega)) ?_ -- pc_ 11
  refine sm_T_iald (n := 450) rfl rfl (by omega) (by omega) ?_
  have bx1_ : 0 ≤ S0_.2.2.1 36 (0 + cc_) (3 * a1_ + a2_).toNat ∧ S0_.2.2.1 36 (0 + cc_) (3 * a1_ + a2_).toNat ≤ 161 := hI_.2 36 (0 + cc_) _
  refine sm_T_go 4 (c1 := (21, [some (.inr (.inr (some (9, 0)))), some (.inl a1_), some (.inl a2_), some (.inl a3_), some (.inl (S0_.2.2.1 36 (0 + cc_) (3 * a1_ + a2_).toNat))], [.inl (S0_.2.2.1 36 (0 + cc_) (3 * a1_ + a2_).toNat), .inr (.inr (some (94, 0)))], S0_)) rfl ?_
  refine sm_T_iald (n := 162) rfl rfl (by omega) (by omega) ?_
  have bx2_ : 0 ≤ S0_.2.2.1 94 0 (S0_.2.2.1 36 (0 + cc_) (3 * a1_ + a2_).toNat).toNat ∧ S0_.2.2.1 94 0 (S0_.2.2.1 36 (0 + cc_) (3 * a1_ + a2_).toNat).toNat ≤ 1 := hI_.2 94 0 _
  refine sm_T_b0 (a := 0) (z := 18) rfl (fun cx3_ => ?_) (fun cx3_ => ?_)
  · have cx3_ : (S0_.2.2.1 94 0 (S0_.2.2.1 36 (0 + cc_) (3 * a1_ + a2_).toNat).toNat) = 0 := of_decide_eq_true cx3_
    refine sm_T_go 4 (c1 := (48, [some (.inr (.inr (some (9, 0)))), some (.inl a1_), some (.inl a2_), some (.inl a3_), some (.inl (S0_.2.2.1 36 (0 + cc_) (3 * a1_ + a2_).toNat))], [.inl 64, .inl (S0_.2.2.1 36 (0 + cc_) (3 * a1_ + a2_).toNat), .inr (.inr (some (92, 0)))], S0_)) rfl ?_
    refine sm_T_bin (w := 64 * (S0_.2.2.1 36 (0 + cc_) (3 * a1_ + a2_).toNat)) rfl (bi_mul (by omega) (by omega) (by omega)) ?_ -- pc_ 48
    refine sm_T_go 1 (c1 := (50, [some (.inr (.inr (some (9, 0)))), some (.inl a1_), some (.inl a2_), some (.inl a3_), some (.inl (S0_.2.2.1 36 (0 + cc_) (3 * a1_ + a2_).toNat))], [.inl a3_, .inl (64 * (S0_.2.2.1 36 (0 + cc_) (3 * a1_ + a2_).toNat)), .inr (.inr (some (92, 0)))], S0_)) rfl ?_
    refine sm_T_bin (w := 64 * (S0_.2.2.1 36 (0 + cc_) (3 * a1_ + a2_).toNat) + a3_) rfl (bi_add (by omega) (by omega) (by omega)) ?_ -- pc_ 50
    refine sm_T_lald (n := 10368) rfl rfl (by omega) (by omega) ?_
    refine sm_T_rl rfl ⟨_, _, rfl, rfl, _, rfl, ?_⟩
    trivial
  · have cx3_ : ¬ ((S0_.2.2.1 94 0 (S0_.2.2.1 36 (0 + cc_) (3 * a1_ + a2_).toNat).toNat) = 0) := of_decide_eq_false cx3_
    refine sm_T_go 4 (c1 := (33, [some (.inr (.inr (some (9, 0)))), some (.inl a1_), some (.inl a2_), some (.inl a3_), some (.inl (S0_.2.2.1 36 (0 + cc_) (3 * a1_ + a2_).toNat))], [.inl 64, .inl (S0_.2.2.1 36 (0 + cc_) (3 * a1_ + a2_).toNat), .inr (.inr (some (93, 0)))], S0_)) rfl ?_
    refine sm_T_bin (w := 64 * (S0_.2.2.1 36 (0 + cc_) (3 * a1_ + a2_).toNat)) rfl (bi_mul (by omega) (by omega) (by omega)) ?_ -- pc_ 33
    refine sm_T_go 1 (c1 := (35, [some (.inr (.inr (some (9, 0)))), some (.inl a1_), some (.inl a2_), some (.inl a3_), some (.inl (S0_.2.2.1 36 (0 + cc_) (3 * a1_ + a2_).toNat))], [.inl a3_, .inl (64 * (S0_.2.2.1 36 (0 + cc_) (3 * a1_ + a2_).toNat)), .inr (.inr (some (93, 0)))], S0_)) rfl ?_
    refine sm_T_bin (w := 64 * (S0_.2.2.1 36 (0 + cc_) (3 * a1_ + a2_).toNat) + a3_) rfl (bi_add (by omega) (by omega) (by omega)) ?_ -- pc_ 35
    refine sm_T_lald (n := 10368) rfl rfl (by omega) (by omega) ?_
    refine sm_T_go 1 (c1 := (52, [some (.inr (.inr (some (9, 0)))), some (.inl a1_), some (.inl a2_), some (.inl a3_), some (.inl (S0_.2.2.1 36 (0 + cc_) (3 * a1_ + a2_).toNat))], [.inr (.inl (S0_.2.2.2 93 0 (64 * (S0_.2.2.1 36 (0 + cc_) (3 * a1_ + a2_).toNat) + a3_).toNat))], S0_)) rfl ?_
    refine sm_T_rl rfl ⟨_, _, rfl, rfl, _, rfl, ?_⟩
    trivial
