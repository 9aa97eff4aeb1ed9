/-! Mapper.partAt -/
def vw_112 : sx_Wl := ([], [], [])
def vq_112 (a1_ : Int) (k_ : Int) (dd_ : Nat) (S0_ : sm_S) (u_ : Option sm_V) (S1_ : sm_S) : Prop := S0_ = S1_ ∧ ∃ v_ : Int, u_ = some (.inl v_) ∧ (v_ = ptv (1 + S0_.1 3 dd_ 1 + S0_.1 3 dd_ 2) (S0_.2.2.1 60 0) (S0_.2.2.1 62 0) (S0_.2.2.1 63 0) (S0_.2.2.1 64 0) a1_ k_)
set_option maxHeartbeats 400000 in
theorem vc_112 {sc_ : Nat × (Nat → Int)} (a1_ : Int) (k_ : Int) (dd_ : Nat) (S0_ : sm_S) (hI_ : gi S0_) (hd_ : S0_.2.1 6 0 0 = some dd_) (h1_ : 0 ≤ a1_ ∧ a1_ ≤ 3038) (h2_ : 0 ≤ k_ ∧ k_ ≤ 2) : sm_T (mt_P sc_) 2 112 (0, [some (.inr (.inr (some (6, 0)))), some (.inl a1_), some (.inl k_), none, none, none, none, none], [], S0_) (fun ro9_ => ∃ u_ S1_, ro9_ = (.inl u_, S1_, 0) ∧ vq_112 a1_ k_ dd_ S0_ u_ S1_) := by
  have hF_ : ai_fr (sx_W vw_112) S0_ S0_ := ai_fr_rf
  refine sm_T_go 2 (c1 := (2, [some (.inr (.inr (some (6, 0)))), some (.inl a1_), some (.inl k_), none, none, none, none, none], [.inl 3, .inl a1_], S0_)) rfl ?_
  refine sm_T_bin (w := (a1_ / 3)) rfl (bi_div (by omega) (by omega) (by omega) (by omega)) ?_ -- pc_ 2
  refine sm_T_go 3 (c1 := (6, [some (.inr (.inr (some (6, 0)))), some (.inl a1_), some (.inl k_), some (.inl (a1_ / 3)), none, none, none, none], [.inl 3, .inl a1_], S0_)) rfl ?_
  refine sm_T_bin (w := (a1_ % 3)) rfl (bi_rem (by omega) (by omega) (by omega) (by omega)) ?_ -- pc_ 6
  refine sm_T_go 3 (c1 := (12, [some (.inr (.inr (some (6, 0)))), some (.inl a1_), some (.inl k_), some (.inl (a1_ / 3)), some (.inl (a1_ % 3)), none, none, none], [.inl 2, .inl (a1_ % 3)], S0_)) rfl ?_
  refine sm_T_br (a := 1) (z := 7) rfl (fun cx1_ => ?_) (fun cx1_ => ?_)
  · have cx1_ : (a1_ % 3) ≠ 2 := of_decide_eq_true cx1_
    refine sm_T_go 2 (c1 := (21, [some (.inr (.inr (some (6, 0)))), some (.inl a1_), some (.inl k_), some (.inl (a1_ / 3)), some (.inl (a1_ % 3)), none, none, none], [.inl (a1_ / 3), .inl 2], S0_)) rfl ?_
    refine sm_T_bin (w := 2 * (a1_ / 3)) rfl (bi_mul (by omega) (by omega) (by omega)) ?_ -- pc_ 21
    refine sm_T_go 1 (c1 := (24, [some (.inr (.inr (some (6, 0)))), some (.inl a1_), some (.inl k_), some (.inl (a1_ / 3)), some (.inl (a1_ % 3)), none, none, none], [.inl (a1_ % 3), .inl (2 * (a1_ / 3))], S0_)) rfl ?_
    refine sm_T_bin (w := 2 * (a1_ / 3) + (a1_ % 3)) rfl (bi_add (by omega) (by omega) (by omega)) ?_ -- pc_ 24
    refine sm_T_go 4 (c1 := (33, [some (.inr (.inr (some (6, 0)))), some (.inl a1_), some (.inl k_), some (.inl (a1_ / 3)), some (.inl (a1_ % 3)), some (.inl (2 * (a1_ / 3) + (a1_ % 3))), none, none], [.inl (2 * (a1_ / 3) + (a1_ % 3)), .inr (.inr (some (62, 0)))], S0_)) rfl ?_
    refine sm_T_iald (n := 2026) rfl rfl (by omega) (by omega) ?_
    have bx2_ : (-2) ≤ S0_.2.2.1 62 0 (2 * (a1_ / 3) + (a1_ % 3)).toNat ∧ S0_.2.2.1 62 0 (2 * (a1_ / 3) + (a1_ % 3)).toNat ≤ 11 := hI_.2 62 0 _
    refine sm_T_b0 (a := 3) (z := 12) rfl (fun cx3_ => ?_) (fun cx3_ => ?_)
    · have cx3_ : 0 ≤ (S0_.2.2.1 62 0 (2 * (a1_ / 3) + (a1_ % 3)).toNat) := of_decide_eq_true cx3_
      refine sm_T_go 4 (c1 := (53, [some (.inr (.inr (some (6, 0)))), some (.inl a1_), some (.inl k_), some (.inl (a1_ / 3)), some (.inl (a1_ % 3)), some (.inl (2 * (a1_ / 3) + (a1_ % 3))), none, none], [.inl (2 * (a1_ / 3) + (a1_ % 3)), .inl 3, .inr (.inr (some (64, 0)))], S0_)) rfl ?_
      refine sm_T_bin (w := 6 * (a1_ / 3) + 3 * (a1_ % 3)) rfl (bi_mul (by omega) (by omega) (by omega)) ?_ -- pc_ 53
      refine sm_T_go 1 (c1 := (55, [some (.inr (.inr (some (6, 0)))), some (.inl a1_), some (.inl k_), some (.inl (a1_ / 3)), some (.inl (a1_ % 3)), some (.inl (2 * (a1_ / 3) + (a1_ % 3))), none, none], [.inl k_, .inl (6 * (a1_ / 3) + 3 * (a1_ % 3)), .inr (.inr (some (64, 0)))], S0_)) rfl ?_
      refine sm_T_bin (w := 6 * (a1_ / 3) + 3 * (a1_ % 3) + k_) rfl (bi_add (by omega) (by omega) (by omega)) ?_ -- pc_ 55
      refine sm_T_iald (n := 6078) rfl rfl (by omega) (by omega) ?_
      have bx4_ : 0 ≤ S0_.2.2.1 64 0 (6 * (a1_ / 3) + 3 * (a1_ % 3) + k_).toNat ∧ S0_.2.2.1 64 0 (6 * (a1_ / 3) + 3 * (a1_ % 3) + k_).toNat ≤ 1012 := hI_.2 64 0 _
      refine sm_T_go 4 (c1 := (65, [some (.inr (.inr (some (6, 0)))), some (.inl a1_), some (.inl k_), some (.inl (a1_ / 3)), some (.inl (a1_ % 3)), some (.inl (2 * (a1_ / 3) + (a1_ % 3))), some (.inl (S0_.2.2.1 64 0 (6 * (a1_ / 3) + 3 * (a1_ % 3) + k_).toNat)), none], [.inl (2 * (a1_ / 3) + (a1_ % 3)), .inr (.inr (some (63, 0)))], S0_)) rfl ?_
      refine sm_T_iald (n := 2026) rfl rfl (by omega) (by omega) ?_
      have bx5_ : 0 ≤ S0_.2.2.1 63 0 (2 * (a1_ / 3) + (a1_ % 3)).toNat ∧ S0_.2.2.1 63 0 (2 * (a1_ / 3) + (a1_ % 3)).toNat ≤ 15 := hI_.2 63 0 _
      refine sm_T_go 1 (c1 := (67, [some (.inr (.inr (some (6, 0)))), some (.inl a1_), some (.inl k_), some (.inl (a1_ / 3)), some (.inl (a1_ % 3)), some (.inl (2 * (a1_ / 3) + (a1_ % 3))), some (.inl (S0_.2.2.1 64 0 (6 * (a1_ / 3) + 3 * (a1_ % 3) + k_).toNat)), none], [.inl k_, .inl (S0_.2.2.1 63 0 (2 * (a1_ / 3) + (a1_ % 3)).toNat)], S0_)) rfl ?_
      refine sm_T_bin (w := (i_shr (S0_.2.2.1 63 0 (2 * (a1_ / 3) + (a1_ % 3)).toNat) k_)) rfl rfl ?_ -- pc_ 67
      have bx6_ := i_shr_p (x_ := (S0_.2.2.1 63 0 (2 * (a1_ / 3) + (a1_ % 3)).toNat)) (e_ := k_) (by omega) (by omega) (by omega)
      refine sm_T_go 1 (c1 := (69, [some (.inr (.inr (some (6, 0)))), some (.inl a1_), some (.inl k_), some (.inl (a1_ / 3)), some (.inl (a1_ % 3)), some (.inl (2 * (a1_ / 3) + (a1_ % 3))), some (.inl (S0_.2.2.1 64 0 (6 * (a1_ / 3) + 3 * (a1_ % 3) + k_).toNat)), none], [.inl 1, .inl (i_shr (S0_.2.2.1 63 0 (2 * (a1_ / 3) + (a1_ % 3)).toNat) k_)], S0_)) rfl ?_
      refine sm_T_bin (w := ((i_shr (S0_.2.2.1 63 0 (2 * (a1_ / 3) + (a1_ % 3)).toNat) k_) % 2)) rfl (bi_msk (k := 1) (by decide)) ?_ -- pc_ 69
      refine sm_T_go 3 (c1 := (75, [some (.inr (.inr (some (6, 0)))), some (.inl a1_), some (.inl k_), some (.inl (a1_ / 3)), some (.inl (a1_ % 3)), some (.inl (2 * (a1_ / 3) + (a1_ % 3))), some (.inl (S0_.2.2.1 64 0 (6 * (a1_ / 3) + 3 * (a1_ % 3) + k_).toNat)), some (.inl ((i_shr (S0_.2.2.1 63 0 (2 * (a1_ / 3) + (a1_ % 3)).toNat) k_) % 2))], [.inl (S0_.2.2.1 64 0 (6 * (a1_ / 3) + 3 * (a1_ % 3) + k_).toNat), .inl 3], S0_)) rfl ?_
      refine sm_T_bin (w := 3 * (S0_.2.2.1 64 0 (6 * (a1_ / 3) + 3 * (a1_ % 3) + k_).toNat)) rfl (bi_mul (by omega) (by omega) (by omega)) ?_ -- pc_ 75
      refine sm_T_go 2 (c1 := (79, [some (.inr (.inr (some (6, 0)))), some (.inl a1_), some (.inl k_), some (.inl (a1_ / 3)), some (.inl (a1_ % 3)), some (.inl (2 * (a1_ / 3) + (a1_ % 3))), some (.inl (S0_.2.2.1 64 0 (6 * (a1_ / 3) + 3 * (a1_ % 3) + k_).toNat)), some (.inl ((i_shr (S0_.2.2.1 63 0 (2 * (a1_ / 3) + (a1_ % 3)).toNat) k_) % 2))], [.inl (S0_.2.2.1 64 0 (6 * (a1_ / 3) + 3 * (a1_ % 3) + k_).toNat), .inr (.inr (some (6, 0))), .inl (3 * (S0_.2.2.1 64 0 (6 * (a1_ / 3) + 3 * (a1_ % 3) + k_).toNat))], S0_)) rfl ?_
      refine sm_T_cal (d1 := 1) (Q1 := vq_94 (S0_.2.2.1 64 0 (6 * (a1_ / 3) + 3 * (a1_ % 3) + k_).toNat) dd_ S0_) rfl rfl (by decide) (vc_94 (S0_.2.2.1 64 0 (6 * (a1_ / 3) + 3 * (a1_ % 3) + k_).toNat) dd_ S0_ hI_ (by exact hd_) (by omega)) (fun u_ Sx7_ px10_ => ?_)
      obtain ⟨rfl, vx12_, rfl, px10_⟩ := px10_
      have lf9_ := px10_
      refine sm_T_b0 (a := 0) (z := 10) rfl (fun cx13_ => ?_) (fun cx13_ => ?_)
      · have cx13_ : vx12_ = 0 := of_decide_eq_true cx13_
        refine sm_T_go 1 (c1 := (94, [some (.inr (.inr (some (6, 0)))), some (.inl a1_), some (.inl k_), some (.inl (a1_ / 3)), some (.inl (a1_ % 3)), some (.inl (2 * (a1_ / 3) + (a1_ % 3))), some (.inl (S0_.2.2.1 64 0 (6 * (a1_ / 3) + 3 * (a1_ % 3) + k_).toNat)), some (.inl ((i_shr (S0_.2.2.1 63 0 (2 * (a1_ / 3) + (a1_ % 3)).toNat) k_) % 2))], [.inl ((i_shr (S0_.2.2.1 63 0 (2 * (a1_ / 3) + (a1_ % 3)).toNat) k_) % 2), .inl (3 * (S0_.2.2.1 64 0 (6 * (a1_ / 3) + 3 * (a1_ % 3) + k_).toNat))], S0_)) rfl ?_
        refine sm_T_bin (w := 3 * (S0_.2.2.1 64 0 (6 * (a1_ / 3) + 3 * (a1_ % 3) + k_).toNat) + ((i_shr (S0_.2.2.1 63 0 (2 * (a1_ / 3) + (a1_ % 3)).toNat) k_) % 2)) rfl (bi_add (by omega) (by omega) (by omega)) ?_ -- pc_ 94
        refine sm_T_ri rfl ⟨_, _, rfl, rfl, _, rfl, ?_⟩
        unfold ptv ptn
        rw [if_neg (by omega), if_neg (by omega)]
        first | (rw [if_pos (by omega)]) | (rw [if_neg (by omega)])
      · have cx13_ : ¬ (vx12_ = 0) := of_decide_eq_false cx13_
        refine sm_T_go 2 (c1 := (88, [some (.inr (.inr (some (6, 0)))), some (.inl a1_), some (.inl k_), some (.inl (a1_ / 3)), some (.inl (a1_ % 3)), some (.inl (2 * (a1_ / 3) + (a1_ % 3))), some (.inl (S0_.2.2.1 64 0 (6 * (a1_ / 3) + 3 * (a1_ % 3) + k_).toNat)), some (.inl ((i_shr (S0_.2.2.1 63 0 (2 * (a1_ / 3) + (a1_ % 3)).toNat) k_) % 2))], [.inl ((i_shr (S0_.2.2.1 63 0 (2 * (a1_ / 3) + (a1_ % 3)).toNat) k_) % 2), .inl 2, .inl (3 * (S0_.2.2.1 64 0 (6 * (a1_ / 3) + 3 * (a1_ % 3) + k_).toNat))], S0_)) rfl ?_
        refine sm_T_bin (w := 2 * ((i_shr (S0_.2.2.1 63 0 (2 * (a1_ / 3) + (a1_ % 3)).toNat) k_) % 2)) rfl (bi_mul (by omega) (by omega) (by omega)) ?_ -- pc_ 88
        refine sm_T_go 1 (c1 := (94, [some (.inr (.inr (some (6, 0)))), some (.inl a1_), some (.inl k_), some (.inl (a1_ / 3)), some (.inl (a1_ % 3)), some (.inl (2 * (a1_ / 3) + (a1_ % 3))), some (.inl (S0_.2.2.1 64 0 (6 * (a1_ / 3) + 3 * (a1_ % 3) + k_).toNat)), some (.inl ((i_shr (S0_.2.2.1 63 0 (2 * (a1_ / 3) + (a1_ % 3)).toNat) k_) % 2))], [.inl (2 * ((i_shr (S0_.2.2.1 63 0 (2 * (a1_ / 3) + (a1_ % 3)).toNat) k_) % 2)), .inl (3 * (S0_.2.2.1 64 0 (6 * (a1_ / 3) + 3 * (a1_ % 3) + k_).toNat))], S0_)) rfl ?_
        refine sm_T_bin (w := 3 * (S0_.2.2.1 64 0 (6 * (a1_ / 3) + 3 * (a1_ % 3) + k_).toNat) + 2 * ((i_shr (S0_.2.2.1 63 0 (2 * (a1_ / 3) + (a1_ % 3)).toNat) k_) % 2)) rfl (bi_add (by omega) (by omega) (by omega)) ?_ -- pc_ 94
        refine sm_T_ri rfl ⟨_, _, rfl, rfl, _, rfl, ?_⟩
        unfold ptv ptn
        rw [if_neg (by omega), if_neg (by omega)]
        first | (rw [if_pos (by omega)]) | (rw [if_neg (by omega)])
    · have cx3_ : ¬ (0 ≤ (S0_.2.2.1 62 0 (2 * (a1_ / 3) + (a1_ % 3)).toNat)) := of_decide_eq_false cx3_
      refine sm_T_go 2 (c1 := (39, [some (.inr (.inr (some (6, 0)))), some (.inl a1_), some (.inl k_), some (.inl (a1_ / 3)), some (.inl (a1_ % 3)), some (.inl (2 * (a1_ / 3) + (a1_ % 3))), none, none], [.inl (a1_ / 3), .inl 3], S0_)) rfl ?_
      refine sm_T_bin (w := 3 * (a1_ / 3)) rfl (bi_mul (by omega) (by omega) (by omega)) ?_ -- pc_ 39
      refine sm_T_go 1 (c1 := (41, [some (.inr (.inr (some (6, 0)))), some (.inl a1_), some (.inl k_), some (.inl (a1_ / 3)), some (.inl (a1_ % 3)), some (.inl (2 * (a1_ / 3) + (a1_ % 3))), none, none], [.inl 1, .inl (3 * (a1_ / 3))], S0_)) rfl ?_
      refine sm_T_bin (w := 3 * (a1_ / 3) + 1) rfl (bi_add (by omega) (by omega) (by omega)) ?_ -- pc_ 41
      refine sm_T_go 1 (c1 := (44, [some (.inr (.inr (some (6, 0)))), some (.inl a1_), some (.inl k_), some (.inl (a1_ / 3)), some (.inl (a1_ % 3)), some (.inl (2 * (a1_ / 3) + (a1_ % 3))), none, none], [.inl (a1_ % 3), .inl (3 * (a1_ / 3) + 1)], S0_)) rfl ?_
      refine sm_T_bin (w := 3 * (a1_ / 3) - (a1_ % 3) + 1) rfl (bi_sub (by omega) (by omega) (by omega)) ?_ -- pc_ 44
      refine sm_T_ri rfl ⟨_, _, rfl, rfl, _, rfl, ?_⟩
      unfold ptv
      rw [if_neg (by omega), if_pos (by omega)]
      omega
  · have cx1_ : ¬ ((a1_ % 3) ≠ 2) := of_decide_eq_false cx1_
    refine sm_T_go 2 (c1 := (17, [some (.inr (.inr (some (6, 0)))), some (.inl a1_), some (.inl k_), some (.inl (a1_ / 3)), some (.inl (a1_ % 3)), none, none, none], [.inl (a1_ / 3), .inl 3], S0_)) rfl ?_
    refine sm_T_bin (w := 3 * (a1_ / 3)) rfl (bi_mul (by omega) (by omega) (by omega)) ?_ -- pc_ 17
    refine sm_T_ri rfl ⟨_, _, rfl, rfl, _, rfl, ?_⟩
    unfold ptv
    rw [if_pos (by omega)]
