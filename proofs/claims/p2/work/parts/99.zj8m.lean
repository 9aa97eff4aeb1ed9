/-! Board.wireOf -/
def vw_23 : sx_Wl := ([], [], [])
def vq_23 (a1_ : Int) (ii_ : Nat) (S0_ : sm_S) (u_ : Option sm_V) (S1_ : sm_S) : Prop := S0_ = S1_ ∧ ∃ v_ : Int, u_ = some (.inl v_) ∧ (-9424 ≤ v_ ∧ v_ ≤ 101)
set_option maxHeartbeats 3000000 in
theorem vl_23 {sc_ : Nat × (Nat → Int)} (a1_ : Int) (ii_ : Nat) (S0_ : sm_S) (h1_ : 0 ≤ a1_ ∧ a1_ ≤ 161) (hb_ : bpn ii_ S0_) : ∀ nn_ : Nat, (∀ (wt : Int) (et_ : Int) (nr : Int) (sh_ : Int) (k_ : Int) (S_ : sm_S), gi S_ → ai_fr (sx_W vw_23) S0_ S_ → ((0 ≤ wt ∧ wt ≤ 4712 ∧ 0 ≤ et_ ∧ et_ ≤ 64 ∧ 0 ≤ nr ∧ nr ≤ 4712 ∧ 0 ≤ sh_ ∧ sh_ ≤ 37 ∧ 0 ≤ k_ ∧ k_ ≤ 652) ∧ (S_ = S0_) ∧ True) → ((1000 - k_).toNat) < nn_ → sm_T (mt_P sc_) 1 23 (29, [some (.inr (.inr (some (0, ii_)))), some (.inl a1_), some (.inl wt), some (.inl et_), some (.inl nr), some (.inl sh_), some (.inl k_), none, none], [], S_) (fun ro9_ => ∃ u_ S1_, ro9_ = (.inl u_, S1_, 0) ∧ vq_23 a1_ ii_ S0_ u_ S1_)) := by
  intro nn_
  induction nn_ with
  | zero => exact fun _ _ _ _ _ _ _ _ _ h_ => absurd h_ (Nat.not_lt_zero _)
  | succ nn_ ih_ =>
    rintro wt et_ nr sh_ k_ S_ hI_ hF_ ⟨h0_, hS_, -⟩ hm_
    refine sm_T_go 4 (c1 := (36, [some (.inr (.inr (some (0, ii_)))), some (.inl a1_), some (.inl wt), some (.inl et_), some (.inl nr), some (.inl sh_), some (.inl k_), none, none], [.inl a1_, .inr (.inr (some (20, (0 + ii_)))), .inl k_], S_)) rfl ?_
    refine sm_T_iald (n := 162) rfl rfl (by omega) (by omega) ?_
    have bx1_ : 0 ≤ S_.2.2.1 20 (0 + ii_) a1_.toNat ∧ S_.2.2.1 20 (0 + ii_) a1_.toNat ≤ 652 := hI_.2 20 (0 + ii_) _
    refine sm_T_br (a := 3) (z := 67) rfl (fun cx2_ => ?_) (fun cx2_ => ?_)
    · have cx2_ : (S_.2.2.1 20 (0 + ii_) a1_.toNat) ≤ k_ := of_decide_eq_true cx2_
      refine sm_T_go 2 (c1 := (106, [some (.inr (.inr (some (0, ii_)))), some (.inl a1_), some (.inl wt), some (.inl et_), some (.inl nr), some (.inl sh_), some (.inl k_), none, none], [.inl wt, .inl et_], S_)) rfl ?_
      refine sm_T_bin (w := et_ - wt) rfl (bi_sub (by omega) (by omega) (by omega)) ?_ -- pc_ 106
      refine sm_T_go 1 (c1 := (109, [some (.inr (.inr (some (0, ii_)))), some (.inl a1_), some (.inl wt), some (.inl et_), some (.inl nr), some (.inl sh_), some (.inl k_), none, none], [.inl sh_, .inl (et_ - wt)], S_)) rfl ?_
      refine sm_T_bin (w := et_ - wt + sh_) rfl (bi_add (by omega) (by omega) (by omega)) ?_ -- pc_ 109
      refine sm_T_go 1 (c1 := (112, [some (.inr (.inr (some (0, ii_)))), some (.inl a1_), some (.inl wt), some (.inl et_), some (.inl nr), some (.inl sh_), some (.inl k_), none, none], [.inl nr, .inl (et_ - wt + sh_)], S_)) rfl ?_
      refine sm_T_bin (w := et_ - wt + sh_ - nr) rfl (bi_sub (by omega) (by omega) (by omega)) ?_ -- pc_ 112
      refine sm_T_ri rfl ⟨_, _, rfl, (by first | rfl | exact hS_.symm), _, rfl, ?_⟩
      omega
    · have cx2_ : ¬ ((S_.2.2.1 20 (0 + ii_) a1_.toNat) ≤ k_) := of_decide_eq_false cx2_
      refine sm_T_go 4 (c1 := (45, [some (.inr (.inr (some (0, ii_)))), some (.inl a1_), some (.inl wt), some (.inl et_), some (.inl nr), some (.inl sh_), some (.inl k_), none, none], [.inl k_, .inl a1_, .inr (.inr (some (0, ii_))), .inr (.inr (some (0, ii_)))], S_)) rfl ?_
      refine sm_T_cal (d1 := 0) (Q1 := vq_14 a1_ k_ ii_ S_) rfl rfl (by decide) (vc_14 a1_ k_ ii_ S_ hI_ (by omega) (by omega) (by (rw [hS_]; exact hb_))) (fun u_ Sx3_ px6_ => ?_)
      obtain ⟨rfl, vx8_, rfl, px6_⟩ := px6_
      have q1_ := px6_.1
      refine sm_T_cal (d1 := 0) (Q1 := vq_17 vx8_ ii_ S_) rfl rfl (by decide) (vc_17 vx8_ ii_ S_ hI_ (by omega)) (fun u_ Sx9_ px12_ => ?_)
      obtain ⟨rfl, vx14_, rfl, px12_⟩ := px12_
      have q3_ := px12_.1
      refine sm_T_go 5 (c1 := (58, [some (.inr (.inr (some (0, ii_)))), some (.inl a1_), some (.inl wt), some (.inl et_), some (.inl nr), some (.inl sh_), some (.inl k_), some (.inl vx14_), none], [.inl k_, .inl a1_, .inr (.inr (some (0, ii_))), .inr (.inr (some (0, ii_)))], S_)) rfl ?_
      refine sm_T_cal (d1 := 0) (Q1 := vq_14 a1_ k_ ii_ S_) rfl rfl (by decide) (vc_14 a1_ k_ ii_ S_ hI_ (by omega) (by omega) (by (rw [hS_]; exact hb_))) (fun u_ Sx15_ px18_ => ?_)
      obtain ⟨rfl, vx20_, rfl, px18_⟩ := px18_
      have q2_ := px18_.1
      refine sm_T_cal (d1 := 0) (Q1 := vq_18 vx20_ ii_ S_) rfl rfl (by decide) (vc_18 vx20_ ii_ S_ hI_ (by omega)) (fun u_ Sx21_ px24_ => ?_)
      obtain ⟨rfl, vx26_, rfl, px24_⟩ := px24_
      have q4_ := px24_.1
      refine sm_T_go 3 (c1 := (69, [some (.inr (.inr (some (0, ii_)))), some (.inl a1_), some (.inl wt), some (.inl et_), some (.inl nr), some (.inl sh_), some (.inl k_), some (.inl vx14_), some (.inl vx26_)], [.inl vx14_, .inl wt], S_)) rfl ?_
      refine sm_T_nt (u := some (.inl (sm_mn wt vx14_))) (S1 := S_) rfl rfl rfl ?_
      have bx27_ := sm_mn_d wt vx14_
      refine sm_T_go 3 (c1 := (76, [some (.inr (.inr (some (0, ii_)))), some (.inl a1_), some (.inl (sm_mn wt vx14_)), some (.inl et_), some (.inl nr), some (.inl sh_), some (.inl k_), some (.inl vx14_), some (.inl vx26_)], [.inl vx14_, .inl et_], S_)) rfl ?_
      refine sm_T_nt (u := some (.inl (sm_mx et_ vx14_))) (S1 := S_) rfl rfl rfl ?_
      have bx28_ := sm_mx_d et_ vx14_
      refine sm_T_go 3 (c1 := (84, [some (.inr (.inr (some (0, ii_)))), some (.inl a1_), some (.inl (sm_mn wt vx14_)), some (.inl (sm_mx et_ vx14_)), some (.inl nr), some (.inl sh_), some (.inl k_), some (.inl vx14_), some (.inl vx26_)], [.inl vx26_, .inl nr], S_)) rfl ?_
      refine sm_T_nt (u := some (.inl (sm_mn nr vx26_))) (S1 := S_) rfl rfl rfl ?_
      have bx29_ := sm_mn_d nr vx26_
      refine sm_T_go 3 (c1 := (93, [some (.inr (.inr (some (0, ii_)))), some (.inl a1_), some (.inl (sm_mn wt vx14_)), some (.inl (sm_mx et_ vx14_)), some (.inl (sm_mn nr vx26_)), some (.inl sh_), some (.inl k_), some (.inl vx14_), some (.inl vx26_)], [.inl vx26_, .inl sh_], S_)) rfl ?_
      refine sm_T_nt (u := some (.inl (sm_mx sh_ vx26_))) (S1 := S_) rfl rfl rfl ?_
      have bx30_ := sm_mx_d sh_ vx26_
      refine sm_T_go 1 (c1 := (98, [some (.inr (.inr (some (0, ii_)))), some (.inl a1_), some (.inl (sm_mn wt vx14_)), some (.inl (sm_mx et_ vx14_)), some (.inl (sm_mn nr vx26_)), some (.inl (sm_mx sh_ vx26_)), some (.inl k_), some (.inl vx14_), some (.inl vx26_)], [], S_)) rfl ?_
      refine sm_T_inc (a := 6) (z := 1) (v := k_) (w := k_ + 1) rfl rfl (by omega) (by omega) (by omega) ?_ -- pc_ 98
      refine sm_T_go 1 (c1 := (29, [some (.inr (.inr (some (0, ii_)))), some (.inl a1_), some (.inl (sm_mn wt vx14_)), some (.inl (sm_mx et_ vx14_)), some (.inl (sm_mn nr vx26_)), some (.inl (sm_mx sh_ vx26_)), some (.inl (k_ + 1)), some (.inl vx14_), some (.inl vx26_)], [], S_)) rfl ?_
      refine sm_T_wk [some (.inr (.inr (some (0, ii_)))), some (.inl a1_), some (.inl (sm_mn wt vx14_)), some (.inl (sm_mx et_ vx14_)), some (.inl (sm_mn nr vx26_)), some (.inl (sm_mx sh_ vx26_)), some (.inl (k_ + 1)), none, none] (by exact ⟨rfl, rfl, rfl, rfl, rfl, rfl, rfl, trivial⟩) ?_
      refine ih_ (sm_mn wt vx14_) (sm_mx et_ vx14_) (sm_mn nr vx26_) (sm_mx sh_ vx26_) (k_ + 1) S_ hI_ hF_ ⟨?_, ?_, trivial⟩ ?_
      · omega
      · first | rfl | exact hS_
      · omega
set_option maxHeartbeats 3000000 in
theorem vc_23 {sc_ : Nat × (Nat → Int)} (a1_ : Int) (ii_ : Nat) (S0_ : sm_S) (hI_ : gi S0_) (h1_ : 0 ≤ a1_ ∧ a1_ ≤ 161) (hb_ : bpn ii_ S0_) : sm_T (mt_P sc_) 1 23 (0, [some (.inr (.inr (some (0, ii_)))), some (.inl a1_), none, none, none, none, none, none, none], [], S0_) (fun ro9_ => ∃ u_ S1_, ro9_ = (.inl u_, S1_, 0) ∧ vq_23 a1_ ii_ S0_ u_ S1_) := by
  have hF_ : ai_fr (sx_W vw_23) S0_ S0_ := ai_fr_rf
  refine sm_T_go 3 (c1 := (5, [some (.inr (.inr (some (0, ii_)))), some (.inl a1_), none, none, none, none, none, none, none], [.inl a1_, .inr (.inr (some (20, (0 + ii_))))], S0_)) rfl ?_
  refine sm_T_iald (n := 162) rfl rfl (by omega) (by omega) ?_
  have bx1_ : 0 ≤ S0_.2.2.1 20 (0 + ii_) a1_.toNat ∧ S0_.2.2.1 20 (0 + ii_) a1_.toNat ≤ 652 := hI_.2 20 (0 + ii_) _
  refine sm_T_go 1 (c1 := (7, [some (.inr (.inr (some (0, ii_)))), some (.inl a1_), none, none, none, none, none, none, none], [.inl 2, .inl (S0_.2.2.1 20 (0 + ii_) a1_.toNat)], S0_)) rfl ?_
  refine sm_T_br (a := 3) (z := 5) rfl (fun cx2_ => ?_) (fun cx2_ => ?_)
  · have cx2_ : 2 ≤ (S0_.2.2.1 20 (0 + ii_) a1_.toNat) := of_decide_eq_true cx2_
    refine sm_T_go 10 (c1 := (29, [some (.inr (.inr (some (0, ii_)))), some (.inl a1_), some (.inl 4712), some (.inl 0), some (.inl 4712), some (.inl 0), some (.inl 0), none, none], [], S0_)) rfl ?_
    refine (vl_23 a1_ ii_ S0_ h1_ hb_ _) 4712 0 4712 0 0 S0_ hI_ hF_ ⟨?_, ?_, trivial⟩ (Nat.lt_succ_self _)
    · omega
    · first | rfl | exact hS_
  · have cx2_ : ¬ (2 ≤ (S0_.2.2.1 20 (0 + ii_) a1_.toNat)) := of_decide_eq_false cx2_
    refine sm_T_go 1 (c1 := (11, [some (.inr (.inr (some (0, ii_)))), some (.inl a1_), none, none, none, none, none, none, none], [.inl 0], S0_)) rfl ?_
    refine sm_T_ri rfl ⟨_, _, rfl, (by first | rfl | exact hS_.symm), _, rfl, ?_⟩
    omega
