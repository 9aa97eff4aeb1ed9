/-! Times.comesBefore -/
def vw_204 : sx_Wl := ([], [], [])
def vq_204 (a1_ : Int) (a2_ : Int) (S0_ : sm_S) (u_ : Option sm_V) (S1_ : sm_S) : Prop := S0_ = S1_ ∧ ∃ v_ : Int, u_ = some (.inl v_) ∧ (0 ≤ v_ ∧ v_ ≤ 1)
set_option maxHeartbeats 400000 in
theorem vl_204 {sc_ : Nat × (Nat → Int)} (a1_ : Int) (a2_ : Int) (S0_ : sm_S) (h1_ : 0 ≤ a1_ ∧ a1_ ≤ 40) (h2_ : 0 ≤ a2_ ∧ a2_ ≤ 40) : ∀ nn_ : Nat, (∀ (sh_ : Int) (k_ : Int) (S_ : sm_S), gi S_ → ai_fr (sx_W vw_204) S0_ S_ → ((0 ≤ k_ ∧ k_ ≤ 152 ∧ 0 ≤ sh_ ∧ sh_ ≤ 152) ∧ (S_ = S0_) ∧ True) → ((500 - k_).toNat) < nn_ → sm_T (mt_P sc_) 0 204 (55, [some (.inr (.inr (some (11, 0)))), some (.inl a1_), some (.inl a2_), some (.inl sh_), some (.inl k_), none, none], [], S_) (fun ro9_ => ∃ u_ S1_, ro9_ = (.inl u_, S1_, 0) ∧ vq_204 a1_ a2_ S0_ u_ S1_)) := by
  intro nn_
  induction nn_ with
  | zero => exact fun _ _ _ _ _ _ h_ => absurd h_ (Nat.not_lt_zero _)
  | succ nn_ ih_ =>
    rintro sh_ k_ S_ hI_ hF_ ⟨h0_, hS_, -⟩ hm_
    refine sm_T_go 2 (c1 := (58, [some (.inr (.inr (some (11, 0)))), some (.inl a1_), some (.inl a2_), some (.inl sh_), some (.inl k_), none, none], [.inl sh_, .inl k_], S_)) rfl ?_
    refine sm_T_br (a := 3) (z := 59) rfl (fun cx1_ => ?_) (fun cx1_ => ?_)
    · have cx1_ : sh_ ≤ k_ := of_decide_eq_true cx1_
      refine sm_T_go 3 (c1 := (122, [some (.inr (.inr (some (11, 0)))), some (.inl a1_), some (.inl a2_), some (.inl sh_), some (.inl k_), none, none], [.inl a1_, .inr (.inr (some (104, 0)))], S_)) rfl ?_
      refine sm_T_iald (n := 41) rfl rfl (by omega) (by omega) ?_
      have bx2_ : 0 ≤ S_.2.2.1 104 0 a1_.toNat ∧ S_.2.2.1 104 0 a1_.toNat ≤ 152 := hI_.2 104 0 _
      refine sm_T_go 3 (c1 := (128, [some (.inr (.inr (some (11, 0)))), some (.inl a1_), some (.inl a2_), some (.inl sh_), some (.inl k_), none, none], [.inl a2_, .inr (.inr (some (104, 0))), .inl (S_.2.2.1 104 0 a1_.toNat)], S_)) rfl ?_
      refine sm_T_iald (n := 41) rfl rfl (by omega) (by omega) ?_
      have bx3_ : 0 ≤ S_.2.2.1 104 0 a2_.toNat ∧ S_.2.2.1 104 0 a2_.toNat ≤ 152 := hI_.2 104 0 _
      refine sm_T_br (a := 3) (z := 7) rfl (fun cx4_ => ?_) (fun cx4_ => ?_)
      · have cx4_ : (S_.2.2.1 104 0 a2_.toNat) ≤ (S_.2.2.1 104 0 a1_.toNat) := of_decide_eq_true cx4_
        refine sm_T_go 1 (c1 := (137, [some (.inr (.inr (some (11, 0)))), some (.inl a1_), some (.inl a2_), some (.inl sh_), some (.inl k_), none, none], [.inl 0], S_)) rfl ?_
        refine sm_T_rz rfl (by omega) ⟨_, _, rfl, (by first | rfl | exact hS_.symm), _, rfl, ?_⟩
        omega
      · have cx4_ : ¬ ((S_.2.2.1 104 0 a2_.toNat) ≤ (S_.2.2.1 104 0 a1_.toNat)) := of_decide_eq_false cx4_
        refine sm_T_go 2 (c1 := (137, [some (.inr (.inr (some (11, 0)))), some (.inl a1_), some (.inl a2_), some (.inl sh_), some (.inl k_), none, none], [.inl 1], S_)) rfl ?_
        refine sm_T_rz rfl (by omega) ⟨_, _, rfl, (by first | rfl | exact hS_.symm), _, rfl, ?_⟩
        omega
    · have cx1_ : ¬ (sh_ ≤ k_) := of_decide_eq_false cx1_
      refine sm_T_go 4 (c1 := (69, [some (.inr (.inr (some (11, 0)))), some (.inl a1_), some (.inl a2_), some (.inl sh_), some (.inl k_), none, none], [.inl 152, .inl a1_, .inr (.inr (some (105, 0)))], S_)) rfl ?_
      refine sm_T_bin (w := 152 * a1_) rfl (bi_mul (by omega) (by omega) (by omega)) ?_ -- pc_ 69
      refine sm_T_go 1 (c1 := (72, [some (.inr (.inr (some (11, 0)))), some (.inl a1_), some (.inl a2_), some (.inl sh_), some (.inl k_), none, none], [.inl k_, .inl (152 * a1_), .inr (.inr (some (105, 0)))], S_)) rfl ?_
      refine sm_T_bin (w := 152 * a1_ + k_) rfl (bi_add (by omega) (by omega) (by omega)) ?_ -- pc_ 72
      refine sm_T_iald (n := 6232) rfl rfl (by omega) (by omega) ?_
      have bx5_ : 0 ≤ S_.2.2.1 105 0 (152 * a1_ + k_).toNat ∧ S_.2.2.1 105 0 (152 * a1_ + k_).toNat ≤ 10161 := hI_.2 105 0 _
      refine sm_T_go 5 (c1 := (84, [some (.inr (.inr (some (11, 0)))), some (.inl a1_), some (.inl a2_), some (.inl sh_), some (.inl k_), some (.inl (S_.2.2.1 105 0 (152 * a1_ + k_).toNat)), none], [.inl 152, .inl a2_, .inr (.inr (some (105, 0)))], S_)) rfl ?_
      refine sm_T_bin (w := 152 * a2_) rfl (bi_mul (by omega) (by omega) (by omega)) ?_ -- pc_ 84
      refine sm_T_go 1 (c1 := (87, [some (.inr (.inr (some (11, 0)))), some (.inl a1_), some (.inl a2_), some (.inl sh_), some (.inl k_), some (.inl (S_.2.2.1 105 0 (152 * a1_ + k_).toNat)), none], [.inl k_, .inl (152 * a2_), .inr (.inr (some (105, 0)))], S_)) rfl ?_
      refine sm_T_bin (w := 152 * a2_ + k_) rfl (bi_add (by omega) (by omega) (by omega)) ?_ -- pc_ 87
      refine sm_T_iald (n := 6232) rfl rfl (by omega) (by omega) ?_
      have bx6_ : 0 ≤ S_.2.2.1 105 0 (152 * a2_ + k_).toNat ∧ S_.2.2.1 105 0 (152 * a2_ + k_).toNat ≤ 10161 := hI_.2 105 0 _
      refine sm_T_go 3 (c1 := (95, [some (.inr (.inr (some (11, 0)))), some (.inl a1_), some (.inl a2_), some (.inl sh_), some (.inl k_), some (.inl (S_.2.2.1 105 0 (152 * a1_ + k_).toNat)), some (.inl (S_.2.2.1 105 0 (152 * a2_ + k_).toNat))], [.inl (S_.2.2.1 105 0 (152 * a2_ + k_).toNat), .inl (S_.2.2.1 105 0 (152 * a1_ + k_).toNat)], S_)) rfl ?_
      refine sm_T_br (a := 0) (z := 16) rfl (fun cx7_ => ?_) (fun cx7_ => ?_)
      · have cx7_ : (S_.2.2.1 105 0 (152 * a1_ + k_).toNat) = (S_.2.2.1 105 0 (152 * a2_ + k_).toNat) := of_decide_eq_true cx7_
        refine sm_T_inc (a := 4) (z := 1) (v := k_) (w := k_ + 1) rfl rfl (by omega) (by omega) (by omega) ?_ -- pc_ 111
        refine sm_T_go 1 (c1 := (55, [some (.inr (.inr (some (11, 0)))), some (.inl a1_), some (.inl a2_), some (.inl sh_), some (.inl (k_ + 1)), some (.inl (S_.2.2.1 105 0 (152 * a1_ + k_).toNat)), some (.inl (S_.2.2.1 105 0 (152 * a2_ + k_).toNat))], [], S_)) rfl ?_
        refine sm_T_wk [some (.inr (.inr (some (11, 0)))), some (.inl a1_), some (.inl a2_), some (.inl sh_), some (.inl (k_ + 1)), none, none] (by exact ⟨rfl, rfl, rfl, rfl, rfl, trivial⟩) ?_
        refine ih_ sh_ (k_ + 1) S_ hI_ hF_ ⟨?_, ?_, trivial⟩ ?_
        · omega
        · first | rfl | exact hS_
        · omega
      · have cx7_ : ¬ ((S_.2.2.1 105 0 (152 * a1_ + k_).toNat) = (S_.2.2.1 105 0 (152 * a2_ + k_).toNat)) := of_decide_eq_false cx7_
        refine sm_T_go 2 (c1 := (102, [some (.inr (.inr (some (11, 0)))), some (.inl a1_), some (.inl a2_), some (.inl sh_), some (.inl k_), some (.inl (S_.2.2.1 105 0 (152 * a1_ + k_).toNat)), some (.inl (S_.2.2.1 105 0 (152 * a2_ + k_).toNat))], [.inl (S_.2.2.1 105 0 (152 * a2_ + k_).toNat), .inl (S_.2.2.1 105 0 (152 * a1_ + k_).toNat)], S_)) rfl ?_
        refine sm_T_br (a := 3) (z := 7) rfl (fun cx8_ => ?_) (fun cx8_ => ?_)
        · have cx8_ : (S_.2.2.1 105 0 (152 * a2_ + k_).toNat) ≤ (S_.2.2.1 105 0 (152 * a1_ + k_).toNat) := of_decide_eq_true cx8_
          refine sm_T_go 1 (c1 := (110, [some (.inr (.inr (some (11, 0)))), some (.inl a1_), some (.inl a2_), some (.inl sh_), some (.inl k_), some (.inl (S_.2.2.1 105 0 (152 * a1_ + k_).toNat)), some (.inl (S_.2.2.1 105 0 (152 * a2_ + k_).toNat))], [.inl 0], S_)) rfl ?_
          refine sm_T_rz rfl (by omega) ⟨_, _, rfl, (by first | rfl | exact hS_.symm), _, rfl, ?_⟩
          omega
        · have cx8_ : ¬ ((S_.2.2.1 105 0 (152 * a2_ + k_).toNat) ≤ (S_.2.2.1 105 0 (152 * a1_ + k_).toNat)) := of_decide_eq_false cx8_
          refine sm_T_go 2 (c1 := (110, [some (.inr (.inr (some (11, 0)))), some (.inl a1_), some (.inl a2_), some (.inl sh_), some (.inl k_), some (.inl (S_.2.2.1 105 0 (152 * a1_ + k_).toNat)), some (.inl (S_.2.2.1 105 0 (152 * a2_ + k_).toNat))], [.inl 1], S_)) rfl ?_
          refine sm_T_rz rfl (by omega) ⟨_, _, rfl, (by first | rfl | exact hS_.symm), _, rfl, ?_⟩
          omega
set_option maxHeartbeats 400000 in
theorem vc_204 {sc_ : Nat × (Nat → Int)} (a1_ : Int) (a2_ : Int) (S0_ : sm_S) (hI_ : gi S0_) (h1_ : 0 ≤ a1_ ∧ a1_ ≤ 40) (h2_ : 0 ≤ a2_ ∧ a2_ ≤ 40) : sm_T (mt_P sc_) 0 204 (0, [some (.inr (.inr (some (11, 0)))), some (.inl a1_), some (.inl a2_), none, none, none, none], [], S0_) (fun ro9_ => ∃ u_ S1_, ro9_ = (.inl u_, S1_, 0) ∧ vq_204 a1_ a2_ S0_ u_ S1_) := by
  have hF_ : ai_fr (sx_W vw_204) S0_ S0_ := ai_fr_rf
  refine sm_T_go 3 (c1 := (5, [some (.inr (.inr (some (11, 0)))), some (.inl a1_), some (.inl a2_), none, none, none, none], [.inl a1_, .inr (.inr (some (103, 0)))], S0_)) rfl ?_
  refine sm_T_iald (n := 41) rfl rfl (by omega) (by omega) ?_
  have bx1_ : (-2147483648) ≤ S0_.2.2.1 103 0 a1_.toNat ∧ S0_.2.2.1 103 0 a1_.toNat ≤ 2147483647 := hI_.2 103 0 _
  refine sm_T_go 3 (c1 := (11, [some (.inr (.inr (some (11, 0)))), some (.inl a1_), some (.inl a2_), none, none, none, none], [.inl a2_, .inr (.inr (some (103, 0))), .inl (S0_.2.2.1 103 0 a1_.toNat)], S0_)) rfl ?_
  refine sm_T_iald (n := 41) rfl rfl (by omega) (by omega) ?_
  have bx2_ : (-2147483648) ≤ S0_.2.2.1 103 0 a2_.toNat ∧ S0_.2.2.1 103 0 a2_.toNat ≤ 2147483647 := hI_.2 103 0 _
  refine sm_T_br (a := 0) (z := 24) rfl (fun cx3_ => ?_) (fun cx3_ => ?_)
  · have cx3_ : (S0_.2.2.1 103 0 a1_.toNat) = (S0_.2.2.1 103 0 a2_.toNat) := of_decide_eq_true cx3_
    refine sm_T_go 3 (c1 := (41, [some (.inr (.inr (some (11, 0)))), some (.inl a1_), some (.inl a2_), none, none, none, none], [.inl a1_, .inr (.inr (some (104, 0)))], S0_)) rfl ?_
    refine sm_T_iald (n := 41) rfl rfl (by omega) (by omega) ?_
    have bx4_ : 0 ≤ S0_.2.2.1 104 0 a1_.toNat ∧ S0_.2.2.1 104 0 a1_.toNat ≤ 152 := hI_.2 104 0 _
    refine sm_T_go 3 (c1 := (47, [some (.inr (.inr (some (11, 0)))), some (.inl a1_), some (.inl a2_), none, none, none, none], [.inl a2_, .inr (.inr (some (104, 0))), .inl (S0_.2.2.1 104 0 a1_.toNat)], S0_)) rfl ?_
    refine sm_T_iald (n := 41) rfl rfl (by omega) (by omega) ?_
    have bx5_ : 0 ≤ S0_.2.2.1 104 0 a2_.toNat ∧ S0_.2.2.1 104 0 a2_.toNat ≤ 152 := hI_.2 104 0 _
    refine sm_T_nt (u := some (.inl (sm_mn (S0_.2.2.1 104 0 a1_.toNat) (S0_.2.2.1 104 0 a2_.toNat)))) (S1 := S0_) rfl rfl rfl ?_
    have bx6_ := sm_mn_d (S0_.2.2.1 104 0 a1_.toNat) (S0_.2.2.1 104 0 a2_.toNat)
    refine sm_T_go 3 (c1 := (55, [some (.inr (.inr (some (11, 0)))), some (.inl a1_), some (.inl a2_), some (.inl (sm_mn (S0_.2.2.1 104 0 a1_.toNat) (S0_.2.2.1 104 0 a2_.toNat))), some (.inl 0), none, none], [], S0_)) rfl ?_
    refine (vl_204 a1_ a2_ S0_ h1_ h2_ _) (sm_mn (S0_.2.2.1 104 0 a1_.toNat) (S0_.2.2.1 104 0 a2_.toNat)) 0 S0_ hI_ hF_ ⟨?_, ?_, trivial⟩ (Nat.lt_succ_self _)
    · omega
    · first | rfl | exact hS_
  · have cx3_ : ¬ ((S0_.2.2.1 103 0 a1_.toNat) = (S0_.2.2.1 103 0 a2_.toNat)) := of_decide_eq_false cx3_
    refine sm_T_go 3 (c1 := (20, [some (.inr (.inr (some (11, 0)))), some (.inl a1_), some (.inl a2_), none, none, none, none], [.inl a1_, .inr (.inr (some (103, 0)))], S0_)) rfl ?_
    refine sm_T_iald (n := 41) rfl rfl (by omega) (by omega) ?_
    refine sm_T_go 3 (c1 := (26, [some (.inr (.inr (some (11, 0)))), some (.inl a1_), some (.inl a2_), none, none, none, none], [.inl a2_, .inr (.inr (some (103, 0))), .inl (S0_.2.2.1 103 0 a1_.toNat)], S0_)) rfl ?_
    refine sm_T_iald (n := 41) rfl rfl (by omega) (by omega) ?_
    refine sm_T_br (a := 5) (z := 7) rfl (fun cx7_ => ?_) (fun cx7_ => ?_)
    · have cx7_ : (S0_.2.2.1 103 0 a1_.toNat) ≤ (S0_.2.2.1 103 0 a2_.toNat) := of_decide_eq_true cx7_
      refine sm_T_go 1 (c1 := (35, [some (.inr (.inr (some (11, 0)))), some (.inl a1_), some (.inl a2_), none, none, none, none], [.inl 0], S0_)) rfl ?_
      refine sm_T_rz rfl (by omega) ⟨_, _, rfl, (by first | rfl | exact hS_.symm), _, rfl, ?_⟩
      omega
    · have cx7_ : ¬ ((S0_.2.2.1 103 0 a1_.toNat) ≤ (S0_.2.2.1 103 0 a2_.toNat)) := of_decide_eq_false cx7_
      refine sm_T_go 2 (c1 := (35, [some (.inr (.inr (some (11, 0)))), some (.inl a1_), some (.inl a2_), none, none, none, none], [.inl 1], S0_)) rfl ?_
      refine sm_T_rz rfl (by omega) ⟨_, _, rfl, (by first | rfl | exact hS_.symm), _, rfl, ?_⟩
      omega
