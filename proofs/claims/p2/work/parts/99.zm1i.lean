/-! Times.valueAt -/
def vw_209 : sx_Wl := ([], [], [])
def vq_209 (a1_ : Int) (a2_ : Int) (S0_ : sm_S) (u_ : Option sm_V) (S1_ : sm_S) : Prop := S0_ = S1_ ∧ ∃ v_ : Int, u_ = some (.inl v_) ∧ (True)
set_option maxHeartbeats 400000 in
theorem vl_209 {sc_ : Nat × (Nat → Int)} (a1_ : Int) (a2_ : Int) (S0_ : sm_S) (h1_ : 0 ≤ a1_ ∧ a1_ ≤ 161) : ∀ nn_ : Nat, (∀ (vl_ : Int) (k_ : Int) (S_ : sm_S), gi S_ → ai_fr (sx_W vw_209) S0_ S_ → ((0 ≤ k_ ∧ k_ ≤ 20000) ∧ (S_ = S0_) ∧ True) → ((30000 - k_).toNat) < nn_ → sm_T (mt_P sc_) 0 209 (15, [some (.inr (.inr (some (11, 0)))), some (.inl a1_), some (.inl a2_), some (.inl vl_), some (.inl k_)], [], S_) (fun ro9_ => ∃ u_ S1_, ro9_ = (.inl u_, S1_, 0) ∧ vq_209 a1_ a2_ S0_ u_ S1_)) := by
  intro nn_
  induction nn_ with
  | zero => exact fun _ _ _ _ _ _ h_ => absurd h_ (Nat.not_lt_zero _)
  | succ nn_ ih_ =>
    rintro vl_ k_ S_ hI_ hF_ ⟨h0_, hS_, -⟩ hm_
    refine sm_T_go 5 (c1 := (23, [some (.inr (.inr (some (11, 0)))), some (.inl a1_), some (.inl a2_), some (.inl vl_), some (.inl k_)], [.inl 1, .inl a1_, .inr (.inr (some (108, 0))), .inl k_], S_)) rfl ?_
    refine sm_T_bin (w := a1_ + 1) rfl (bi_add (by omega) (by omega) (by omega)) ?_ -- pc_ 23
    refine sm_T_iald (n := 163) rfl rfl (by omega) (by omega) ?_
    have bx1_ : 0 ≤ S_.2.2.1 108 0 (a1_ + 1).toNat ∧ S_.2.2.1 108 0 (a1_ + 1).toNat ≤ 20000 := hI_.2 108 0 _
    refine sm_T_br (a := 3) (z := 24) rfl (fun cx2_ => ?_) (fun cx2_ => ?_)
    · have cx2_ : (S_.2.2.1 108 0 (a1_ + 1).toNat) ≤ k_ := of_decide_eq_true cx2_
      refine sm_T_go 1 (c1 := (50, [some (.inr (.inr (some (11, 0)))), some (.inl a1_), some (.inl a2_), some (.inl vl_), some (.inl k_)], [.inl vl_], S_)) rfl ?_
      refine sm_T_ri rfl ⟨_, _, rfl, (by first | rfl | exact hS_.symm), _, rfl, ?_⟩
      trivial
    · have cx2_ : ¬ ((S_.2.2.1 108 0 (a1_ + 1).toNat) ≤ k_) := of_decide_eq_false cx2_
      refine sm_T_go 3 (c1 := (34, [some (.inr (.inr (some (11, 0)))), some (.inl a1_), some (.inl a2_), some (.inl vl_), some (.inl k_)], [.inl k_, .inr (.inr (some (109, 0)))], S_)) rfl ?_
      refine sm_T_iald (n := 20000) rfl rfl (by omega) (by omega) ?_
      have bx3_ : (-2147483648) ≤ S_.2.2.1 109 0 k_.toNat ∧ S_.2.2.1 109 0 k_.toNat ≤ 2147483647 := hI_.2 109 0 _
      refine sm_T_go 1 (c1 := (36, [some (.inr (.inr (some (11, 0)))), some (.inl a1_), some (.inl a2_), some (.inl vl_), some (.inl k_)], [.inl a2_, .inl (S_.2.2.1 109 0 k_.toNat)], S_)) rfl ?_
      refine sm_T_br (a := 4) (z := 13) rfl (fun cx4_ => ?_) (fun cx4_ => ?_)
      · have cx4_ : a2_ < (S_.2.2.1 109 0 k_.toNat) := of_decide_eq_true cx4_
        refine sm_T_go 1 (c1 := (50, [some (.inr (.inr (some (11, 0)))), some (.inl a1_), some (.inl a2_), some (.inl vl_), some (.inl k_)], [.inl vl_], S_)) rfl ?_
        refine sm_T_ri rfl ⟨_, _, rfl, (by first | rfl | exact hS_.symm), _, rfl, ?_⟩
        trivial
      · have cx4_ : ¬ (a2_ < (S_.2.2.1 109 0 k_.toNat)) := of_decide_eq_false cx4_
        refine sm_T_go 2 (c1 := (41, [some (.inr (.inr (some (11, 0)))), some (.inl a1_), some (.inl a2_), some (.inl vl_), some (.inl k_)], [.inl 1, .inl vl_], S_)) rfl ?_
        refine sm_T_bin (w := (i_xor vl_ 1)) rfl rfl ?_ -- pc_ 41
        refine sm_T_go 1 (c1 := (43, [some (.inr (.inr (some (11, 0)))), some (.inl a1_), some (.inl a2_), some (.inl (i_xor vl_ 1)), some (.inl k_)], [], S_)) rfl ?_
        refine sm_T_inc (a := 4) (z := 1) (v := k_) (w := k_ + 1) rfl rfl (by omega) (by omega) (by omega) ?_ -- pc_ 43
        refine sm_T_go 1 (c1 := (15, [some (.inr (.inr (some (11, 0)))), some (.inl a1_), some (.inl a2_), some (.inl (i_xor vl_ 1)), some (.inl (k_ + 1))], [], S_)) rfl ?_
        refine ih_ (i_xor vl_ 1) (k_ + 1) S_ hI_ hF_ ⟨?_, ?_, trivial⟩ ?_
        · omega
        · first | rfl | exact hS_
        · omega
set_option maxHeartbeats 400000 in
theorem vc_209 {sc_ : Nat × (Nat → Int)} (a1_ : Int) (a2_ : Int) (S0_ : sm_S) (hI_ : gi S0_) (h1_ : 0 ≤ a1_ ∧ a1_ ≤ 161) : sm_T (mt_P sc_) 0 209 (0, [some (.inr (.inr (some (11, 0)))), some (.inl a1_), some (.inl a2_), none, none], [], S0_) (fun ro9_ => ∃ u_ S1_, ro9_ = (.inl u_, S1_, 0) ∧ vq_209 a1_ a2_ S0_ u_ S1_) := by
  have hF_ : ai_fr (sx_W vw_209) S0_ S0_ := ai_fr_rf
  refine sm_T_go 3 (c1 := (5, [some (.inr (.inr (some (11, 0)))), some (.inl a1_), some (.inl a2_), none, none], [.inl a1_, .inr (.inr (some (107, 0)))], S0_)) rfl ?_
  refine sm_T_iald (n := 162) rfl rfl (by omega) (by omega) ?_
  have bx1_ : 0 ≤ S0_.2.2.1 107 0 a1_.toNat ∧ S0_.2.2.1 107 0 a1_.toNat ≤ 1 := hI_.2 107 0 _
  refine sm_T_go 4 (c1 := (12, [some (.inr (.inr (some (11, 0)))), some (.inl a1_), some (.inl a2_), some (.inl (S0_.2.2.1 107 0 a1_.toNat)), none], [.inl a1_, .inr (.inr (some (108, 0)))], S0_)) rfl ?_
  refine sm_T_iald (n := 163) rfl rfl (by omega) (by omega) ?_
  have bx2_ : 0 ≤ S0_.2.2.1 108 0 a1_.toNat ∧ S0_.2.2.1 108 0 a1_.toNat ≤ 20000 := hI_.2 108 0 _
  refine sm_T_go 1 (c1 := (15, [some (.inr (.inr (some (11, 0)))), some (.inl a1_), some (.inl a2_), some (.inl (S0_.2.2.1 107 0 a1_.toNat)), some (.inl (S0_.2.2.1 108 0 a1_.toNat))], [], S0_)) rfl ?_
  refine (vl_209 a1_ a2_ S0_ h1_ _) (S0_.2.2.1 107 0 a1_.toNat) (S0_.2.2.1 108 0 a1_.toNat) S0_ hI_ hF_ ⟨?_, ?_, trivial⟩ (Nat.lt_succ_self _)
  · omega
  · first | rfl | exact hS_
