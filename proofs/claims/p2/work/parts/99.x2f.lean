/-! Reader.levelOf -/
def vw_146 : sx_Wl := ([], [], [])
def vq_146 (k_ : Int) (md_ : Bool) (o_ : List (Int × Nat)) (g_ : List Int) (c_ : List Int) (S0_ : sm_S) (u_ : Option sm_V) (S1_ : sm_S) : Prop := S0_ = S1_ ∧ ∃ v_ : Int, u_ = some (.inl v_) ∧ (v_ = p_lv md_ k_)
theorem vc_146 {sc_ : Nat × (Nat → Int)} (k_ : Int) (md_ : Bool) (o_ : List (Int × Nat)) (g_ : List Int) (c_ : List Int) (S0_ : sm_S) (hI_ : gi S0_) (hx_ : xs md_ o_ g_ c_ S0_) : sm_T (mt_P sc_) 0 146 (0, [some (.inr (.inr (some (7, 0)))), some (.inl k_)], [], S0_) (fun r_ => ∃ u_ S1_, r_ = (.inl u_, S1_, 0) ∧ vq_146 k_ md_ o_ g_ c_ S0_ u_ S1_) := by
  have hF_ : ai_fr (sx_W vw_146) S0_ S0_ := ai_fr_rf
  refine sm_T_go 1 (c1 := (1, [some (.inr (.inr (some (7, 0)))), some (.inl k_)], [.inl k_], S0_)) rfl ?_
  by_cases c1_ : k_ = 38
  · refine sm_T_sw (t := 56) rfl rfl (by rw [c1_]; rfl) ?_
    refine sm_T_go 1 (c1 := (57, [some (.inr (.inr (some (7, 0)))), some (.inl k_)], [.inl 3], S0_)) rfl ?_
    refine sm_T_ri rfl ⟨_, _, rfl, rfl, _, rfl, ?_⟩
    unfold p_lv
    rw [if_neg (by omega), if_neg (by omega), if_pos (by omega)]
  by_cases c2_ : k_ = 43
  · refine sm_T_sw (t := 71) rfl rfl (by rw [c2_]; rfl) ?_
    refine sm_T_go 1 (c1 := (72, [some (.inr (.inr (some (7, 0)))), some (.inl k_)], [.inr (.inr (some (7, 0)))], S0_)) rfl ?_
    cases q3_ : S0_.2.1 7 0 11 with
    | none =>
      refine sm_T_gr rfl rfl q3_ ?_
      have hmd_ : md_ = false := xs_n hx_ q3_
      refine sm_T_go 3 (c1 := (83, [some (.inr (.inr (some (7, 0)))), some (.inl k_)], [.inl 5], S0_)) rfl ?_
      refine sm_T_ri rfl ⟨_, _, rfl, rfl, _, rfl, ?_⟩
      unfold p_lv
      rw [if_neg (by omega), if_neg (by omega), if_neg (by omega)]
      first | (rw [if_pos hmd_]) | (rw [if_neg (by rw [hmd_]; decide), if_neg (by omega), if_pos (by omega)])
    | some j4_ =>
      refine sm_T_gr rfl rfl q3_ ?_
      have hmd_ : md_ = true := xs_s hx_ q3_
      refine sm_T_go 2 (c1 := (83, [some (.inr (.inr (some (7, 0)))), some (.inl k_)], [.inl 0], S0_)) rfl ?_
      refine sm_T_ri rfl ⟨_, _, rfl, rfl, _, rfl, ?_⟩
      unfold p_lv
      rw [if_neg (by omega), if_neg (by omega), if_neg (by omega)]
      first | (rw [if_pos hmd_]) | (rw [if_neg (by rw [hmd_]; decide), if_neg (by omega), if_pos (by omega)])
  by_cases c5_ : k_ = 94
  · refine sm_T_sw (t := 54) rfl rfl (by rw [c5_]; rfl) ?_
    refine sm_T_go 1 (c1 := (55, [some (.inr (.inr (some (7, 0)))), some (.inl k_)], [.inl 2], S0_)) rfl ?_
    refine sm_T_ri rfl ⟨_, _, rfl, rfl, _, rfl, ?_⟩
    unfold p_lv
    rw [if_neg (by omega), if_pos (by omega)]
  by_cases c6_ : k_ = 124
  · refine sm_T_sw (t := 52) rfl rfl (by rw [c6_]; rfl) ?_
    refine sm_T_go 1 (c1 := (53, [some (.inr (.inr (some (7, 0)))), some (.inl k_)], [.inl 1], S0_)) rfl ?_
    refine sm_T_ri rfl ⟨_, _, rfl, rfl, _, rfl, ?_⟩
    unfold p_lv
    rw [if_pos (by omega)]
  by_cases c7_ : k_ = 257
  · refine sm_T_sw (t := 58) rfl rfl (by rw [c7_]; rfl) ?_
    refine sm_T_go 1 (c1 := (59, [some (.inr (.inr (some (7, 0)))), some (.inl k_)], [.inr (.inr (some (7, 0)))], S0_)) rfl ?_
    cases q8_ : S0_.2.1 7 0 11 with
    | none =>
      refine sm_T_gr rfl rfl q8_ ?_
      have hmd_ : md_ = false := xs_n hx_ q8_
      refine sm_T_go 3 (c1 := (70, [some (.inr (.inr (some (7, 0)))), some (.inl k_)], [.inl 4], S0_)) rfl ?_
      refine sm_T_ri rfl ⟨_, _, rfl, rfl, _, rfl, ?_⟩
      unfold p_lv
      rw [if_neg (by omega), if_neg (by omega), if_neg (by omega)]
      first | (rw [if_pos hmd_]) | (rw [if_neg (by rw [hmd_]; decide), if_pos (by omega)])
    | some j9_ =>
      refine sm_T_gr rfl rfl q8_ ?_
      have hmd_ : md_ = true := xs_s hx_ q8_
      refine sm_T_go 2 (c1 := (70, [some (.inr (.inr (some (7, 0)))), some (.inl k_)], [.inl 0], S0_)) rfl ?_
      refine sm_T_ri rfl ⟨_, _, rfl, rfl, _, rfl, ?_⟩
      unfold p_lv
      rw [if_neg (by omega), if_neg (by omega), if_neg (by omega)]
      first | (rw [if_pos hmd_]) | (rw [if_neg (by rw [hmd_]; decide), if_pos (by omega)])
  refine sm_T_sw (t := 84) rfl rfl (by exact sm_swb [0, 5, 56, 86, 219] (by decide +kernel) (by intro k_ hk_; simp only [List.mem_cons, List.not_mem_nil, or_false] at hk_; omega)) ?_
  refine sm_T_go 1 (c1 := (85, [some (.inr (.inr (some (7, 0)))), some (.inl k_)], [.inl 0], S0_)) rfl ?_
  refine sm_T_ri rfl ⟨_, _, rfl, rfl, _, rfl, ?_⟩
  unfold p_lv
  rw [if_neg (by omega), if_neg (by omega), if_neg (by omega), if_neg (c := k_ = 257) (by omega), if_neg (c := k_ = 43) (by omega)]
  split <;> rfl
