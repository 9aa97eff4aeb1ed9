/-! chips played; the class: words; written by wip/p55/gen/vg -/

/-! a_ gate's table asked -/
def tbt (T_ : Int) (x_ y_ z_ : Bool) : Bool := Nat.testBit T_.toNat ((if x_ = true then 1 else 0) + (if y_ = true then 2 else 0) + (if z_ = true then 4 else 0))
theorem lbt_4 {x_ y_ : Int} {i_ : Nat} : lbt (l_4 x_ y_) i_ = (lbt x_ i_ || lbt y_ i_) := by
  unfold lbt l_4
  rw [Int64.ofInt_toInt, Int64.toBitVec_or, BitVec.getLsbD_or]
theorem lbt_n {x_ : Int} {i_ : Nat} (hi_ : i_ < 64) : lbt (l_5 x_ (-1)) i_ = !(lbt x_ i_) := by
  rw [lbt_5, lbt_m hi_, Bool.xor_true]
theorem i_and2 {a_ : Int} (h_ : 0 ≤ a_ ∧ a_ ≤ 255) : i_and a_ 2 = 2 * (a_ / 2 % 2) := by
  have k_ : ∀ j_ : Fin 256, i_and ((j_.val : Nat) : Int) 2 = 2 * (((j_.val : Nat) : Int) / 2 % 2) := by decide +kernel
  obtain ⟨u_, rfl⟩ : ∃ u_ : Nat, a_ = (u_ : Int) := ⟨a_.toNat, by omega⟩
  exact k_ ⟨u_, by omega⟩
theorem tbt_1 {T_ : Int} {x_ : Bool} (h_ : 0 ≤ T_ ∧ T_ ≤ 255) : tbt T_ x_ false false = if x_ = true then decide (T_ / 2 % 2 = 1) else decide (T_ % 2 = 1) := by
  obtain ⟨u_, rfl⟩ : ∃ u_ : Nat, T_ = (u_ : Int) := ⟨T_.toNat, by omega⟩
  unfold tbt
  rw [Int.toNat_natCast, Nat.testBit_eq_decide_div_mod_eq]
  cases x_
  · rw [if_neg (by decide)]
    show decide (u_ / 2 ^ 0 % 2 = 1) = decide ((u_ : Int) % 2 = 1)
    rw [Nat.pow_zero, Nat.div_one]
    exact decide_eq_decide.mpr (by omega)
  · rw [if_pos rfl]
    show decide (u_ / 2 ^ 1 % 2 = 1) = decide ((u_ : Int) / 2 % 2 = 1)
    exact decide_eq_decide.mpr (by omega)
theorem tbt_4 {T_ : Int} {x_ : Bool} (h_ : 0 ≤ T_ ∧ T_ ≤ 255) : tbt (T_ / 4) x_ false false = tbt T_ x_ true false := by
  obtain ⟨u_, rfl⟩ : ∃ u_ : Nat, T_ = (u_ : Int) := ⟨T_.toNat, by omega⟩
  unfold tbt
  rw [Int.toNat_natCast, show ((u_ : Int) / 4).toNat = u_ / 4 by omega, Nat.testBit_eq_decide_div_mod_eq, Nat.testBit_eq_decide_div_mod_eq]
  cases x_
  · show decide (u_ / 4 / 2 ^ 0 % 2 = 1) = decide (u_ / 2 ^ 2 % 2 = 1)
    exact decide_eq_decide.mpr (by omega)
  · show decide (u_ / 4 / 2 ^ 1 % 2 = 1) = decide (u_ / 2 ^ 3 % 2 = 1)
    exact decide_eq_decide.mpr (by omega)
theorem tbt_8 {T_ : Int} {x_ y_ : Bool} (h_ : 0 ≤ T_ ∧ T_ ≤ 255) : tbt (T_ / 16) x_ y_ false = tbt T_ x_ y_ true := by
  obtain ⟨u_, rfl⟩ : ∃ u_ : Nat, T_ = (u_ : Int) := ⟨T_.toNat, by omega⟩
  unfold tbt
  rw [Int.toNat_natCast, show ((u_ : Int) / 16).toNat = u_ / 16 by omega, Nat.testBit_eq_decide_div_mod_eq, Nat.testBit_eq_decide_div_mod_eq]
  cases x_ <;> cases y_
  · show decide (u_ / 16 / 2 ^ 0 % 2 = 1) = decide (u_ / 2 ^ 4 % 2 = 1)
    exact decide_eq_decide.mpr (by omega)
  · show decide (u_ / 16 / 2 ^ 2 % 2 = 1) = decide (u_ / 2 ^ 6 % 2 = 1)
    exact decide_eq_decide.mpr (by omega)
  · show decide (u_ / 16 / 2 ^ 1 % 2 = 1) = decide (u_ / 2 ^ 5 % 2 = 1)
    exact decide_eq_decide.mpr (by omega)
  · show decide (u_ / 16 / 2 ^ 3 % 2 = 1) = decide (u_ / 2 ^ 7 % 2 = 1)
    exact decide_eq_decide.mpr (by omega)
/-- what a_ gate tells -/
def gvl (v_ : Nat → Bool) (T_ m_ : Int) (a_ : Nat → Int) : Bool := tbt T_ (v_ (a_ 0).toNat) (decide (2 ≤ m_) && v_ (a_ 1).toNat) (decide (3 ≤ m_) && v_ (a_ 2).toNat)
/-- its_ inputs stand before it_ -/
def gio (F_ g_ : Nat) (m_ : Int) (a_ : Nat → Int) : Prop := 1 ≤ m_ ∧ (0 ≤ a_ 0 ∧ a_ 0 < (F_ : Int) + (g_ : Int)) ∧ (2 ≤ m_ → 0 ≤ a_ 1 ∧ a_ 1 < (F_ : Int) + (g_ : Int)) ∧ (3 ≤ m_ → 0 ≤ a_ 2 ∧ a_ 2 < (F_ : Int) + (g_ : Int))
/-- the_ nets of_ a_ chip at a_ pattern -/
def cvq (F_ G_ : Nat) (T_ m_ : Nat → Int) (a_ : Nat → Nat → Int) (q_ : Nat) (v_ : Nat → Bool) : Prop := (∀ n_, n_ < F_ → v_ n_ = Nat.testBit q_ n_) ∧ ∀ g_, g_ < G_ → gio F_ g_ (m_ g_) (a_ g_) → v_ (F_ + g_) = gvl v_ (T_ g_) (m_ g_) (a_ g_)
theorem gvl_cg {v_ u_ : Nat → Bool} {T_ m_ : Int} {a_ : Nat → Int} {F_ g_ : Nat} (h_ : gio F_ g_ m_ a_) (e_ : ∀ n_, n_ < F_ + g_ → v_ n_ = u_ n_) : gvl v_ T_ m_ a_ = gvl u_ T_ m_ a_ := by
  obtain ⟨-, h0_, h1_, h2_⟩ := h_
  unfold gvl
  have e0_ : v_ (a_ 0).toNat = u_ (a_ 0).toNat := e_ _ (by omega)
  have e1_ : (decide (2 ≤ m_) && v_ (a_ 1).toNat) = (decide (2 ≤ m_) && u_ (a_ 1).toNat) := by
    by_cases c_ : 2 ≤ m_
    · have := h1_ c_
      rw [e_ (a_ 1).toNat (by omega)]
    · rw [decide_eq_false c_, Bool.false_and, Bool.false_and]
  have e2_ : (decide (3 ≤ m_) && v_ (a_ 2).toNat) = (decide (3 ≤ m_) && u_ (a_ 2).toNat) := by
    by_cases c_ : 3 ≤ m_
    · have := h2_ c_
      rw [e_ (a_ 2).toNat (by omega)]
    · rw [decide_eq_false c_, Bool.false_and, Bool.false_and]
  rw [e0_, e1_, e2_]
theorem cvq_cg {F_ G_ q_ : Nat} {T_ m_ : Nat → Int} {a_ : Nat → Nat → Int} {v_ u_ : Nat → Bool} (h_ : cvq F_ G_ T_ m_ a_ q_ v_) (e_ : ∀ n_, n_ < F_ + G_ → u_ n_ = v_ n_) : cvq F_ G_ T_ m_ a_ q_ u_ := by
  refine ⟨fun n_ hn_ => (e_ n_ (by omega)).trans (h_.1 n_ hn_), fun g_ hg_ o_ => ?_⟩
  rw [e_ (F_ + g_) (by omega), h_.2 g_ hg_ o_]
  exact gvl_cg o_ (fun n_ hn_ => (e_ n_ (by omega)).symm)
theorem cvq_s {F_ G_ q_ : Nat} {T_ m_ : Nat → Int} {a_ : Nat → Nat → Int} {v_ : Nat → Bool} (h_ : cvq F_ G_ T_ m_ a_ q_ v_) (e_ : gio F_ G_ (m_ G_) (a_ G_) → v_ (F_ + G_) = gvl v_ (T_ G_) (m_ G_) (a_ G_)) : cvq F_ (G_ + 1) T_ m_ a_ q_ v_ := by
  refine ⟨h_.1, fun g_ hg_ o_ => ?_⟩
  by_cases c_ : g_ = G_
  · subst c_
    exact e_ o_
  · exact h_.2 g_ (by omega) o_
theorem cvq_u {F_ G_ q_ : Nat} {T_ m_ T'_ m'_ : Nat → Int} {a_ a'_ : Nat → Nat → Int} {v_ u_ : Nat → Bool} (o_ : ∀ g_, g_ < G_ → gio F_ g_ (m_ g_) (a_ g_)) (eT_ : ∀ g_, g_ < G_ → T'_ g_ = T_ g_ ∧ m'_ g_ = m_ g_ ∧ a'_ g_ 0 = a_ g_ 0 ∧ (2 ≤ m_ g_ → a'_ g_ 1 = a_ g_ 1) ∧ (3 ≤ m_ g_ → a'_ g_ 2 = a_ g_ 2)) (h_ : cvq F_ G_ T_ m_ a_ q_ v_) (h'_ : cvq F_ G_ T'_ m'_ a'_ q_ u_) : ∀ (k_ n_ : Nat), n_ < k_ → n_ < F_ + G_ → v_ n_ = u_ n_
  | 0, n_, hk_, _ => absurd hk_ (Nat.not_lt_zero _)
  | k_ + 1, n_, hk_, hn_ => by
    by_cases c_ : n_ < F_
    · rw [h_.1 n_ c_, h'_.1 n_ c_]
    · obtain ⟨g_, rfl⟩ : ∃ g_, n_ = F_ + g_ := ⟨n_ - F_, by omega⟩
      have og_ := o_ g_ (by omega)
      obtain ⟨t1_, t2_, t3_, t4_, t5_⟩ := eT_ g_ (by omega)
      have og'_ : gio F_ g_ (m'_ g_) (a'_ g_) := by
        unfold gio at og_ ⊢
        rw [t2_, t3_]
        refine ⟨og_.1, og_.2.1, fun z_ => ?_, fun z_ => ?_⟩
        · rw [t4_ z_]
          exact og_.2.2.1 z_
        · rw [t5_ z_]
          exact og_.2.2.2 z_
      have eg_ : gvl u_ (T'_ g_) (m'_ g_) (a'_ g_) = gvl u_ (T_ g_) (m_ g_) (a_ g_) := by
        unfold gvl
        rw [t1_, t2_, t3_]
        by_cases z2_ : 2 ≤ m_ g_
        · rw [t4_ z2_]
          by_cases z3_ : 3 ≤ m_ g_
          · rw [t5_ z3_]
          · rw [decide_eq_false z3_, Bool.false_and, Bool.false_and]
        · rw [decide_eq_false z2_, decide_eq_false (show ¬ 3 ≤ m_ g_ by omega), Bool.false_and, Bool.false_and, Bool.false_and, Bool.false_and]
      rw [h_.2 g_ (by omega) og_, h'_.2 g_ (by omega) og'_, eg_]
      exact gvl_cg og_ (fun n_ hn_ => cvq_u o_ eT_ h_ h'_ k_ n_ (by omega) (by omega))
/-- what an_ end tells -/
def nev (v_ : Nat → Bool) (n_ : Int) : Bool := if n_ = -1 then false else if n_ = -2 then true else v_ n_.toNat
/-! the_ class -/
def kcT (cc_ : Nat) (S_ : sm_S) (g_ : Nat) : Int := S_.2.2.1 56 (0 + (3 + cc_)) (S_.2.2.1 35 (0 + cc_) g_).toNat
def kcN (cc_ : Nat) (S_ : sm_S) (g_ : Nat) : Int := S_.2.2.1 55 (0 + (3 + cc_)) (S_.2.2.1 35 (0 + cc_) g_).toNat
def kcA (cc_ : Nat) (S_ : sm_S) (g_ k_ : Nat) : Int := S_.2.2.1 36 (0 + cc_) (3 * g_ + k_)
/-- nothing is_ touched -/
def tch0 (S_ : sm_S) : Prop := ∀ n_ : Nat, n_ < 162 → S_.2.2.1 94 0 n_ = 0
/-- a_ word of_ a_ gate's input -/
def kcW (cc_ : Nat) (S_ : sm_S) (g_ k_ : Nat) (w_ : Nat) : Int := S_.2.2.2 92 0 (64 * (kcA cc_ S_ g_ k_).toNat + w_)
/-! Tester.oneInput -/
def vw_170n : sx_Wl := ([], [], [])
def vq_170n (a0_ : Int) (y1_ : Int) (S0_ : sm_S) (u_ : Option sm_V) (S1_ : sm_S) : Prop := S0_ = S1_ ∧ ∃ v_ : Int, u_ = some (.inr (.inl v_)) ∧ (∀ i9_ : Nat, i9_ < 64 → lbt v_ i9_ = tbt a0_ (lbt y1_ i9_) false false)
set_option maxHeartbeats 400000 in
theorem vc_170n {sc_ : Nat × (Nat → Int)} (a0_ : Int) (y1_ : Int) (S0_ : sm_S) (hI_ : gi S0_) (h0_ : 0 ≤ a0_ ∧ a0_ ≤ 255) : sm_T (mt_P sc_) 0 170 (0, [some (.inl a0_), some (.inr (.inl y1_)), none], [], S0_) (fun ro9_ => ∃ u_ S1_, ro9_ = (.inl u_, S1_, 0) ∧ vq_170n a0_ y1_ S0_ u_ S1_) := by
  have hF_ : ai_fr (sx_W vw_170n) S0_ S0_ := ai_fr_rf
  refine sm_T_go 2 (c1 := (2, [some (.inl a0_), some (.inr (.inl y1_)), none], [.inl 1, .inl a0_], S0_)) rfl ?_
  refine sm_T_bin (w := (a0_ % 2)) rfl (bi_msk (k := 1) (by decide)) ?_ -- pc_ 2
  refine sm_T_b0 (a := 1) (z := 7) rfl (fun cx1_ => ?_) (fun cx1_ => ?_)
  · have cx1_ : (a0_ % 2) ≠ 0 := of_decide_eq_true cx1_
    refine sm_T_go 1 (c1 := (11, [some (.inl a0_), some (.inr (.inl y1_)), none], [.inr (.inl y1_)], S0_)) rfl ?_
    refine sm_T_nt (u := some (.inr (.inl (-1)))) (S1 := S0_) rfl rfl rfl ?_
    refine sm_T_go 3 (c1 := (17, [some (.inl a0_), some (.inr (.inl y1_)), none], [.inl 2, .inl a0_, .inr (.inl (l_5 y1_ (-1)))], S0_)) rfl ?_
    refine sm_T_bin (w := (i_and a0_ 2)) rfl rfl ?_ -- pc_ 17
    first | have bx2_ := i_and_p (x_ := a0_) (y_ := 2) (by omega) (by omega) | have bx2_ := i_and_y a0_ (y_ := 2) (by omega) | have bx2_ := i_and_x (x_ := a0_) 2 (by omega) | have bx2_ := i_and_n a0_ 2
    refine sm_T_b0 (a := 1) (z := 7) rfl (fun cx3_ => ?_) (fun cx3_ => ?_)
    · have cx3_ : (i_and a0_ 2) ≠ 0 := of_decide_eq_true cx3_
      refine sm_T_go 2 (c1 := (27, [some (.inl a0_), some (.inr (.inl y1_)), none], [.inr (.inl (l_4 ((l_5 y1_ (-1))) y1_))], S0_)) rfl ?_
      refine sm_T_rl rfl ⟨_, _, rfl, rfl, _, rfl, ?_⟩
      intro i9_ hi9_
      have n9_ := i_and2 (a_ := a0_) h0_
      rw [tbt_1 h0_, lbt_4]
      try rw [lbt_n hi9_]
      try rw [lbt_0]
      cases lbt y1_ i9_ <;> first | (rw [if_pos rfl, decide_eq_true (by omega)]; rfl) | (rw [if_pos rfl, decide_eq_false (by omega)]; rfl) | (rw [if_neg (by decide), decide_eq_true (by omega)]; rfl) | (rw [if_neg (by decide), decide_eq_false (by omega)]; rfl)
    · have cx3_ : ¬ ((i_and a0_ 2) ≠ 0) := of_decide_eq_false cx3_
      refine sm_T_go 3 (c1 := (27, [some (.inl a0_), some (.inr (.inl y1_)), none], [.inr (.inl (l_4 ((l_5 y1_ (-1))) 0))], S0_)) rfl ?_
      refine sm_T_rl rfl ⟨_, _, rfl, rfl, _, rfl, ?_⟩
      intro i9_ hi9_
      have n9_ := i_and2 (a_ := a0_) h0_
      rw [tbt_1 h0_, lbt_4]
      try rw [lbt_n hi9_]
      try rw [lbt_0]
      cases lbt y1_ i9_ <;> first | (rw [if_pos rfl, decide_eq_true (by omega)]; rfl) | (rw [if_pos rfl, decide_eq_false (by omega)]; rfl) | (rw [if_neg (by decide), decide_eq_true (by omega)]; rfl) | (rw [if_neg (by decide), decide_eq_false (by omega)]; rfl)
  · have cx1_ : ¬ ((a0_ % 2) ≠ 0) := of_decide_eq_false cx1_
    refine sm_T_go 4 (c1 := (17, [some (.inl a0_), some (.inr (.inl y1_)), none], [.inl 2, .inl a0_, .inr (.inl 0)], S0_)) rfl ?_
    refine sm_T_bin (w := (i_and a0_ 2)) rfl rfl ?_ -- pc_ 17
    first | have bx4_ := i_and_p (x_ := a0_) (y_ := 2) (by omega) (by omega) | have bx4_ := i_and_y a0_ (y_ := 2) (by omega) | have bx4_ := i_and_x (x_ := a0_) 2 (by omega) | have bx4_ := i_and_n a0_ 2
    refine sm_T_b0 (a := 1) (z := 7) rfl (fun cx5_ => ?_) (fun cx5_ => ?_)
    · have cx5_ : (i_and a0_ 2) ≠ 0 := of_decide_eq_true cx5_
      refine sm_T_go 2 (c1 := (27, [some (.inl a0_), some (.inr (.inl y1_)), none], [.inr (.inl (l_4 0 y1_))], S0_)) rfl ?_
      refine sm_T_rl rfl ⟨_, _, rfl, rfl, _, rfl, ?_⟩
      intro i9_ hi9_
      have n9_ := i_and2 (a_ := a0_) h0_
      rw [tbt_1 h0_, lbt_4]
      try rw [lbt_n hi9_]
      try rw [lbt_0]
      cases lbt y1_ i9_ <;> first | (rw [if_pos rfl, decide_eq_true (by omega)]; rfl) | (rw [if_pos rfl, decide_eq_false (by omega)]; rfl) | (rw [if_neg (by decide), decide_eq_true (by omega)]; rfl) | (rw [if_neg (by decide), decide_eq_false (by omega)]; rfl)
    · have cx5_ : ¬ ((i_and a0_ 2) ≠ 0) := of_decide_eq_false cx5_
      refine sm_T_go 3 (c1 := (27, [some (.inl a0_), some (.inr (.inl y1_)), none], [.inr (.inl (l_4 0 0))], S0_)) rfl ?_
      refine sm_T_rl rfl ⟨_, _, rfl, rfl, _, rfl, ?_⟩
      intro i9_ hi9_
      have n9_ := i_and2 (a_ := a0_) h0_
      rw [tbt_1 h0_, lbt_4]
      try rw [lbt_n hi9_]
      try rw [lbt_0]
      cases lbt y1_ i9_ <;> first | (rw [if_pos rfl, decide_eq_true (by omega)]; rfl) | (rw [if_pos rfl, decide_eq_false (by omega)]; rfl) | (rw [if_neg (by decide), decide_eq_true (by omega)]; rfl) | (rw [if_neg (by decide), decide_eq_false (by omega)]; rfl)
/-! Tester.twoInputs -/
def vw_171n : sx_Wl := ([], [], [])
def vq_171n (a0_ : Int) (y1_ : Int) (y3_ : Int) (S0_ : sm_S) (u_ : Option sm_V) (S1_ : sm_S) : Prop := S0_ = S1_ ∧ ∃ v_ : Int, u_ = some (.inr (.inl v_)) ∧ (∀ i9_ : Nat, i9_ < 64 → lbt v_ i9_ = tbt a0_ (lbt y1_ i9_) (lbt y3_ i9_) false)
set_option maxHeartbeats 400000 in
theorem vc_171n {sc_ : Nat × (Nat → Int)} (a0_ : Int) (y1_ : Int) (y3_ : Int) (S0_ : sm_S) (hI_ : gi S0_) (h0_ : 0 ≤ a0_ ∧ a0_ ≤ 255) : sm_T (mt_P sc_) 1 171 (0, [some (.inl a0_), some (.inr (.inl y1_)), none, some (.inr (.inl y3_)), none], [], S0_) (fun ro9_ => ∃ u_ S1_, ro9_ = (.inl u_, S1_, 0) ∧ vq_171n a0_ y1_ y3_ S0_ u_ S1_) := by
  have hF_ : ai_fr (sx_W vw_171n) S0_ S0_ := ai_fr_rf
  refine sm_T_go 1 (c1 := (1, [some (.inl a0_), some (.inr (.inl y1_)), none, some (.inr (.inl y3_)), none], [.inr (.inl y3_)], S0_)) rfl ?_
  refine sm_T_nt (u := some (.inr (.inl (-1)))) (S1 := S0_) rfl rfl rfl ?_
  refine sm_T_go 3 (c1 := (7, [some (.inl a0_), some (.inr (.inl y1_)), none, some (.inr (.inl y3_)), none], [.inr (.inl y1_), .inl a0_, .inr (.inl (l_5 y3_ (-1)))], S0_)) rfl ?_
  refine sm_T_cal (d1 := 0) (Q1 := vq_170n a0_ y1_ S0_) rfl rfl (by decide) (vc_170n a0_ y1_ S0_ hI_ (by omega)) (fun u_ Sx1_ px4_ => ?_)
  obtain ⟨rfl, vx6_, rfl, px4_⟩ := px4_
  have e7_ := px4_
  refine sm_T_go 4 (c1 := (14, [some (.inl a0_), some (.inr (.inl y1_)), none, some (.inr (.inl y3_)), none], [.inl 2, .inl a0_, .inr (.inl y3_), .inr (.inl (l_3 ((l_5 y3_ (-1))) vx6_))], S0_)) rfl ?_
  refine sm_T_bin (w := (a0_ / 4)) rfl (bi_shr (k := 2) (by decide) (by omega) (by omega)) ?_ -- pc_ 14
  refine sm_T_go 1 (c1 := (16, [some (.inl a0_), some (.inr (.inl y1_)), none, some (.inr (.inl y3_)), none], [.inr (.inl y1_), .inl (a0_ / 4), .inr (.inl y3_), .inr (.inl (l_3 ((l_5 y3_ (-1))) vx6_))], S0_)) rfl ?_
  refine sm_T_cal (d1 := 0) (Q1 := vq_170n (a0_ / 4) y1_ S0_) rfl rfl (by decide) (vc_170n (a0_ / 4) y1_ S0_ hI_ (by omega)) (fun u_ Sx7_ px10_ => ?_)
  obtain ⟨rfl, vx12_, rfl, px10_⟩ := px10_
  have e16_ := px10_
  refine sm_T_go 2 (c1 := (21, [some (.inl a0_), some (.inr (.inl y1_)), none, some (.inr (.inl y3_)), none], [.inr (.inl (l_4 ((l_3 ((l_5 y3_ (-1))) vx6_)) ((l_3 y3_ vx12_))))], S0_)) rfl ?_
  refine sm_T_rl rfl ⟨_, _, rfl, rfl, _, rfl, ?_⟩
  intro i9_ hi9_
  rw [lbt_4, lbt_3, lbt_3, lbt_n hi9_, e7_ i9_ hi9_, e16_ i9_ hi9_, tbt_4 h0_]
  cases lbt y3_ i9_ <;> simp
/-! Tester.inputWord -/
def vw_172n : sx_Wl := ([], [], [])
def vq_172n (a1_ : Int) (a2_ : Int) (a3_ : Int) (cc_ : Nat) (S0_ : sm_S) (u_ : Option sm_V) (S1_ : sm_S) : Prop := S0_ = S1_ ∧ ∃ v_ : Int, u_ = some (.inr (.inl v_)) ∧ (v_ = kcW cc_ S0_ a1_.toNat a2_.toNat a3_.toNat)
set_option maxHeartbeats 400000 in
theorem vc_172n {sc_ : Nat × (Nat → Int)} (a1_ : Int) (a2_ : Int) (a3_ : Int) (cc_ : Nat) (S0_ : sm_S) (hI_ : gi S0_) (hb_ : S0_.2.1 9 0 0 = some cc_) (h1_ : 0 ≤ a1_ ∧ a1_ ≤ 149) (h2_ : 0 ≤ a2_ ∧ a2_ ≤ 2) (h3_ : 0 ≤ a3_ ∧ a3_ ≤ 63) (ht_ : tch0 S0_) : sm_T (mt_P sc_) 0 172 (0, [some (.inr (.inr (some (9, 0)))), some (.inl a1_), some (.inl a2_), some (.inl a3_), none], [], S0_) (fun ro9_ => ∃ u_ S1_, ro9_ = (.inl u_, S1_, 0) ∧ vq_172n a1_ a2_ a3_ cc_ S0_ u_ S1_) := by
  have hF_ : ai_fr (sx_W vw_172n) S0_ S0_ := ai_fr_rf
  refine sm_T_go 1 (c1 := (1, [some (.inr (.inr (some (9, 0)))), some (.inl a1_), some (.inl a2_), some (.inl a3_), none], [.inr (.inr (some (9, 0)))], S0_)) rfl ?_
  refine sm_T_gr rfl rfl ((hF_.2.1 9 0 0 rfl).trans hb_) ?_
  refine sm_T_go 3 (c1 := (9, [some (.inr (.inr (some (9, 0)))), some (.inl a1_), some (.inl a2_), some (.inl a3_), none], [.inl a1_, .inl 3, .inr (.inr (some (36, (0 + cc_))))], S0_)) rfl ?_
  refine sm_T_bin (w := 3 * a1_) rfl (bi_mul (by omega) (by omega) (by omega)) ?_ -- pc_ 9
  refine sm_T_go 1 (c1 := (11, [some (.inr (.inr (some (9, 0)))), some (.inl a1_), some (.inl a2_), some (.inl a3_), none], [.inl a2_, .inl (3 * a1_), .inr (.inr (some (36, (0 + cc_))))], S0_)) rfl ?_
  refine sm_T_bin (w := 3 * a1_ + a2_) rfl (bi_add (by omega) (by omega) (by omega)) ?_ -- pc_ 11
  refine sm_T_iald (n := 450) rfl rfl (by omega) (by omega) ?_
  have bx1_ : 0 ≤ S0_.2.2.1 36 (0 + cc_) (3 * a1_ + a2_).toNat ∧ S0_.2.2.1 36 (0 + cc_) (3 * a1_ + a2_).toNat ≤ 161 := hI_.2 36 (0 + cc_) _
  refine sm_T_go 4 (c1 := (21, [some (.inr (.inr (some (9, 0)))), some (.inl a1_), some (.inl a2_), some (.inl a3_), some (.inl (S0_.2.2.1 36 (0 + cc_) (3 * a1_ + a2_).toNat))], [.inl (S0_.2.2.1 36 (0 + cc_) (3 * a1_ + a2_).toNat), .inr (.inr (some (94, 0)))], S0_)) rfl ?_
  refine sm_T_iald (n := 162) rfl rfl (by omega) (by omega) ?_
  have bx2_ : 0 ≤ S0_.2.2.1 94 0 (S0_.2.2.1 36 (0 + cc_) (3 * a1_ + a2_).toNat).toNat ∧ S0_.2.2.1 94 0 (S0_.2.2.1 36 (0 + cc_) (3 * a1_ + a2_).toNat).toNat ≤ 1 := hI_.2 94 0 _
  refine sm_T_b0 (a := 0) (z := 18) rfl (fun cx3_ => ?_) (fun cx3_ => ?_)
  · have cx3_ : (S0_.2.2.1 94 0 (S0_.2.2.1 36 (0 + cc_) (3 * a1_ + a2_).toNat).toNat) = 0 := of_decide_eq_true cx3_
    refine sm_T_go 4 (c1 := (48, [some (.inr (.inr (some (9, 0)))), some (.inl a1_), some (.inl a2_), some (.inl a3_), some (.inl (S0_.2.2.1 36 (0 + cc_) (3 * a1_ + a2_).toNat))], [.inl 64, .inl (S0_.2.2.1 36 (0 + cc_) (3 * a1_ + a2_).toNat), .inr (.inr (some (92, 0)))], S0_)) rfl ?_
    refine sm_T_bin (w := 64 * (S0_.2.2.1 36 (0 + cc_) (3 * a1_ + a2_).toNat)) rfl (bi_mul (by omega) (by omega) (by omega)) ?_ -- pc_ 48
    refine sm_T_go 1 (c1 := (50, [some (.inr (.inr (some (9, 0)))), some (.inl a1_), some (.inl a2_), some (.inl a3_), some (.inl (S0_.2.2.1 36 (0 + cc_) (3 * a1_ + a2_).toNat))], [.inl a3_, .inl (64 * (S0_.2.2.1 36 (0 + cc_) (3 * a1_ + a2_).toNat)), .inr (.inr (some (92, 0)))], S0_)) rfl ?_
    refine sm_T_bin (w := 64 * (S0_.2.2.1 36 (0 + cc_) (3 * a1_ + a2_).toNat) + a3_) rfl (bi_add (by omega) (by omega) (by omega)) ?_ -- pc_ 50
    refine sm_T_lald (n := 10368) rfl rfl (by omega) (by omega) ?_
    refine sm_T_rl rfl ⟨_, _, rfl, rfl, _, rfl, ?_⟩
    first | exact absurd (ht_ (S0_.2.2.1 36 (0 + cc_) (3 * a1_ + a2_).toNat).toNat (by omega)) (by assumption) | (unfold kcW kcA; rw [show 3 * a1_.toNat + a2_.toNat = (3 * a1_ + a2_).toNat by omega, show 64 * (S0_.2.2.1 36 (0 + cc_) (3 * a1_ + a2_).toNat).toNat + a3_.toNat = (64 * (S0_.2.2.1 36 (0 + cc_) (3 * a1_ + a2_).toNat) + a3_).toNat by omega])
  · have cx3_ : ¬ ((S0_.2.2.1 94 0 (S0_.2.2.1 36 (0 + cc_) (3 * a1_ + a2_).toNat).toNat) = 0) := of_decide_eq_false cx3_
    refine sm_T_go 4 (c1 := (33, [some (.inr (.inr (some (9, 0)))), some (.inl a1_), some (.inl a2_), some (.inl a3_), some (.inl (S0_.2.2.1 36 (0 + cc_) (3 * a1_ + a2_).toNat))], [.inl 64, .inl (S0_.2.2.1 36 (0 + cc_) (3 * a1_ + a2_).toNat), .inr (.inr (some (93, 0)))], S0_)) rfl ?_
    refine sm_T_bin (w := 64 * (S0_.2.2.1 36 (0 + cc_) (3 * a1_ + a2_).toNat)) rfl (bi_mul (by omega) (by omega) (by omega)) ?_ -- pc_ 33
    refine sm_T_go 1 (c1 := (35, [some (.inr (.inr (some (9, 0)))), some (.inl a1_), some (.inl a2_), some (.inl a3_), some (.inl (S0_.2.2.1 36 (0 + cc_) (3 * a1_ + a2_).toNat))], [.inl a3_, .inl (64 * (S0_.2.2.1 36 (0 + cc_) (3 * a1_ + a2_).toNat)), .inr (.inr (some (93, 0)))], S0_)) rfl ?_
    refine sm_T_bin (w := 64 * (S0_.2.2.1 36 (0 + cc_) (3 * a1_ + a2_).toNat) + a3_) rfl (bi_add (by omega) (by omega) (by omega)) ?_ -- pc_ 35
    refine sm_T_lald (n := 10368) rfl rfl (by omega) (by omega) ?_
    refine sm_T_go 1 (c1 := (52, [some (.inr (.inr (some (9, 0)))), some (.inl a1_), some (.inl a2_), some (.inl a3_), some (.inl (S0_.2.2.1 36 (0 + cc_) (3 * a1_ + a2_).toNat))], [.inr (.inl (S0_.2.2.2 93 0 (64 * (S0_.2.2.1 36 (0 + cc_) (3 * a1_ + a2_).toNat) + a3_).toNat))], S0_)) rfl ?_
    refine sm_T_rl rfl ⟨_, _, rfl, rfl, _, rfl, ?_⟩
    first | exact absurd (ht_ (S0_.2.2.1 36 (0 + cc_) (3 * a1_ + a2_).toNat).toNat (by omega)) (by assumption) | (unfold kcW kcA; rw [show 3 * a1_.toNat + a2_.toNat = (3 * a1_ + a2_).toNat by omega, show 64 * (S0_.2.2.1 36 (0 + cc_) (3 * a1_ + a2_).toNat).toNat + a3_.toNat = (64 * (S0_.2.2.1 36 (0 + cc_) (3 * a1_ + a2_).toNat) + a3_).toNat by omega])
