/-! the class: a gate under a fault; written by wip/p55/gen/vg -/

/-- a_ word of_ a_ net_ under the_ fault, so_ far_ -/
def kcF (S_ : sm_S) (n_ w_ : Nat) : Int := if S_.2.2.1 94 0 n_ ≠ 0 then S_.2.2.2 93 0 (64 * n_ + w_) else S_.2.2.2 92 0 (64 * n_ + w_)
def kcU (cc_ : Nat) (S_ : sm_S) (g_ k_ w_ : Nat) : Int := kcF S_ (kcA cc_ S_ g_ k_).toNat w_
theorem kcU_o {v_ : sx_Wl} {cc_ g_ k_ w_ F_ : Nat} {S0_ S_ : sm_S} (f_ : ai_fr (sx_W v_) S0_ S_) (ho_ : ∀ j_ : Nat, j_ < 64 * (F_ + g_) → S_.2.2.2 93 0 j_ = S0_.2.2.2 93 0 j_) (hA_ : 0 ≤ kcA cc_ S0_ g_ k_ ∧ kcA cc_ S0_ g_ k_ < (F_ : Int) + (g_ : Int)) (hw_ : w_ < 64) (h1_ : (sx_W v_).2.1 36 = false := by rfl) (h2_ : (sx_W v_).2.1 92 = false := by rfl) (h3_ : (sx_W v_).2.1 94 = false := by rfl) : kcU cc_ S_ g_ k_ w_ = kcU cc_ S0_ g_ k_ w_ := by
  have e_ : kcA cc_ S_ g_ k_ = kcA cc_ S0_ g_ k_ := by
    unfold kcA
    rw [fr_arr (t := 36) (i := 0 + cc_) f_ h1_]
  unfold kcU kcF
  rw [e_, fr_arr (t := 94) (i := 0) f_ h3_, fr_lon (t_ := 92) (i_ := 0) f_ h2_, ho_ _ (by omega)]
theorem gvf_w {cc_ g_ w_ i_ : Nat} {T_ m_ st_ y_ : Int} {S_ : sm_S} : tbt T_ (lbt (if st_ = 0 then y_ else kcU cc_ S_ g_ 0 w_) i_) (lbt (if m_ < 2 then 0 else if st_ = 1 then y_ else kcU cc_ S_ g_ 1 w_) i_) (lbt (if m_ < 3 then 0 else if st_ = 2 then y_ else kcU cc_ S_ g_ 2 w_) i_) = gvf (fun n_ => lbt (kcF S_ n_ w_) i_) T_ m_ (kcA cc_ S_ g_) st_ (lbt y_ i_) := by
  have q_ : ∀ k_ : Int, ∀ x_ : Int, lbt (if st_ = k_ then y_ else x_) i_ = if st_ = k_ then lbt y_ i_ else lbt x_ i_ := fun k_ x_ => by
    by_cases c_ : st_ = k_
    · rw [if_pos c_, if_pos c_]
    · rw [if_neg c_, if_neg c_]
  unfold gvf kcU
  rw [q_]
  by_cases c2_ : m_ < 2
  · rw [if_pos c2_, if_pos (show m_ < 3 by omega), lbt_0, decide_eq_false (show ¬ 2 ≤ m_ by omega), decide_eq_false (show ¬ 3 ≤ m_ by omega), Bool.false_and, Bool.false_and]
  · rw [if_neg c2_, q_, decide_eq_true (show 2 ≤ m_ by omega), Bool.true_and]
    by_cases c3_ : m_ < 3
    · rw [if_pos c3_, lbt_0, decide_eq_false (show ¬ 3 ≤ m_ by omega), Bool.false_and]
    · rw [if_neg c3_, q_, decide_eq_true (show 3 ≤ m_ by omega), Bool.true_and]
/-- what differs says -/
theorem dff_s {df_ u_ x_ m_ : Int} {i_ : Nat} (h_ : lbt (l_4 df_ (l_3 (l_5 u_ x_) m_)) i_ = false) : lbt df_ i_ = false ∧ (lbt m_ i_ = true → lbt u_ i_ = lbt x_ i_) := by
  rw [lbt_4, lbt_3, lbt_5] at h_
  revert h_
  cases lbt df_ i_ <;> cases lbt u_ i_ <;> cases lbt x_ i_ <;> cases lbt m_ i_ <;> decide
/-! Tester.inputWord -/
def vw_172f : sx_Wl := ([], [], [])
def vq_172f (a1_ : Int) (a2_ : Int) (a3_ : Int) (cc_ : Nat) (S0_ : sm_S) (u_ : Option sm_V) (S1_ : sm_S) : Prop := S0_ = S1_ ∧ ∃ v_ : Int, u_ = some (.inr (.inl v_)) ∧ (v_ = kcU cc_ S0_ a1_.toNat a2_.toNat a3_.toNat)
set_option maxHeartbeats 400000 in
theorem vc_172f {sc_ : Nat × (Nat → Int)} (a1_ : Int) (a2_ : Int) (a3_ : Int) (cc_ : Nat) (S0_ : sm_S) (hI_ : gi S0_) (hb_ : S0_.2.1 9 0 0 = some cc_) (h1_ : 0 ≤ a1_ ∧ a1_ ≤ 149) (h2_ : 0 ≤ a2_ ∧ a2_ ≤ 2) (h3_ : 0 ≤ a3_ ∧ a3_ ≤ 63) : sm_T (mt_P sc_) 0 172 (0, [some (.inr (.inr (some (9, 0)))), some (.inl a1_), some (.inl a2_), some (.inl a3_), none], [], S0_) (fun ro9_ => ∃ u_ S1_, ro9_ = (.inl u_, S1_, 0) ∧ vq_172f a1_ a2_ a3_ cc_ S0_ u_ S1_) := by
  have hF_ : ai_fr (sx_W vw_172f) S0_ S0_ := ai_fr_rf
  refine sm_T_go 1 (c1 := (1, [some (.inr (.inr (some (9, 0)))), some (.inl a1_), some (.inl a2_), some (.inl a3_), none], [.inr (.inr (some (9, 0)))], S0_)) rfl ?_
  refine sm_T_gr rfl rfl ((hF_.2.1 9 0 0 rfl).trans hb_) ?_
  refine sm_T_go 3 (c1 := (9, [some (.inr (.inr (some (9, 0)))), some (.inl a1_), some (.inl a2_), some (.inl a3_), none], [.inl a1_, .inl 3, .inr (.inr (some (36, (0 + cc_))))], S0_)) rfl ?_
  refine sm_T_bin (w := 3 * a1_) rfl (bi_mul (by omega) (by omega) (by omega)) ?_ -- pc_ 9
  refine sm_T_go 1 (c1 := (11, [some (.inr (.inr (some (9, 0)))), some (.inl a1_), some (.inl a2_), some (.inl a3_), none], [.inl a2_, .inl (3 * a1_), .inr (.inr (some (36, (0 + cc_))))], S0_)) rfl ?_
  refine sm_T_bin (w := 3 * a1_ + a2_) rfl (bi_add (by omega) (by omega) (by omega)) ?_ -- pc_ 11
  refine sm_T_iald (n := 450) rfl rfl (by omega) (by omega) ?_
  have bx1_ : 0 ≤ S0_.2.2.1 36 (0 + cc_) (3 * a1_ + a2_).toNat ∧ S0_.2.2.1 36 (0 + cc_) (3 * a1_ + a2_).toNat ≤ 161 := hI_.2 36 (0 + cc_) _
  refine sm_T_go 4 (c1 := (21, [some (.inr (.inr (some (9, 0)))), some (.inl a1_), some (.inl a2_), some (.inl a3_), some (.inl (S0_.2.2.1 36 (0 + cc_) (3 * a1_ + a2_).toNat))], [.inl (S0_.2.2.1 36 (0 + cc_) (3 * a1_ + a2_).toNat), .inr (.inr (some (94, 0)))], S0_)) rfl ?_
  refine sm_T_iald (n := 162) rfl rfl (by omega) (by omega) ?_
  have bx2_ : 0 ≤ S0_.2.2.1 94 0 (S0_.2.2.1 36 (0 + cc_) (3 * a1_ + a2_).toNat).toNat ∧ S0_.2.2.1 94 0 (S0_.2.2.1 36 (0 + cc_) (3 * a1_ + a2_).toNat).toNat ≤ 1 := hI_.2 94 0 _
  refine sm_T_b0 (a := 0) (z := 18) rfl (fun cx3_ => ?_) (fun cx3_ => ?_)
  · have cx3_ : (S0_.2.2.1 94 0 (S0_.2.2.1 36 (0 + cc_) (3 * a1_ + a2_).toNat).toNat) = 0 := of_decide_eq_true cx3_
    refine sm_T_go 4 (c1 := (48, [some (.inr (.inr (some (9, 0)))), some (.inl a1_), some (.inl a2_), some (.inl a3_), some (.inl (S0_.2.2.1 36 (0 + cc_) (3 * a1_ + a2_).toNat))], [.inl 64, .inl (S0_.2.2.1 36 (0 + cc_) (3 * a1_ + a2_).toNat), .inr (.inr (some (92, 0)))], S0_)) rfl ?_
    refine sm_T_bin (w := 64 * (S0_.2.2.1 36 (0 + cc_) (3 * a1_ + a2_).toNat)) rfl (bi_mul (by omega) (by omega) (by omega)) ?_ -- pc_ 48
    refine sm_T_go 1 (c1 := (50, [some (.inr (.inr (some (9, 0)))), some (.inl a1_), some (.inl a2_), some (.inl a3_), some (.inl (S0_.2.2.1 36 (0 + cc_) (3 * a1_ + a2_).toNat))], [.inl a3_, .inl (64 * (S0_.2.2.1 36 (0 + cc_) (3 * a1_ + a2_).toNat)), .inr (.inr (some (92, 0)))], S0_)) rfl ?_
    refine sm_T_bin (w := 64 * (S0_.2.2.1 36 (0 + cc_) (3 * a1_ + a2_).toNat) + a3_) rfl (bi_add (by omega) (by omega) (by omega)) ?_ -- pc_ 50
    refine sm_T_lald (n := 10368) rfl rfl (by omega) (by omega) ?_
    refine sm_T_rl rfl ⟨_, _, rfl, rfl, _, rfl, ?_⟩
    unfold kcU kcF kcA
    rw [show 3 * a1_.toNat + a2_.toNat = (3 * a1_ + a2_).toNat by omega, show 64 * (S0_.2.2.1 36 (0 + cc_) (3 * a1_ + a2_).toNat).toNat + a3_.toNat = (64 * (S0_.2.2.1 36 (0 + cc_) (3 * a1_ + a2_).toNat) + a3_).toNat by omega]
    first | (rw [if_pos (by assumption)]) | (rw [if_neg (by assumption)]) | (rw [if_neg (by omega)]) | (rw [if_pos (by omega)])
  · have cx3_ : ¬ ((S0_.2.2.1 94 0 (S0_.2.2.1 36 (0 + cc_) (3 * a1_ + a2_).toNat).toNat) = 0) := of_decide_eq_false cx3_
    refine sm_T_go 4 (c1 := (33, [some (.inr (.inr (some (9, 0)))), some (.inl a1_), some (.inl a2_), some (.inl a3_), some (.inl (S0_.2.2.1 36 (0 + cc_) (3 * a1_ + a2_).toNat))], [.inl 64, .inl (S0_.2.2.1 36 (0 + cc_) (3 * a1_ + a2_).toNat), .inr (.inr (some (93, 0)))], S0_)) rfl ?_
    refine sm_T_bin (w := 64 * (S0_.2.2.1 36 (0 + cc_) (3 * a1_ + a2_).toNat)) rfl (bi_mul (by omega) (by omega) (by omega)) ?_ -- pc_ 33
    refine sm_T_go 1 (c1 := (35, [some (.inr (.inr (some (9, 0)))), some (.inl a1_), some (.inl a2_), some (.inl a3_), some (.inl (S0_.2.2.1 36 (0 + cc_) (3 * a1_ + a2_).toNat))], [.inl a3_, .inl (64 * (S0_.2.2.1 36 (0 + cc_) (3 * a1_ + a2_).toNat)), .inr (.inr (some (93, 0)))], S0_)) rfl ?_
    refine sm_T_bin (w := 64 * (S0_.2.2.1 36 (0 + cc_) (3 * a1_ + a2_).toNat) + a3_) rfl (bi_add (by omega) (by omega) (by omega)) ?_ -- pc_ 35
    refine sm_T_lald (n := 10368) rfl rfl (by omega) (by omega) ?_
    refine sm_T_go 1 (c1 := (52, [some (.inr (.inr (some (9, 0)))), some (.inl a1_), some (.inl a2_), some (.inl a3_), some (.inl (S0_.2.2.1 36 (0 + cc_) (3 * a1_ + a2_).toNat))], [.inr (.inl (S0_.2.2.2 93 0 (64 * (S0_.2.2.1 36 (0 + cc_) (3 * a1_ + a2_).toNat) + a3_).toNat))], S0_)) rfl ?_
    refine sm_T_rl rfl ⟨_, _, rfl, rfl, _, rfl, ?_⟩
    unfold kcU kcF kcA
    rw [show 3 * a1_.toNat + a2_.toNat = (3 * a1_ + a2_).toNat by omega, show 64 * (S0_.2.2.1 36 (0 + cc_) (3 * a1_ + a2_).toNat).toNat + a3_.toNat = (64 * (S0_.2.2.1 36 (0 + cc_) (3 * a1_ + a2_).toNat) + a3_).toNat by omega]
    first | (rw [if_pos (by assumption)]) | (rw [if_neg (by assumption)]) | (rw [if_neg (by omega)]) | (rw [if_pos (by omega)])
/-! Tester.workGate -/
def vw_173f : sx_Wl := ([], [93], [])
def vq_173f (a1_ : Int) (a2_ : Int) (y3_ : Int) (cc_ : Nat) (S0_ : sm_S) (u_ : Option sm_V) (S1_ : sm_S) : Prop := ∃ v_ : Int, u_ = some (.inl v_) ∧ gi S1_ ∧ ai_fr (sx_W vw_173f) S0_ S1_ ∧ ((0 ≤ v_ ∧ v_ ≤ 1) ∧ (∀ w9_ : Nat, (w9_ : Int) < S0_.1 9 0 2 → ∀ i9_ : Nat, i9_ < 64 → lbt (S1_.2.2.2 93 0 (64 * ((S0_.1 2 cc_ 1 + S0_.1 2 cc_ 2).toNat + a1_.toNat) + w9_)) i9_ = gvf (fun n_ => lbt (kcF S0_ n_ w9_) i9_) (kcT cc_ S0_ a1_.toNat) (kcN cc_ S0_ a1_.toNat) (kcA cc_ S0_ a1_.toNat) a2_ (lbt y3_ i9_)) ∧ (v_ = 0 → ∀ w9_ : Nat, (w9_ : Int) < S0_.1 9 0 2 → ∀ i9_ : Nat, i9_ < 64 → lbt (S0_.1 9 0 3) i9_ = true → lbt (S1_.2.2.2 93 0 (64 * ((S0_.1 2 cc_ 1 + S0_.1 2 cc_ 2).toNat + a1_.toNat) + w9_)) i9_ = lbt (S0_.2.2.2 92 0 (64 * ((S0_.1 2 cc_ 1 + S0_.1 2 cc_ 2).toNat + a1_.toNat) + w9_)) i9_) ∧ ∀ j9_ : Nat, (j9_ < 64 * ((S0_.1 2 cc_ 1 + S0_.1 2 cc_ 2).toNat + a1_.toNat) ∨ 64 * ((S0_.1 2 cc_ 1 + S0_.1 2 cc_ 2).toNat + a1_.toNat) + 64 ≤ j9_) → S1_.2.2.2 93 0 j9_ = S0_.2.2.2 93 0 j9_)
set_option maxHeartbeats 2000000 in
set_option maxRecDepth 20000 in
theorem vl_173f {sc_ : Nat × (Nat → Int)} (a1_ : Int) (a2_ : Int) (y3_ : Int) (cc_ : Nat) (S0_ : sm_S) (hb_ : S0_.2.1 9 0 0 = some cc_) (hs_ : S0_.1 2 cc_ 1 + S0_.1 2 cc_ 2 ≤ 12) (h1_ : 0 ≤ a1_ ∧ a1_ ≤ 149) (hq9_ : 0 ≤ S0_.1 2 cc_ 1 ∧ 0 ≤ S0_.1 2 cc_ 2) (hg_ : gio (S0_.1 2 cc_ 1 + S0_.1 2 cc_ 2).toNat a1_.toNat (kcN cc_ S0_ a1_.toNat) (kcA cc_ S0_ a1_.toNat)) : ∀ nn_ : Nat, (∀ (is_ : Int) (tb_ : Int) (to_ : Int) (df_ : Int) (w_ : Int) (S_ : sm_S), gi S_ → ai_fr (sx_W vw_173f) S0_ S_ → ((0 ≤ is_ ∧ is_ ≤ 3 ∧ 0 ≤ tb_ ∧ tb_ ≤ 255 ∧ 0 ≤ to_ ∧ to_ ≤ 10304 ∧ 0 ≤ w_ ∧ w_ ≤ S0_.1 9 0 2 ∧ S0_.1 9 0 2 ≤ 64) ∧ (is_ = kcN cc_ S0_ a1_.toNat ∧ tb_ = kcT cc_ S0_ a1_.toNat ∧ to_ = 64 * (S0_.1 2 cc_ 1 + S0_.1 2 cc_ 2 + a1_)) ∧ (∀ w9_ : Nat, (w9_ : Int) < w_ → ∀ i9_ : Nat, i9_ < 64 → lbt (S_.2.2.2 93 0 (to_.toNat + w9_)) i9_ = gvf (fun n_ => lbt (kcF S0_ n_ w9_) i9_) (kcT cc_ S0_ a1_.toNat) (kcN cc_ S0_ a1_.toNat) (kcA cc_ S0_ a1_.toNat) a2_ (lbt y3_ i9_)) ∧ (∀ w9_ : Nat, (w9_ : Int) < w_ → ∀ i9_ : Nat, i9_ < 64 → lbt df_ i9_ = false → lbt (S0_.1 9 0 3) i9_ = true → lbt (S_.2.2.2 93 0 (to_.toNat + w9_)) i9_ = lbt (S0_.2.2.2 92 0 (to_.toNat + w9_)) i9_) ∧ (∀ j9_ : Nat, (j9_ < 64 * ((S0_.1 2 cc_ 1 + S0_.1 2 cc_ 2).toNat + a1_.toNat) ∨ 64 * ((S0_.1 2 cc_ 1 + S0_.1 2 cc_ 2).toNat + a1_.toNat) + 64 ≤ j9_) → S_.2.2.2 93 0 j9_ = S0_.2.2.2 93 0 j9_) ∧ True) → ((100 * (100 - w_) + 50).toNat) < nn_ → sm_T (mt_P sc_) 2 173 (52, [some (.inr (.inr (some (9, 0)))), some (.inl a1_), some (.inl a2_), some (.inr (.inl y3_)), none, some (.inl is_), some (.inl tb_), some (.inl to_), some (.inr (.inl df_)), none, some (.inl w_), none, none, none, none, none, none, none, none], [], S_) (fun ro9_ => ∃ u_ S1_, ro9_ = (.inl u_, S1_, 0) ∧ vq_173f a1_ a2_ y3_ cc_ S0_ u_ S1_)) ∧ (∀ (is_ : Int) (tb_ : Int) (to_ : Int) (df_ : Int) (w_ : Int) (u1_ : Int) (S_ : sm_S), gi S_ → ai_fr (sx_W vw_173f) S0_ S_ → ((0 ≤ is_ ∧ is_ ≤ 3 ∧ 0 ≤ tb_ ∧ tb_ ≤ 255 ∧ 0 ≤ to_ ∧ to_ ≤ 10304 ∧ 0 ≤ w_ ∧ w_ < S0_.1 9 0 2 ∧ S0_.1 9 0 2 ≤ 64) ∧ (is_ = kcN cc_ S0_ a1_.toNat ∧ tb_ = kcT cc_ S0_ a1_.toNat ∧ to_ = 64 * (S0_.1 2 cc_ 1 + S0_.1 2 cc_ 2 + a1_)) ∧ (∀ w9_ : Nat, (w9_ : Int) < w_ → ∀ i9_ : Nat, i9_ < 64 → lbt (S_.2.2.2 93 0 (to_.toNat + w9_)) i9_ = gvf (fun n_ => lbt (kcF S0_ n_ w9_) i9_) (kcT cc_ S0_ a1_.toNat) (kcN cc_ S0_ a1_.toNat) (kcA cc_ S0_ a1_.toNat) a2_ (lbt y3_ i9_)) ∧ (∀ w9_ : Nat, (w9_ : Int) < w_ → ∀ i9_ : Nat, i9_ < 64 → lbt df_ i9_ = false → lbt (S0_.1 9 0 3) i9_ = true → lbt (S_.2.2.2 93 0 (to_.toNat + w9_)) i9_ = lbt (S0_.2.2.2 92 0 (to_.toNat + w9_)) i9_) ∧ (∀ j9_ : Nat, (j9_ < 64 * ((S0_.1 2 cc_ 1 + S0_.1 2 cc_ 2).toNat + a1_.toNat) ∨ 64 * ((S0_.1 2 cc_ 1 + S0_.1 2 cc_ 2).toNat + a1_.toNat) + 64 ≤ j9_) → S_.2.2.2 93 0 j9_ = S0_.2.2.2 93 0 j9_) ∧ (u1_ = if a2_ = 0 then y3_ else kcU cc_ S0_ a1_.toNat 0 w_.toNat) ∧ True) → ((100 * (100 - w_) + 40).toNat) < nn_ → sm_T (mt_P sc_) 2 173 (79, [some (.inr (.inr (some (9, 0)))), some (.inl a1_), some (.inl a2_), some (.inr (.inl y3_)), none, some (.inl is_), some (.inl tb_), some (.inl to_), some (.inr (.inl df_)), none, some (.inl w_), some (.inr (.inl u1_)), none, none, none, none, none, none, none], [], S_) (fun ro9_ => ∃ u_ S1_, ro9_ = (.inl u_, S1_, 0) ∧ vq_173f a1_ a2_ y3_ cc_ S0_ u_ S1_)) ∧ (∀ (is_ : Int) (tb_ : Int) (to_ : Int) (df_ : Int) (w_ : Int) (u1_ : Int) (u2_ : Int) (S_ : sm_S), gi S_ → ai_fr (sx_W vw_173f) S0_ S_ → ((0 ≤ is_ ∧ is_ ≤ 3 ∧ 0 ≤ tb_ ∧ tb_ ≤ 255 ∧ 0 ≤ to_ ∧ to_ ≤ 10304 ∧ 0 ≤ w_ ∧ w_ < S0_.1 9 0 2 ∧ S0_.1 9 0 2 ≤ 64) ∧ (is_ = kcN cc_ S0_ a1_.toNat ∧ tb_ = kcT cc_ S0_ a1_.toNat ∧ to_ = 64 * (S0_.1 2 cc_ 1 + S0_.1 2 cc_ 2 + a1_)) ∧ (∀ w9_ : Nat, (w9_ : Int) < w_ → ∀ i9_ : Nat, i9_ < 64 → lbt (S_.2.2.2 93 0 (to_.toNat + w9_)) i9_ = gvf (fun n_ => lbt (kcF S0_ n_ w9_) i9_) (kcT cc_ S0_ a1_.toNat) (kcN cc_ S0_ a1_.toNat) (kcA cc_ S0_ a1_.toNat) a2_ (lbt y3_ i9_)) ∧ (∀ w9_ : Nat, (w9_ : Int) < w_ → ∀ i9_ : Nat, i9_ < 64 → lbt df_ i9_ = false → lbt (S0_.1 9 0 3) i9_ = true → lbt (S_.2.2.2 93 0 (to_.toNat + w9_)) i9_ = lbt (S0_.2.2.2 92 0 (to_.toNat + w9_)) i9_) ∧ (∀ j9_ : Nat, (j9_ < 64 * ((S0_.1 2 cc_ 1 + S0_.1 2 cc_ 2).toNat + a1_.toNat) ∨ 64 * ((S0_.1 2 cc_ 1 + S0_.1 2 cc_ 2).toNat + a1_.toNat) + 64 ≤ j9_) → S_.2.2.2 93 0 j9_ = S0_.2.2.2 93 0 j9_) ∧ (u1_ = if a2_ = 0 then y3_ else kcU cc_ S0_ a1_.toNat 0 w_.toNat) ∧ (u2_ = if is_ < 2 then 0 else if a2_ = 1 then y3_ else kcU cc_ S0_ a1_.toNat 1 w_.toNat) ∧ True) → ((100 * (100 - w_) + 30).toNat) < nn_ → sm_T (mt_P sc_) 2 173 (108, [some (.inr (.inr (some (9, 0)))), some (.inl a1_), some (.inl a2_), some (.inr (.inl y3_)), none, some (.inl is_), some (.inl tb_), some (.inl to_), some (.inr (.inl df_)), none, some (.inl w_), some (.inr (.inl u1_)), none, some (.inr (.inl u2_)), none, none, none, none, none], [], S_) (fun ro9_ => ∃ u_ S1_, ro9_ = (.inl u_, S1_, 0) ∧ vq_173f a1_ a2_ y3_ cc_ S0_ u_ S1_)) ∧ (∀ (is_ : Int) (tb_ : Int) (to_ : Int) (df_ : Int) (w_ : Int) (u1_ : Int) (u2_ : Int) (u3_ : Int) (S_ : sm_S), gi S_ → ai_fr (sx_W vw_173f) S0_ S_ → ((0 ≤ is_ ∧ is_ ≤ 3 ∧ 0 ≤ tb_ ∧ tb_ ≤ 255 ∧ 0 ≤ to_ ∧ to_ ≤ 10304 ∧ 0 ≤ w_ ∧ w_ < S0_.1 9 0 2 ∧ S0_.1 9 0 2 ≤ 64) ∧ (is_ = kcN cc_ S0_ a1_.toNat ∧ tb_ = kcT cc_ S0_ a1_.toNat ∧ to_ = 64 * (S0_.1 2 cc_ 1 + S0_.1 2 cc_ 2 + a1_)) ∧ (∀ w9_ : Nat, (w9_ : Int) < w_ → ∀ i9_ : Nat, i9_ < 64 → lbt (S_.2.2.2 93 0 (to_.toNat + w9_)) i9_ = gvf (fun n_ => lbt (kcF S0_ n_ w9_) i9_) (kcT cc_ S0_ a1_.toNat) (kcN cc_ S0_ a1_.toNat) (kcA cc_ S0_ a1_.toNat) a2_ (lbt y3_ i9_)) ∧ (∀ w9_ : Nat, (w9_ : Int) < w_ → ∀ i9_ : Nat, i9_ < 64 → lbt df_ i9_ = false → lbt (S0_.1 9 0 3) i9_ = true → lbt (S_.2.2.2 93 0 (to_.toNat + w9_)) i9_ = lbt (S0_.2.2.2 92 0 (to_.toNat + w9_)) i9_) ∧ (∀ j9_ : Nat, (j9_ < 64 * ((S0_.1 2 cc_ 1 + S0_.1 2 cc_ 2).toNat + a1_.toNat) ∨ 64 * ((S0_.1 2 cc_ 1 + S0_.1 2 cc_ 2).toNat + a1_.toNat) + 64 ≤ j9_) → S_.2.2.2 93 0 j9_ = S0_.2.2.2 93 0 j9_) ∧ (u1_ = if a2_ = 0 then y3_ else kcU cc_ S0_ a1_.toNat 0 w_.toNat) ∧ (u2_ = if is_ < 2 then 0 else if a2_ = 1 then y3_ else kcU cc_ S0_ a1_.toNat 1 w_.toNat) ∧ (u3_ = if is_ < 3 then 0 else if a2_ = 2 then y3_ else kcU cc_ S0_ a1_.toNat 2 w_.toNat) ∧ True) → ((100 * (100 - w_) + 20).toNat) < nn_ → sm_T (mt_P sc_) 2 173 (137, [some (.inr (.inr (some (9, 0)))), some (.inl a1_), some (.inl a2_), some (.inr (.inl y3_)), none, some (.inl is_), some (.inl tb_), some (.inl to_), some (.inr (.inl df_)), none, some (.inl w_), some (.inr (.inl u1_)), none, some (.inr (.inl u2_)), none, some (.inr (.inl u3_)), none, none, none], [], S_) (fun ro9_ => ∃ u_ S1_, ro9_ = (.inl u_, S1_, 0) ∧ vq_173f a1_ a2_ y3_ cc_ S0_ u_ S1_)) ∧ (∀ (is_ : Int) (tb_ : Int) (to_ : Int) (df_ : Int) (w_ : Int) (u1_ : Int) (u2_ : Int) (u3_ : Int) (u4_ : Int) (S_ : sm_S), gi S_ → ai_fr (sx_W vw_173f) S0_ S_ → ((0 ≤ is_ ∧ is_ ≤ 3 ∧ 0 ≤ tb_ ∧ tb_ ≤ 255 ∧ 0 ≤ to_ ∧ to_ ≤ 10304 ∧ 0 ≤ w_ ∧ w_ < S0_.1 9 0 2 ∧ S0_.1 9 0 2 ≤ 64) ∧ (is_ = kcN cc_ S0_ a1_.toNat ∧ tb_ = kcT cc_ S0_ a1_.toNat ∧ to_ = 64 * (S0_.1 2 cc_ 1 + S0_.1 2 cc_ 2 + a1_)) ∧ (∀ w9_ : Nat, (w9_ : Int) < w_ → ∀ i9_ : Nat, i9_ < 64 → lbt (S_.2.2.2 93 0 (to_.toNat + w9_)) i9_ = gvf (fun n_ => lbt (kcF S0_ n_ w9_) i9_) (kcT cc_ S0_ a1_.toNat) (kcN cc_ S0_ a1_.toNat) (kcA cc_ S0_ a1_.toNat) a2_ (lbt y3_ i9_)) ∧ (∀ w9_ : Nat, (w9_ : Int) < w_ → ∀ i9_ : Nat, i9_ < 64 → lbt df_ i9_ = false → lbt (S0_.1 9 0 3) i9_ = true → lbt (S_.2.2.2 93 0 (to_.toNat + w9_)) i9_ = lbt (S0_.2.2.2 92 0 (to_.toNat + w9_)) i9_) ∧ (∀ j9_ : Nat, (j9_ < 64 * ((S0_.1 2 cc_ 1 + S0_.1 2 cc_ 2).toNat + a1_.toNat) ∨ 64 * ((S0_.1 2 cc_ 1 + S0_.1 2 cc_ 2).toNat + a1_.toNat) + 64 ≤ j9_) → S_.2.2.2 93 0 j9_ = S0_.2.2.2 93 0 j9_) ∧ (u1_ = if a2_ = 0 then y3_ else kcU cc_ S0_ a1_.toNat 0 w_.toNat) ∧ (u2_ = if is_ < 2 then 0 else if a2_ = 1 then y3_ else kcU cc_ S0_ a1_.toNat 1 w_.toNat) ∧ (u3_ = if is_ < 3 then 0 else if a2_ = 2 then y3_ else kcU cc_ S0_ a1_.toNat 2 w_.toNat) ∧ (∀ i9_ : Nat, i9_ < 64 → lbt u4_ i9_ = tbt tb_ (lbt u1_ i9_) (lbt u2_ i9_) (lbt u3_ i9_)) ∧ True) → ((100 * (100 - w_) + 10).toNat) < nn_ → sm_T (mt_P sc_) 2 173 (180, [some (.inr (.inr (some (9, 0)))), some (.inl a1_), some (.inl a2_), some (.inr (.inl y3_)), none, some (.inl is_), some (.inl tb_), some (.inl to_), some (.inr (.inl df_)), none, some (.inl w_), some (.inr (.inl u1_)), none, some (.inr (.inl u2_)), none, some (.inr (.inl u3_)), none, some (.inr (.inl u4_)), none], [], S_) (fun ro9_ => ∃ u_ S1_, ro9_ = (.inl u_, S1_, 0) ∧ vq_173f a1_ a2_ y3_ cc_ S0_ u_ S1_)) := by
  intro nn_
  induction nn_ with
  | zero => exact ⟨fun _ _ _ _ _ _ _ _ _ h_ => absurd h_ (Nat.not_lt_zero _), fun _ _ _ _ _ _ _ _ _ _ h_ => absurd h_ (Nat.not_lt_zero _), fun _ _ _ _ _ _ _ _ _ _ _ h_ => absurd h_ (Nat.not_lt_zero _), fun _ _ _ _ _ _ _ _ _ _ _ _ h_ => absurd h_ (Nat.not_lt_zero _), fun _ _ _ _ _ _ _ _ _ _ _ _ _ h_ => absurd h_ (Nat.not_lt_zero _)⟩
  | succ nn_ ih_ =>
    refine ⟨?_, ?_, ?_, ?_, ?_⟩
    · rintro is_ tb_ to_ df_ w_ S_ hI_ hF_ ⟨h0_, he_, hw_, hd_, ho_, -⟩ hm_
      have cw : 0 ≤ S_.1 9 0 2 ∧ S_.1 9 0 2 ≤ 64 := hI_.1 9 0 2 rfl
      have x2_ : S_.1 9 0 2 = S0_.1 9 0 2 := hF_.1 9 0 2 rfl
      have cq1_ : 0 ≤ S0_.1 2 cc_ 1 ∧ 0 ≤ S0_.1 2 cc_ 2 := hq9_
      have bx1_ : 0 ≤ S_.1 9 0 2 ∧ S_.1 9 0 2 ≤ 64 := hI_.1 9 0 2 rfl
      refine sm_T_go 3 (c1 := (58, [some (.inr (.inr (some (9, 0)))), some (.inl a1_), some (.inl a2_), some (.inr (.inl y3_)), none, some (.inl is_), some (.inl tb_), some (.inl to_), some (.inr (.inl df_)), none, some (.inl w_), none, none, none, none, none, none, none, none], [.inl (S_.1 9 0 2), .inl w_], S_)) rfl ?_
      refine sm_T_br (a := 3) (z := 163) rfl (fun cx2_ => ?_) (fun cx2_ => ?_)
      · have cx2_ : (S_.1 9 0 2) ≤ w_ := of_decide_eq_true cx2_
        refine sm_T_go 3 (c1 := (225, [some (.inr (.inr (some (9, 0)))), some (.inl a1_), some (.inl a2_), some (.inr (.inl y3_)), none, some (.inl is_), some (.inl tb_), some (.inl to_), some (.inr (.inl df_)), none, some (.inl w_), none, none, none, none, none, none, none, none], [.inl (sm_lcmp df_ 0)], S_)) rfl ?_
        refine sm_T_b0 (a := 0) (z := 7) rfl (fun cx3_ => ?_) (fun cx3_ => ?_)
        · have cx3_ : (sm_lcmp df_ 0) = 0 := of_decide_eq_true cx3_
          refine sm_T_go 1 (c1 := (233, [some (.inr (.inr (some (9, 0)))), some (.inl a1_), some (.inl a2_), some (.inr (.inl y3_)), none, some (.inl is_), some (.inl tb_), some (.inl to_), some (.inr (.inl df_)), none, some (.inl w_), none, none, none, none, none, none, none, none], [.inl 0], S_)) rfl ?_
          refine sm_T_rz rfl (by omega) ⟨_, _, rfl, _, rfl, hI_, hF_, ?_⟩
          have to9_ : to_.toNat = 64 * ((S0_.1 2 cc_ 1 + S0_.1 2 cc_ 2).toNat + a1_.toNat) := by (have y9_ := he_.2.2; omega)
          rw [to9_] at hw_ hd_
          refine ⟨by omega, fun w9_ hw9_ => hw_ w9_ (by omega), ?_, ho_⟩
          first | (have c9_ : df_ = 0 := lcmp_0.mp (by assumption); exact fun _ w9_ hw9_ i9_ hi9_ => hd_ w9_ (by omega) i9_ hi9_ (by (rw [c9_]; exact lbt_0))) | (intro q9_; exfalso; omega)
        · have cx3_ : ¬ ((sm_lcmp df_ 0) = 0) := of_decide_eq_false cx3_
          refine sm_T_go 2 (c1 := (233, [some (.inr (.inr (some (9, 0)))), some (.inl a1_), some (.inl a2_), some (.inr (.inl y3_)), none, some (.inl is_), some (.inl tb_), some (.inl to_), some (.inr (.inl df_)), none, some (.inl w_), none, none, none, none, none, none, none, none], [.inl 1], S_)) rfl ?_
          refine sm_T_rz rfl (by omega) ⟨_, _, rfl, _, rfl, hI_, hF_, ?_⟩
          have to9_ : to_.toNat = 64 * ((S0_.1 2 cc_ 1 + S0_.1 2 cc_ 2).toNat + a1_.toNat) := by (have y9_ := he_.2.2; omega)
          rw [to9_] at hw_ hd_
          refine ⟨by omega, fun w9_ hw9_ => hw_ w9_ (by omega), ?_, ho_⟩
          first | (have c9_ : df_ = 0 := lcmp_0.mp (by assumption); exact fun _ w9_ hw9_ i9_ hi9_ => hd_ w9_ (by omega) i9_ hi9_ (by (rw [c9_]; exact lbt_0))) | (intro q9_; exfalso; omega)
      · have cx2_ : ¬ ((S_.1 9 0 2) ≤ w_) := of_decide_eq_false cx2_
        refine sm_T_go 1 (c1 := (62, [some (.inr (.inr (some (9, 0)))), some (.inl a1_), some (.inl a2_), some (.inr (.inl y3_)), none, some (.inl is_), some (.inl tb_), some (.inl to_), some (.inr (.inl df_)), none, some (.inl w_), none, none, none, none, none, none, none, none], [.inl a2_], S_)) rfl ?_
        refine sm_T_b0 (a := 1) (z := 7) rfl (fun cx4_ => ?_) (fun cx4_ => ?_)
        · have cx4_ : a2_ ≠ 0 := of_decide_eq_true cx4_
          refine sm_T_go 4 (c1 := (74, [some (.inr (.inr (some (9, 0)))), some (.inl a1_), some (.inl a2_), some (.inr (.inl y3_)), none, some (.inl is_), some (.inl tb_), some (.inl to_), some (.inr (.inl df_)), none, some (.inl w_), none, none, none, none, none, none, none, none], [.inl w_, .inl 0, .inl a1_, .inr (.inr (some (9, 0)))], S_)) rfl ?_
          refine sm_T_cal (d1 := 0) (Q1 := vq_172f a1_ 0 w_ cc_ S_) rfl rfl (by decide) (vc_172f a1_ 0 w_ cc_ S_ hI_ (by exact (hF_.2.1 9 0 0 rfl).trans hb_) (by omega) (by decide) (by omega)) (fun u_ Sx5_ px8_ => ?_)
          obtain ⟨rfl, vx10_, rfl, px8_⟩ := px8_
          have e74_ : vx10_ = kcU cc_ S0_ a1_.toNat 0 w_.toNat := px8_.trans (kcU_o (F_ := (S0_.1 2 cc_ 1 + S0_.1 2 cc_ 2).toNat) hF_ (fun j9_ hj9_ => ho_ j9_ (Or.inl hj9_)) (hg_.2.1) (by omega))
          refine sm_T_go 1 (c1 := (79, [some (.inr (.inr (some (9, 0)))), some (.inl a1_), some (.inl a2_), some (.inr (.inl y3_)), none, some (.inl is_), some (.inl tb_), some (.inl to_), some (.inr (.inl df_)), none, some (.inl w_), some (.inr (.inl vx10_)), none, none, none, none, none, none, none], [], S_)) rfl ?_
          refine ih_.2.1 is_ tb_ to_ df_ w_ vx10_ S_ hI_ hF_ ⟨?_, ?_, ?_, ?_, ?_, ?_, trivial⟩ ?_
          · omega
          · exact he_
          · exact hw_
          · exact hd_
          · exact ho_
          · first | (rw [if_neg (by omega)]; exact e74_) | (rw [if_pos (by omega)])
          · omega
        · have cx4_ : ¬ (a2_ ≠ 0) := of_decide_eq_false cx4_
          refine sm_T_go 3 (c1 := (79, [some (.inr (.inr (some (9, 0)))), some (.inl a1_), some (.inl a2_), some (.inr (.inl y3_)), none, some (.inl is_), some (.inl tb_), some (.inl to_), some (.inr (.inl df_)), none, some (.inl w_), some (.inr (.inl y3_)), none, none, none, none, none, none, none], [], S_)) rfl ?_
          refine ih_.2.1 is_ tb_ to_ df_ w_ y3_ S_ hI_ hF_ ⟨?_, ?_, ?_, ?_, ?_, ?_, trivial⟩ ?_
          · omega
          · exact he_
          · exact hw_
          · exact hd_
          · exact ho_
          · first | (rw [if_neg (by omega)]; exact e74_) | (rw [if_pos (by omega)])
          · omega
    · rintro is_ tb_ to_ df_ w_ u1_ S_ hI_ hF_ ⟨h0_, he_, hw_, hd_, ho_, hx_, -⟩ hm_
      have cw : 0 ≤ S_.1 9 0 2 ∧ S_.1 9 0 2 ≤ 64 := hI_.1 9 0 2 rfl
      have x2_ : S_.1 9 0 2 = S0_.1 9 0 2 := hF_.1 9 0 2 rfl
      have cq1_ : 0 ≤ S0_.1 2 cc_ 1 ∧ 0 ≤ S0_.1 2 cc_ 2 := hq9_
      refine sm_T_go 2 (c1 := (82, [some (.inr (.inr (some (9, 0)))), some (.inl a1_), some (.inl a2_), some (.inr (.inl y3_)), none, some (.inl is_), some (.inl tb_), some (.inl to_), some (.inr (.inl df_)), none, some (.inl w_), some (.inr (.inl u1_)), none, none, none, none, none, none, none], [.inl 2, .inl is_], S_)) rfl ?_
      refine sm_T_br (a := 3) (z := 7) rfl (fun cx1_ => ?_) (fun cx1_ => ?_)
      · have cx1_ : 2 ≤ is_ := of_decide_eq_true cx1_
        refine sm_T_go 2 (c1 := (91, [some (.inr (.inr (some (9, 0)))), some (.inl a1_), some (.inl a2_), some (.inr (.inl y3_)), none, some (.inl is_), some (.inl tb_), some (.inl to_), some (.inr (.inl df_)), none, some (.inl w_), some (.inr (.inl u1_)), none, none, none, none, none, none, none], [.inl 1, .inl a2_], S_)) rfl ?_
        refine sm_T_br (a := 1) (z := 7) rfl (fun cx2_ => ?_) (fun cx2_ => ?_)
        · have cx2_ : a2_ ≠ 1 := of_decide_eq_true cx2_
          refine sm_T_go 4 (c1 := (103, [some (.inr (.inr (some (9, 0)))), some (.inl a1_), some (.inl a2_), some (.inr (.inl y3_)), none, some (.inl is_), some (.inl tb_), some (.inl to_), some (.inr (.inl df_)), none, some (.inl w_), some (.inr (.inl u1_)), none, none, none, none, none, none, none], [.inl w_, .inl 1, .inl a1_, .inr (.inr (some (9, 0)))], S_)) rfl ?_
          refine sm_T_cal (d1 := 0) (Q1 := vq_172f a1_ 1 w_ cc_ S_) rfl rfl (by decide) (vc_172f a1_ 1 w_ cc_ S_ hI_ (by exact (hF_.2.1 9 0 0 rfl).trans hb_) (by omega) (by decide) (by omega)) (fun u_ Sx3_ px6_ => ?_)
          obtain ⟨rfl, vx8_, rfl, px6_⟩ := px6_
          have e103_ : vx8_ = kcU cc_ S0_ a1_.toNat 1 w_.toNat := px6_.trans (kcU_o (F_ := (S0_.1 2 cc_ 1 + S0_.1 2 cc_ 2).toNat) hF_ (fun j9_ hj9_ => ho_ j9_ (Or.inl hj9_)) (hg_.2.2.1 (by (have y9_ := he_.1; omega))) (by omega))
          refine sm_T_go 1 (c1 := (108, [some (.inr (.inr (some (9, 0)))), some (.inl a1_), some (.inl a2_), some (.inr (.inl y3_)), none, some (.inl is_), some (.inl tb_), some (.inl to_), some (.inr (.inl df_)), none, some (.inl w_), some (.inr (.inl u1_)), none, some (.inr (.inl vx8_)), none, none, none, none, none], [], S_)) rfl ?_
          refine ih_.2.2.1 is_ tb_ to_ df_ w_ u1_ vx8_ S_ hI_ hF_ ⟨?_, ?_, ?_, ?_, ?_, ?_, ?_, trivial⟩ ?_
          · omega
          · exact he_
          · exact hw_
          · exact hd_
          · exact ho_
          · exact hx_
          · first | (rw [if_pos (by omega)]; done) | (rw [if_neg (by omega), if_neg (by omega)]; exact e103_) | (rw [if_neg (by omega), if_pos (by omega)])
          · omega
        · have cx2_ : ¬ (a2_ ≠ 1) := of_decide_eq_false cx2_
          refine sm_T_go 3 (c1 := (108, [some (.inr (.inr (some (9, 0)))), some (.inl a1_), some (.inl a2_), some (.inr (.inl y3_)), none, some (.inl is_), some (.inl tb_), some (.inl to_), some (.inr (.inl df_)), none, some (.inl w_), some (.inr (.inl u1_)), none, some (.inr (.inl y3_)), none, none, none, none, none], [], S_)) rfl ?_
          refine ih_.2.2.1 is_ tb_ to_ df_ w_ u1_ y3_ S_ hI_ hF_ ⟨?_, ?_, ?_, ?_, ?_, ?_, ?_, trivial⟩ ?_
          · omega
          · exact he_
          · exact hw_
          · exact hd_
          · exact ho_
          · exact hx_
          · first | (rw [if_pos (by omega)]; done) | (rw [if_neg (by omega), if_neg (by omega)]; exact e103_) | (rw [if_neg (by omega), if_pos (by omega)])
          · omega
      · have cx1_ : ¬ (2 ≤ is_) := of_decide_eq_false cx1_
        refine sm_T_go 3 (c1 := (108, [some (.inr (.inr (some (9, 0)))), some (.inl a1_), some (.inl a2_), some (.inr (.inl y3_)), none, some (.inl is_), some (.inl tb_), some (.inl to_), some (.inr (.inl df_)), none, some (.inl w_), some (.inr (.inl u1_)), none, some (.inr (.inl 0)), none, none, none, none, none], [], S_)) rfl ?_
        refine ih_.2.2.1 is_ tb_ to_ df_ w_ u1_ 0 S_ hI_ hF_ ⟨?_, ?_, ?_, ?_, ?_, ?_, ?_, trivial⟩ ?_
        · omega
        · exact he_
        · exact hw_
        · exact hd_
        · exact ho_
        · exact hx_
        · first | (rw [if_pos (by omega)]; done) | (rw [if_neg (by omega), if_neg (by omega)]; exact e103_) | (rw [if_neg (by omega), if_pos (by omega)])
        · omega
    · rintro is_ tb_ to_ df_ w_ u1_ u2_ S_ hI_ hF_ ⟨h0_, he_, hw_, hd_, ho_, hx_, hy_, -⟩ hm_
      have cw : 0 ≤ S_.1 9 0 2 ∧ S_.1 9 0 2 ≤ 64 := hI_.1 9 0 2 rfl
      have x2_ : S_.1 9 0 2 = S0_.1 9 0 2 := hF_.1 9 0 2 rfl
      have cq1_ : 0 ≤ S0_.1 2 cc_ 1 ∧ 0 ≤ S0_.1 2 cc_ 2 := hq9_
      refine sm_T_go 2 (c1 := (111, [some (.inr (.inr (some (9, 0)))), some (.inl a1_), some (.inl a2_), some (.inr (.inl y3_)), none, some (.inl is_), some (.inl tb_), some (.inl to_), some (.inr (.inl df_)), none, some (.inl w_), some (.inr (.inl u1_)), none, some (.inr (.inl u2_)), none, none, none, none, none], [.inl 3, .inl is_], S_)) rfl ?_
      refine sm_T_br (a := 3) (z := 7) rfl (fun cx1_ => ?_) (fun cx1_ => ?_)
      · have cx1_ : 3 ≤ is_ := of_decide_eq_true cx1_
        refine sm_T_go 2 (c1 := (120, [some (.inr (.inr (some (9, 0)))), some (.inl a1_), some (.inl a2_), some (.inr (.inl y3_)), none, some (.inl is_), some (.inl tb_), some (.inl to_), some (.inr (.inl df_)), none, some (.inl w_), some (.inr (.inl u1_)), none, some (.inr (.inl u2_)), none, none, none, none, none], [.inl 2, .inl a2_], S_)) rfl ?_
        refine sm_T_br (a := 1) (z := 7) rfl (fun cx2_ => ?_) (fun cx2_ => ?_)
        · have cx2_ : a2_ ≠ 2 := of_decide_eq_true cx2_
          refine sm_T_go 4 (c1 := (132, [some (.inr (.inr (some (9, 0)))), some (.inl a1_), some (.inl a2_), some (.inr (.inl y3_)), none, some (.inl is_), some (.inl tb_), some (.inl to_), some (.inr (.inl df_)), none, some (.inl w_), some (.inr (.inl u1_)), none, some (.inr (.inl u2_)), none, none, none, none, none], [.inl w_, .inl 2, .inl a1_, .inr (.inr (some (9, 0)))], S_)) rfl ?_
          refine sm_T_cal (d1 := 0) (Q1 := vq_172f a1_ 2 w_ cc_ S_) rfl rfl (by decide) (vc_172f a1_ 2 w_ cc_ S_ hI_ (by exact (hF_.2.1 9 0 0 rfl).trans hb_) (by omega) (by decide) (by omega)) (fun u_ Sx3_ px6_ => ?_)
          obtain ⟨rfl, vx8_, rfl, px6_⟩ := px6_
          have e132_ : vx8_ = kcU cc_ S0_ a1_.toNat 2 w_.toNat := px6_.trans (kcU_o (F_ := (S0_.1 2 cc_ 1 + S0_.1 2 cc_ 2).toNat) hF_ (fun j9_ hj9_ => ho_ j9_ (Or.inl hj9_)) (hg_.2.2.2 (by (have y9_ := he_.1; omega))) (by omega))
          refine sm_T_go 1 (c1 := (137, [some (.inr (.inr (some (9, 0)))), some (.inl a1_), some (.inl a2_), some (.inr (.inl y3_)), none, some (.inl is_), some (.inl tb_), some (.inl to_), some (.inr (.inl df_)), none, some (.inl w_), some (.inr (.inl u1_)), none, some (.inr (.inl u2_)), none, some (.inr (.inl vx8_)), none, none, none], [], S_)) rfl ?_
          refine ih_.2.2.2.1 is_ tb_ to_ df_ w_ u1_ u2_ vx8_ S_ hI_ hF_ ⟨?_, ?_, ?_, ?_, ?_, ?_, ?_, ?_, trivial⟩ ?_
          · omega
          · exact he_
          · exact hw_
          · exact hd_
          · exact ho_
          · exact hx_
          · exact hy_
          · first | (rw [if_pos (by omega)]; done) | (rw [if_neg (by omega), if_neg (by omega)]; exact e132_) | (rw [if_neg (by omega), if_pos (by omega)])
          · omega
        · have cx2_ : ¬ (a2_ ≠ 2) := of_decide_eq_false cx2_
          refine sm_T_go 3 (c1 := (137, [some (.inr (.inr (some (9, 0)))), some (.inl a1_), some (.inl a2_), some (.inr (.inl y3_)), none, some (.inl is_), some (.inl tb_), some (.inl to_), some (.inr (.inl df_)), none, some (.inl w_), some (.inr (.inl u1_)), none, some (.inr (.inl u2_)), none, some (.inr (.inl y3_)), none, none, none], [], S_)) rfl ?_
          refine ih_.2.2.2.1 is_ tb_ to_ df_ w_ u1_ u2_ y3_ S_ hI_ hF_ ⟨?_, ?_, ?_, ?_, ?_, ?_, ?_, ?_, trivial⟩ ?_
          · omega
          · exact he_
          · exact hw_
          · exact hd_
          · exact ho_
          · exact hx_
          · exact hy_
          · first | (rw [if_pos (by omega)]; done) | (rw [if_neg (by omega), if_neg (by omega)]; exact e132_) | (rw [if_neg (by omega), if_pos (by omega)])
          · omega
      · have cx1_ : ¬ (3 ≤ is_) := of_decide_eq_false cx1_
        refine sm_T_go 3 (c1 := (137, [some (.inr (.inr (some (9, 0)))), some (.inl a1_), some (.inl a2_), some (.inr (.inl y3_)), none, some (.inl is_), some (.inl tb_), some (.inl to_), some (.inr (.inl df_)), none, some (.inl w_), some (.inr (.inl u1_)), none, some (.inr (.inl u2_)), none, some (.inr (.inl 0)), none, none, none], [], S_)) rfl ?_
        refine ih_.2.2.2.1 is_ tb_ to_ df_ w_ u1_ u2_ 0 S_ hI_ hF_ ⟨?_, ?_, ?_, ?_, ?_, ?_, ?_, ?_, trivial⟩ ?_
        · omega
        · exact he_
        · exact hw_
        · exact hd_
        · exact ho_
        · exact hx_
        · exact hy_
        · first | (rw [if_pos (by omega)]; done) | (rw [if_neg (by omega), if_neg (by omega)]; exact e132_) | (rw [if_neg (by omega), if_pos (by omega)])
        · omega
    · rintro is_ tb_ to_ df_ w_ u1_ u2_ u3_ S_ hI_ hF_ ⟨h0_, he_, hw_, hd_, ho_, hx_, hy_, hz_, -⟩ hm_
      have cw : 0 ≤ S_.1 9 0 2 ∧ S_.1 9 0 2 ≤ 64 := hI_.1 9 0 2 rfl
      have x2_ : S_.1 9 0 2 = S0_.1 9 0 2 := hF_.1 9 0 2 rfl
      have cq1_ : 0 ≤ S0_.1 2 cc_ 1 ∧ 0 ≤ S0_.1 2 cc_ 2 := hq9_
      refine sm_T_go 3 (c1 := (143, [some (.inr (.inr (some (9, 0)))), some (.inl a1_), some (.inl a2_), some (.inr (.inl y3_)), none, some (.inl is_), some (.inl tb_), some (.inl to_), some (.inr (.inl df_)), none, some (.inl w_), some (.inr (.inl u1_)), none, some (.inr (.inl u2_)), none, some (.inr (.inl u3_)), none, none, none], [.inr (.inl u2_), .inr (.inl u1_), .inl tb_], S_)) rfl ?_
      refine sm_T_cal (d1 := 1) (Q1 := vq_171n tb_ u1_ u2_ S_) rfl rfl (by decide) (vc_171n tb_ u1_ u2_ S_ hI_ (by omega)) (fun u_ Sx1_ px4_ => ?_)
      obtain ⟨rfl, vx6_, rfl, px4_⟩ := px4_
      have e143_ := px4_
      refine sm_T_go 3 (c1 := (151, [some (.inr (.inr (some (9, 0)))), some (.inl a1_), some (.inl a2_), some (.inr (.inl y3_)), none, some (.inl is_), some (.inl tb_), some (.inl to_), some (.inr (.inl df_)), none, some (.inl w_), some (.inr (.inl u1_)), none, some (.inr (.inl u2_)), none, some (.inr (.inl u3_)), none, some (.inr (.inl vx6_)), none], [.inl 2, .inl is_], S_)) rfl ?_
      refine sm_T_br (a := 5) (z := 29) rfl (fun cx7_ => ?_) (fun cx7_ => ?_)
      · have cx7_ : is_ ≤ 2 := of_decide_eq_true cx7_
        refine sm_T_go 0 (c1 := (180, [some (.inr (.inr (some (9, 0)))), some (.inl a1_), some (.inl a2_), some (.inr (.inl y3_)), none, some (.inl is_), some (.inl tb_), some (.inl to_), some (.inr (.inl df_)), none, some (.inl w_), some (.inr (.inl u1_)), none, some (.inr (.inl u2_)), none, some (.inr (.inl u3_)), none, some (.inr (.inl vx6_)), none], [], S_)) rfl ?_
        refine ih_.2.2.2.2 is_ tb_ to_ df_ w_ u1_ u2_ u3_ vx6_ S_ hI_ hF_ ⟨?_, ?_, ?_, ?_, ?_, ?_, ?_, ?_, ?_, trivial⟩ ?_
        · omega
        · exact he_
        · exact hw_
        · exact hd_
        · exact ho_
        · exact hx_
        · exact hy_
        · exact hz_
        · intro i9_ hi9_
          first | (rw [lbt_4, lbt_3, lbt_3, lbt_n hi9_, e143_ i9_ hi9_, e173_ i9_ hi9_, tbt_8 (by omega)]; cases lbt u3_ i9_ <;> simp) | (rw [e143_ i9_ hi9_, show u3_ = 0 from hz_.trans (if_pos (by omega)), lbt_0])
        · omega
      · have cx7_ : ¬ (is_ ≤ 2) := of_decide_eq_false cx7_
        refine sm_T_go 1 (c1 := (156, [some (.inr (.inr (some (9, 0)))), some (.inl a1_), some (.inl a2_), some (.inr (.inl y3_)), none, some (.inl is_), some (.inl tb_), some (.inl to_), some (.inr (.inl df_)), none, some (.inl w_), some (.inr (.inl u1_)), none, some (.inr (.inl u2_)), none, some (.inr (.inl u3_)), none, some (.inr (.inl vx6_)), none], [.inr (.inl u3_)], S_)) rfl ?_
        refine sm_T_nt (u := some (.inr (.inl (-1)))) (S1 := S_) rfl rfl rfl ?_
        refine sm_T_go 6 (c1 := (168, [some (.inr (.inr (some (9, 0)))), some (.inl a1_), some (.inl a2_), some (.inr (.inl y3_)), none, some (.inl is_), some (.inl tb_), some (.inl to_), some (.inr (.inl df_)), none, some (.inl w_), some (.inr (.inl u1_)), none, some (.inr (.inl u2_)), none, some (.inr (.inl u3_)), none, some (.inr (.inl vx6_)), none], [.inl 4, .inl tb_, .inr (.inl u3_), .inr (.inl (l_3 ((l_5 u3_ (-1))) vx6_))], S_)) rfl ?_
        refine sm_T_bin (w := (tb_ / 16)) rfl (bi_shr (k := 4) (by decide) (by omega) (by omega)) ?_ -- pc_ 168
        refine sm_T_go 2 (c1 := (173, [some (.inr (.inr (some (9, 0)))), some (.inl a1_), some (.inl a2_), some (.inr (.inl y3_)), none, some (.inl is_), some (.inl tb_), some (.inl to_), some (.inr (.inl df_)), none, some (.inl w_), some (.inr (.inl u1_)), none, some (.inr (.inl u2_)), none, some (.inr (.inl u3_)), none, some (.inr (.inl vx6_)), none], [.inr (.inl u2_), .inr (.inl u1_), .inl (tb_ / 16), .inr (.inl u3_), .inr (.inl (l_3 ((l_5 u3_ (-1))) vx6_))], S_)) rfl ?_
        refine sm_T_cal (d1 := 1) (Q1 := vq_171n (tb_ / 16) u1_ u2_ S_) rfl rfl (by decide) (vc_171n (tb_ / 16) u1_ u2_ S_ hI_ (by omega)) (fun u_ Sx8_ px11_ => ?_)
        obtain ⟨rfl, vx13_, rfl, px11_⟩ := px11_
        have e173_ := px11_
        refine sm_T_go 3 (c1 := (180, [some (.inr (.inr (some (9, 0)))), some (.inl a1_), some (.inl a2_), some (.inr (.inl y3_)), none, some (.inl is_), some (.inl tb_), some (.inl to_), some (.inr (.inl df_)), none, some (.inl w_), some (.inr (.inl u1_)), none, some (.inr (.inl u2_)), none, some (.inr (.inl u3_)), none, some (.inr (.inl (l_4 ((l_3 ((l_5 u3_ (-1))) vx6_)) ((l_3 u3_ vx13_))))), none], [], S_)) rfl ?_
        refine ih_.2.2.2.2 is_ tb_ to_ df_ w_ u1_ u2_ u3_ ((l_4 ((l_3 ((l_5 u3_ (-1))) vx6_)) ((l_3 u3_ vx13_)))) S_ hI_ hF_ ⟨?_, ?_, ?_, ?_, ?_, ?_, ?_, ?_, ?_, trivial⟩ ?_
        · omega
        · exact he_
        · exact hw_
        · exact hd_
        · exact ho_
        · exact hx_
        · exact hy_
        · exact hz_
        · intro i9_ hi9_
          first | (rw [lbt_4, lbt_3, lbt_3, lbt_n hi9_, e143_ i9_ hi9_, e173_ i9_ hi9_, tbt_8 (by omega)]; cases lbt u3_ i9_ <;> simp) | (rw [e143_ i9_ hi9_, show u3_ = 0 from hz_.trans (if_pos (by omega)), lbt_0])
        · omega
    · rintro is_ tb_ to_ df_ w_ u1_ u2_ u3_ u4_ S_ hI_ hF_ ⟨h0_, he_, hw_, hd_, ho_, hx_, hy_, hz_, hu_, -⟩ hm_
      have cw : 0 ≤ S_.1 9 0 2 ∧ S_.1 9 0 2 ≤ 64 := hI_.1 9 0 2 rfl
      have x2_ : S_.1 9 0 2 = S0_.1 9 0 2 := hF_.1 9 0 2 rfl
      have cq1_ : 0 ≤ S0_.1 2 cc_ 1 ∧ 0 ≤ S0_.1 2 cc_ 2 := hq9_
      refine sm_T_go 4 (c1 := (188, [some (.inr (.inr (some (9, 0)))), some (.inl a1_), some (.inl a2_), some (.inr (.inl y3_)), none, some (.inl is_), some (.inl tb_), some (.inl to_), some (.inr (.inl df_)), none, some (.inl w_), some (.inr (.inl u1_)), none, some (.inr (.inl u2_)), none, some (.inr (.inl u3_)), none, some (.inr (.inl u4_)), none], [.inl w_, .inl to_, .inr (.inr (some (93, 0)))], S_)) rfl ?_
      refine sm_T_bin (w := to_ + w_) rfl (bi_add (by omega) (by omega) (by omega)) ?_ -- pc_ 188
      refine sm_T_go 1 (c1 := (191, [some (.inr (.inr (some (9, 0)))), some (.inl a1_), some (.inl a2_), some (.inr (.inl y3_)), none, some (.inl is_), some (.inl tb_), some (.inl to_), some (.inr (.inl df_)), none, some (.inl w_), some (.inr (.inl u1_)), none, some (.inr (.inl u2_)), none, some (.inr (.inl u3_)), none, some (.inr (.inl u4_)), none], [.inr (.inl u4_), .inl (to_ + w_), .inr (.inr (some (93, 0)))], S_)) rfl ?_
      refine sm_T_last (n := 10368) rfl rfl (by omega) (by omega) ?_
      have hIx1_ : gi (sm_aL S_ 93 0 (to_ + w_).toNat u4_) := gi_aL hI_
      have hFx2_ : ai_fr (sx_W vw_173f) S0_ (sm_aL S_ 93 0 (to_ + w_).toNat u4_) := ai_fr_tr hF_ (ai_fr_aL rfl)
      refine sm_T_go 6 (c1 := (204, [some (.inr (.inr (some (9, 0)))), some (.inl a1_), some (.inl a2_), some (.inr (.inl y3_)), none, some (.inl is_), some (.inl tb_), some (.inl to_), some (.inr (.inl df_)), none, some (.inl w_), some (.inr (.inl u1_)), none, some (.inr (.inl u2_)), none, some (.inr (.inl u3_)), none, some (.inr (.inl u4_)), none], [.inl w_, .inl to_, .inr (.inr (some (92, 0))), .inr (.inl u4_), .inr (.inl df_)], sm_aL S_ 93 0 (to_ + w_).toNat u4_)) rfl ?_
      refine sm_T_bin (w := to_ + w_) rfl (bi_add (by omega) (by omega) (by omega)) ?_ -- pc_ 204
      refine sm_T_lald (n := 10368) rfl rfl (by omega) (by omega) ?_
      refine sm_T_go 6 (c1 := (215, [some (.inr (.inr (some (9, 0)))), some (.inl a1_), some (.inl a2_), some (.inr (.inl y3_)), none, some (.inl is_), some (.inl tb_), some (.inl to_), some (.inr (.inl (l_4 df_ ((l_3 ((l_5 u4_ ((S_.2.2.2 92 0 (to_ + w_).toNat)))) ((sm_aL S_ 93 0 (to_ + w_).toNat u4_).1 9 0 3)))))), none, some (.inl w_), some (.inr (.inl u1_)), none, some (.inr (.inl u2_)), none, some (.inr (.inl u3_)), none, some (.inr (.inl u4_)), none], [], sm_aL S_ 93 0 (to_ + w_).toNat u4_)) rfl ?_
      refine sm_T_inc (a := 10) (z := 1) (v := w_) (w := w_ + 1) rfl rfl (by omega) (by omega) (by omega) ?_ -- pc_ 215
      refine sm_T_go 1 (c1 := (52, [some (.inr (.inr (some (9, 0)))), some (.inl a1_), some (.inl a2_), some (.inr (.inl y3_)), none, some (.inl is_), some (.inl tb_), some (.inl to_), some (.inr (.inl (l_4 df_ ((l_3 ((l_5 u4_ ((S_.2.2.2 92 0 (to_ + w_).toNat)))) ((sm_aL S_ 93 0 (to_ + w_).toNat u4_).1 9 0 3)))))), none, some (.inl (w_ + 1)), some (.inr (.inl u1_)), none, some (.inr (.inl u2_)), none, some (.inr (.inl u3_)), none, some (.inr (.inl u4_)), none], [], sm_aL S_ 93 0 (to_ + w_).toNat u4_)) rfl ?_
      refine sm_T_wk [some (.inr (.inr (some (9, 0)))), some (.inl a1_), some (.inl a2_), some (.inr (.inl y3_)), none, some (.inl is_), some (.inl tb_), some (.inl to_), some (.inr (.inl (l_4 df_ ((l_3 ((l_5 u4_ ((S_.2.2.2 92 0 (to_ + w_).toNat)))) ((sm_aL S_ 93 0 (to_ + w_).toNat u4_).1 9 0 3)))))), none, some (.inl (w_ + 1)), none, none, none, none, none, none, none, none] (by exact ⟨rfl, rfl, rfl, rfl, rfl, rfl, rfl, rfl, rfl, trivial⟩) ?_
      refine ih_.1 is_ tb_ to_ ((l_4 df_ ((l_3 ((l_5 u4_ ((S_.2.2.2 92 0 (to_ + w_).toNat)))) ((sm_aL S_ 93 0 (to_ + w_).toNat u4_).1 9 0 3))))) (w_ + 1) (sm_aL S_ 93 0 (to_ + w_).toNat u4_) hIx1_ hFx2_ ⟨?_, ?_, ?_, ?_, ?_, trivial⟩ ?_
      · omega
      · exact he_
      · intro w9_ hw9_ i9_ hi9_
        rw [rd_leq]
        by_cases z9_ : w9_ = w_.toNat
        · rw [if_pos (by omega), hu_ i9_ hi9_, hx_, hy_, hz_, he_.1, he_.2.1, z9_]; exact gvf_w
        · rw [if_neg (by omega)]; exact hw_ w9_ (by omega) i9_ hi9_
      · intro w9_ hw9_ i9_ hi9_ d9_ m9_
        have y9_ := dff_s d9_
        rw [rd_leq]
        by_cases z9_ : w9_ = w_.toNat
        · rw [if_pos (by omega), y9_.2 (by (rw [show (sm_aL S_ 93 0 (to_ + w_).toNat u4_).1 9 0 3 = S0_.1 9 0 3 from hF_.1 9 0 3 rfl]; exact m9_)), show to_.toNat + w9_ = (to_ + w_).toNat by omega, fr_lon (t_ := 92) (i_ := 0) hF_ rfl]
        · rw [if_neg (by omega)]; exact hd_ w9_ (by omega) i9_ hi9_ y9_.1 m9_
      · intro j9_ hj9_
        have y9_ := he_.2.2
        rw [rd_leq, if_neg (by omega)]
        exact ho_ j9_ hj9_
      · omega
set_option maxHeartbeats 2000000 in
set_option maxRecDepth 20000 in
theorem vc_173f {sc_ : Nat × (Nat → Int)} (a1_ : Int) (a2_ : Int) (y3_ : Int) (cc_ : Nat) (S0_ : sm_S) (hI_ : gi S0_) (hb_ : S0_.2.1 9 0 0 = some cc_) (hs_ : S0_.1 2 cc_ 1 + S0_.1 2 cc_ 2 ≤ 12) (h1_ : 0 ≤ a1_ ∧ a1_ ≤ 149) (hq9_ : 0 ≤ S0_.1 2 cc_ 1 ∧ 0 ≤ S0_.1 2 cc_ 2) (hg_ : gio (S0_.1 2 cc_ 1 + S0_.1 2 cc_ 2).toNat a1_.toNat (kcN cc_ S0_ a1_.toNat) (kcA cc_ S0_ a1_.toNat)) : sm_T (mt_P sc_) 2 173 (0, [some (.inr (.inr (some (9, 0)))), some (.inl a1_), some (.inl a2_), some (.inr (.inl y3_)), none, none, none, none, none, none, none, none, none, none, none, none, none, none, none], [], S0_) (fun ro9_ => ∃ u_ S1_, ro9_ = (.inl u_, S1_, 0) ∧ vq_173f a1_ a2_ y3_ cc_ S0_ u_ S1_) := by
  have hF_ : ai_fr (sx_W vw_173f) S0_ S0_ := ai_fr_rf
  have cw0_ : 0 ≤ S0_.1 9 0 2 ∧ S0_.1 9 0 2 ≤ 64 := hI_.1 9 0 2 rfl
  refine sm_T_go 1 (c1 := (1, [some (.inr (.inr (some (9, 0)))), some (.inl a1_), some (.inl a2_), some (.inr (.inl y3_)), none, none, none, none, none, none, none, none, none, none, none, none, none, none, none], [.inr (.inr (some (9, 0)))], S0_)) rfl ?_
  refine sm_T_gr rfl rfl ((hF_.2.1 9 0 0 rfl).trans hb_) ?_
  refine sm_T_go 1 (c1 := (5, [some (.inr (.inr (some (9, 0)))), some (.inl a1_), some (.inl a2_), some (.inr (.inl y3_)), none, none, none, none, none, none, none, none, none, none, none, none, none, none, none], [.inl a1_, .inr (.inr (some (2, cc_)))], S0_)) rfl ?_
  refine sm_T_cal (d1 := 0) (Q1 := vq_59n a1_ cc_ S0_) rfl rfl (by decide) (vc_59n a1_ cc_ S0_ hI_ (by omega)) (fun u_ Sx1_ px4_ => ?_)
  obtain ⟨rfl, vx6_, rfl, px4_⟩ := px4_
  have g5_ := px4_
  have g5b : 0 ≤ S0_.2.2.1 55 (0 + (3 + cc_)) (S0_.2.2.1 35 (0 + cc_) a1_.toNat).toNat ∧ S0_.2.2.1 55 (0 + (3 + cc_)) (S0_.2.2.1 35 (0 + cc_) a1_.toNat).toNat ≤ 3 := hI_.2 55 (0 + (3 + cc_)) _
  refine sm_T_go 2 (c1 := (11, [some (.inr (.inr (some (9, 0)))), some (.inl a1_), some (.inl a2_), some (.inr (.inl y3_)), none, some (.inl vx6_), none, none, none, none, none, none, none, none, none, none, none, none, none], [.inr (.inr (some (9, 0)))], S0_)) rfl ?_
  refine sm_T_gr rfl rfl ((hF_.2.1 9 0 0 rfl).trans hb_) ?_
  refine sm_T_go 3 (c1 := (21, [some (.inr (.inr (some (9, 0)))), some (.inl a1_), some (.inl a2_), some (.inr (.inl y3_)), none, some (.inl vx6_), none, none, none, none, none, none, none, none, none, none, none, none, none], [.inr (.inr (some (9, 0))), .inr (.inr (some (56, (0 + (3 + cc_)))))], S0_)) rfl ?_
  refine sm_T_gr rfl rfl ((hF_.2.1 9 0 0 rfl).trans hb_) ?_
  refine sm_T_go 2 (c1 := (28, [some (.inr (.inr (some (9, 0)))), some (.inl a1_), some (.inl a2_), some (.inr (.inl y3_)), none, some (.inl vx6_), none, none, none, none, none, none, none, none, none, none, none, none, none], [.inl a1_, .inr (.inr (some (35, (0 + cc_)))), .inr (.inr (some (56, (0 + (3 + cc_)))))], S0_)) rfl ?_
  refine sm_T_iald (n := 150) rfl rfl (by omega) (by omega) ?_
  have bx7_ : 0 ≤ S0_.2.2.1 35 (0 + cc_) a1_.toNat ∧ S0_.2.2.1 35 (0 + cc_) a1_.toNat ≤ 11 := hI_.2 35 (0 + cc_) _
  refine sm_T_iald (n := 12) rfl rfl (by omega) (by omega) ?_
  have bx8_ : 0 ≤ S0_.2.2.1 56 (0 + (3 + cc_)) (S0_.2.2.1 35 (0 + cc_) a1_.toNat).toNat ∧ S0_.2.2.1 56 (0 + (3 + cc_)) (S0_.2.2.1 35 (0 + cc_) a1_.toNat).toNat ≤ 255 := hI_.2 56 (0 + (3 + cc_)) _
  refine sm_T_go 2 (c1 := (33, [some (.inr (.inr (some (9, 0)))), some (.inl a1_), some (.inl a2_), some (.inr (.inl y3_)), none, some (.inl vx6_), some (.inl (S0_.2.2.1 56 (0 + (3 + cc_)) (S0_.2.2.1 35 (0 + cc_) a1_.toNat).toNat)), none, none, none, none, none, none, none, none, none, none, none, none], [.inr (.inr (some (9, 0)))], S0_)) rfl ?_
  refine sm_T_gr rfl rfl ((hF_.2.1 9 0 0 rfl).trans hb_) ?_
  refine sm_T_cal (d1 := 0) (Q1 := vq_54 cc_ S0_) rfl rfl (by decide) (vc_54 cc_ S0_ hI_ ) (fun u_ Sx9_ px12_ => ?_)
  obtain ⟨rfl, vx14_, rfl, px12_⟩ := px12_
  have g36_ := px12_
  refine sm_T_go 1 (c1 := (40, [some (.inr (.inr (some (9, 0)))), some (.inl a1_), some (.inl a2_), some (.inr (.inl y3_)), none, some (.inl vx6_), some (.inl (S0_.2.2.1 56 (0 + (3 + cc_)) (S0_.2.2.1 35 (0 + cc_) a1_.toNat).toNat)), none, none, none, none, none, none, none, none, none, none, none, none], [.inl a1_, .inl vx14_], S0_)) rfl ?_
  refine sm_T_bin (w := vx14_ + a1_) rfl (bi_add (by omega) (by omega) (by omega)) ?_ -- pc_ 40
  refine sm_T_go 1 (c1 := (43, [some (.inr (.inr (some (9, 0)))), some (.inl a1_), some (.inl a2_), some (.inr (.inl y3_)), none, some (.inl vx6_), some (.inl (S0_.2.2.1 56 (0 + (3 + cc_)) (S0_.2.2.1 35 (0 + cc_) a1_.toNat).toNat)), none, none, none, none, none, none, none, none, none, none, none, none], [.inl 64, .inl (vx14_ + a1_)], S0_)) rfl ?_
  refine sm_T_bin (w := 64 * vx14_ + 64 * a1_) rfl (bi_mul (by omega) (by omega) (by omega)) ?_ -- pc_ 43
  refine sm_T_go 5 (c1 := (52, [some (.inr (.inr (some (9, 0)))), some (.inl a1_), some (.inl a2_), some (.inr (.inl y3_)), none, some (.inl vx6_), some (.inl (S0_.2.2.1 56 (0 + (3 + cc_)) (S0_.2.2.1 35 (0 + cc_) a1_.toNat).toNat)), some (.inl (64 * vx14_ + 64 * a1_)), some (.inr (.inl 0)), none, some (.inl 0), none, none, none, none, none, none, none, none], [], S0_)) rfl ?_
  refine (vl_173f a1_ a2_ y3_ cc_ S0_ hb_ hs_ h1_ hq9_ hg_ _).1 vx6_ (S0_.2.2.1 56 (0 + (3 + cc_)) (S0_.2.2.1 35 (0 + cc_) a1_.toNat).toNat) (64 * vx14_ + 64 * a1_) 0 0 S0_ hI_ hF_ ⟨?_, ?_, ?_, ?_, ?_, trivial⟩ (Nat.lt_succ_self _)
  · omega
  · (refine ⟨?_, ?_, ?_⟩; (exact g5_); (rfl); omega)
  · (intro w9_ hw9_; exfalso; omega)
  · (intro w9_ hw9_; exfalso; omega)
  · (intro j9_ hj9_; rfl)
