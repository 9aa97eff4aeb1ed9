/-! the class: what shows a fault is kept; written by wip/p55/gen/vg -/

/-- an_ end of_ the_ first K_ differs under the_ fault -/
def exo (S_ : sm_S) (ke_ : Nat → Int) (w_ i_ K_ : Nat) : Prop := ∃ e_, e_ < K_ ∧ 0 ≤ ke_ e_ ∧ S_.2.2.1 94 0 (ke_ e_).toNat ≠ 0 ∧ lbt (S_.2.2.2 92 0 (64 * (ke_ e_).toNat + w_)) i_ ≠ lbt (S_.2.2.2 93 0 (64 * (ke_ e_).toNat + w_)) i_
theorem exo_n {S_ : sm_S} {ke_ : Nat → Int} {w_ i_ K_ : Nat} (h_ : ke_ K_ < 0 ∨ S_.2.2.1 94 0 (ke_ K_).toNat = 0) : exo S_ ke_ w_ i_ (K_ + 1) ↔ exo S_ ke_ w_ i_ K_ := by
  constructor
  · rintro ⟨e_, h1_, h2_, h3_, h4_⟩
    by_cases c_ : e_ = K_
    · rw [c_] at h2_ h3_
      exfalso
      rcases h_ with h_ | h_
      · omega
      · exact h3_ h_
    · exact ⟨e_, by omega, h2_, h3_, h4_⟩
  · rintro ⟨e_, h1_, h2_⟩
    exact ⟨e_, by omega, h2_⟩
theorem exo_s {S_ : sm_S} {ke_ : Nat → Int} {w_ i_ K_ : Nat} (h0_ : 0 ≤ ke_ K_) (h1_ : S_.2.2.1 94 0 (ke_ K_).toNat ≠ 0) : exo S_ ke_ w_ i_ (K_ + 1) ↔ exo S_ ke_ w_ i_ K_ ∨ lbt (S_.2.2.2 92 0 (64 * (ke_ K_).toNat + w_)) i_ ≠ lbt (S_.2.2.2 93 0 (64 * (ke_ K_).toNat + w_)) i_ := by
  constructor
  · rintro ⟨e_, q1_, q2_, q3_, q4_⟩
    by_cases c_ : e_ = K_
    · rw [c_] at q4_
      exact Or.inr q4_
    · exact Or.inl ⟨e_, by omega, q2_, q3_, q4_⟩
  · rintro (⟨e_, q1_, q2_⟩ | q_)
    · exact ⟨e_, by omega, q2_⟩
    · exact ⟨K_, by omega, h0_, h1_, q_⟩
theorem shx_s {x_ g_ b_ m_ : Int} {i_ : Nat} {W_ E_ E'_ : Prop} (hW_ : W_) (h_ : lbt x_ i_ = true ↔ W_ ∧ lbt m_ i_ = true ∧ E_) (hE_ : E'_ ↔ E_ ∨ lbt g_ i_ ≠ lbt b_ i_) : lbt (l_4 x_ (l_3 (l_5 g_ b_) m_)) i_ = true ↔ W_ ∧ lbt m_ i_ = true ∧ E'_ := by
  have q_ : (Bool.xor (lbt g_ i_) (lbt b_ i_) = true) ↔ lbt g_ i_ ≠ lbt b_ i_ := by
    cases lbt g_ i_ <;> cases lbt b_ i_ <;> decide
  rw [lbt_4, lbt_3, lbt_5, Bool.or_eq_true, h_, Bool.and_eq_true, q_, hE_]
  constructor
  · rintro (⟨a1_, a2_, a3_⟩ | ⟨a1_, a2_⟩)
    · exact ⟨a1_, a2_, Or.inl a3_⟩
    · exact ⟨hW_, a2_, Or.inr a1_⟩
  · rintro ⟨a1_, a2_, a3_ | a3_⟩
    · exact Or.inl ⟨a1_, a2_, a3_⟩
    · exact Or.inr ⟨a3_, a2_⟩
/-! java/util/Arrays.fill -/
def vw_5h5n : sx_Wl := ([], [95], [])
def vq_5h5n (fr_ : Int) (to_ : Int) (v0_ : Int) (S0_ : sm_S) (u_ : Option sm_V) (S1_ : sm_S) : Prop := u_ = none ∧ gi S1_ ∧ ai_fr (sx_W vw_5h5n) S0_ S1_ ∧ (∀ k_ : Nat, S1_.2.2.2 95 0 k_ = if fr_ ≤ (k_ : Int) ∧ (k_ : Int) < to_ then v0_ else S0_.2.2.2 95 0 k_)
set_option maxHeartbeats 400000 in
theorem vl_5h5n {sc_ : Nat × (Nat → Int)} (fr_ : Int) (to_ : Int) (v0_ : Int) (S0_ : sm_S) (ht_ : 0 ≤ fr_ ∧ fr_ ≤ to_ ∧ to_ ≤ 78336) : ∀ nn_ : Nat, (∀ (k_ : Int) (S_ : sm_S), gi S_ → ai_fr (sx_W vw_5h5n) S0_ S_ → ((fr_ ≤ k_ ∧ k_ ≤ to_) ∧ (∀ j_ : Nat, S_.2.2.2 95 0 j_ = if fr_ ≤ (j_ : Int) ∧ (j_ : Int) < k_ then v0_ else S0_.2.2.2 95 0 j_) ∧ True) → ((78341 - k_).toNat) < nn_ → sm_T (mt_P sc_) 1 5 (10, [some (.inr (.inr (some (95, 0)))), some (.inl fr_), some (.inl to_), some (.inr (.inl v0_)), none, some (.inl k_)], [], S_) (fun ro9_ => ∃ u_ S1_, ro9_ = (.inl u_, S1_, 0) ∧ vq_5h5n fr_ to_ v0_ S0_ u_ S1_)) := by
  intro nn_
  induction nn_ with
  | zero => exact fun _ _ _ _ _ h_ => absurd h_ (Nat.not_lt_zero _)
  | succ nn_ ih_ =>
    rintro k_ S_ hI_ hF_ ⟨h0_, h1_, -⟩ hm_
    refine sm_T_go 2 (c1 := (13, [some (.inr (.inr (some (95, 0)))), some (.inl fr_), some (.inl to_), some (.inr (.inl v0_)), none, some (.inl k_)], [.inl to_, .inl k_], S_)) rfl ?_
    refine sm_T_br (a := 3) (z := 14) rfl (fun cx1_ => ?_) (fun cx1_ => ?_)
    · have cx1_ : to_ ≤ k_ := of_decide_eq_true cx1_
      refine sm_T_rv rfl ⟨_, _, rfl, rfl, hI_, hF_, ?_⟩
      have e9_ : k_ = to_ := by omega
      rw [← e9_]
      exact h1_
    · have cx1_ : ¬ (to_ ≤ k_) := of_decide_eq_false cx1_
      refine sm_T_go 3 (c1 := (20, [some (.inr (.inr (some (95, 0)))), some (.inl fr_), some (.inl to_), some (.inr (.inl v0_)), none, some (.inl k_)], [.inr (.inl v0_), .inl k_, .inr (.inr (some (95, 0)))], S_)) rfl ?_
      refine sm_T_last (n := 78336) rfl rfl (by omega) (by omega) ?_
      have hIx2_ : gi (sm_aL S_ 95 0 k_.toNat v0_) := gi_aL hI_
      have hFx3_ : ai_fr (sx_W vw_5h5n) S0_ (sm_aL S_ 95 0 k_.toNat v0_) := ai_fr_tr hF_ (ai_fr_aL rfl)
      refine sm_T_inc (a := 5) (z := 1) (v := k_) (w := k_ + 1) rfl rfl (by omega) (by omega) (by omega) ?_ -- pc_ 21
      refine sm_T_go 1 (c1 := (10, [some (.inr (.inr (some (95, 0)))), some (.inl fr_), some (.inl to_), some (.inr (.inl v0_)), none, some (.inl (k_ + 1))], [], sm_aL S_ 95 0 k_.toNat v0_)) rfl ?_
      refine ih_ (k_ + 1) (sm_aL S_ 95 0 k_.toNat v0_) hIx2_ hFx3_ ⟨?_, ?_, trivial⟩ ?_
      · omega
      · intro j_
        rw [rd_leq]
        by_cases z_ : j_ = k_.toNat
        · rw [if_pos z_, if_pos (by omega)]
        · rw [if_neg z_, h1_ j_]
          by_cases y_ : fr_ ≤ (j_ : Int) ∧ (j_ : Int) < k_
          · rw [if_pos y_, if_pos (by omega)]
          · rw [if_neg y_, if_neg (by omega)]
      · omega
set_option maxHeartbeats 400000 in
theorem vc_5h5n {sc_ : Nat × (Nat → Int)} (fr_ : Int) (to_ : Int) (v0_ : Int) (S0_ : sm_S) (hI_ : gi S0_) (ht_ : 0 ≤ fr_ ∧ fr_ ≤ to_ ∧ to_ ≤ 78336) : sm_T (mt_P sc_) 1 5 (0, [some (.inr (.inr (some (95, 0)))), some (.inl fr_), some (.inl to_), some (.inr (.inl v0_)), none, none], [], S0_) (fun ro9_ => ∃ u_ S1_, ro9_ = (.inl u_, S1_, 0) ∧ vq_5h5n fr_ to_ v0_ S0_ u_ S1_) := by
  have hF_ : ai_fr (sx_W vw_5h5n) S0_ S0_ := ai_fr_rf
  refine sm_T_go 4 (c1 := (4, [some (.inr (.inr (some (95, 0)))), some (.inl fr_), some (.inl to_), some (.inr (.inl v0_)), none, none], [.inl to_, .inl fr_, .inl 78336], S0_)) rfl ?_
  refine sm_T_cal (d1 := 0) (Q1 := vq_6 78336 fr_ to_ S0_) rfl rfl (by decide) (vc_6 78336 fr_ to_ S0_ hI_ (by omega)) (fun u_ Sx1_ px4_ => ?_)
  obtain ⟨rfl, hIx2_, hFx3_, px4_⟩ := px4_
  have hFx5_ : ai_fr (sx_W vw_5h5n) S0_ Sx1_ := ai_fr_tr hF_ (fr_le hFx3_ rfl)
  refine sm_T_go 2 (c1 := (10, [some (.inr (.inr (some (95, 0)))), some (.inl fr_), some (.inl to_), some (.inr (.inl v0_)), none, some (.inl fr_)], [], Sx1_)) rfl ?_
  refine (vl_5h5n fr_ to_ v0_ S0_ ht_ _) fr_ Sx1_ hIx2_ hFx5_ ⟨?_, ?_, trivial⟩ (Nat.lt_succ_self _)
  · omega
  · (intro j_; rw [if_neg (by omega)]; first | rfl | rw [px4_])
/-! java/util/Arrays.fill -/
def vw_5b3n : sx_Wl := ([], [93], [])
def vq_5b3n (fr_ : Int) (to_ : Int) (v0_ : Int) (S0_ : sm_S) (u_ : Option sm_V) (S1_ : sm_S) : Prop := u_ = none ∧ gi S1_ ∧ ai_fr (sx_W vw_5b3n) S0_ S1_ ∧ (∀ k_ : Nat, S1_.2.2.2 93 0 k_ = if fr_ ≤ (k_ : Int) ∧ (k_ : Int) < to_ then v0_ else S0_.2.2.2 93 0 k_)
set_option maxHeartbeats 400000 in
theorem vl_5b3n {sc_ : Nat × (Nat → Int)} (fr_ : Int) (to_ : Int) (v0_ : Int) (S0_ : sm_S) (ht_ : 0 ≤ fr_ ∧ fr_ ≤ to_ ∧ to_ ≤ 10368) : ∀ nn_ : Nat, (∀ (k_ : Int) (S_ : sm_S), gi S_ → ai_fr (sx_W vw_5b3n) S0_ S_ → ((fr_ ≤ k_ ∧ k_ ≤ to_) ∧ (∀ j_ : Nat, S_.2.2.2 93 0 j_ = if fr_ ≤ (j_ : Int) ∧ (j_ : Int) < k_ then v0_ else S0_.2.2.2 93 0 j_) ∧ True) → ((10373 - k_).toNat) < nn_ → sm_T (mt_P sc_) 1 5 (10, [some (.inr (.inr (some (93, 0)))), some (.inl fr_), some (.inl to_), some (.inr (.inl v0_)), none, some (.inl k_)], [], S_) (fun ro9_ => ∃ u_ S1_, ro9_ = (.inl u_, S1_, 0) ∧ vq_5b3n fr_ to_ v0_ S0_ u_ S1_)) := by
  intro nn_
  induction nn_ with
  | zero => exact fun _ _ _ _ _ h_ => absurd h_ (Nat.not_lt_zero _)
  | succ nn_ ih_ =>
    rintro k_ S_ hI_ hF_ ⟨h0_, h1_, -⟩ hm_
    refine sm_T_go 2 (c1 := (13, [some (.inr (.inr (some (93, 0)))), some (.inl fr_), some (.inl to_), some (.inr (.inl v0_)), none, some (.inl k_)], [.inl to_, .inl k_], S_)) rfl ?_
    refine sm_T_br (a := 3) (z := 14) rfl (fun cx1_ => ?_) (fun cx1_ => ?_)
    · have cx1_ : to_ ≤ k_ := of_decide_eq_true cx1_
      refine sm_T_rv rfl ⟨_, _, rfl, rfl, hI_, hF_, ?_⟩
      have e9_ : k_ = to_ := by omega
      rw [← e9_]
      exact h1_
    · have cx1_ : ¬ (to_ ≤ k_) := of_decide_eq_false cx1_
      refine sm_T_go 3 (c1 := (20, [some (.inr (.inr (some (93, 0)))), some (.inl fr_), some (.inl to_), some (.inr (.inl v0_)), none, some (.inl k_)], [.inr (.inl v0_), .inl k_, .inr (.inr (some (93, 0)))], S_)) rfl ?_
      refine sm_T_last (n := 10368) rfl rfl (by omega) (by omega) ?_
      have hIx2_ : gi (sm_aL S_ 93 0 k_.toNat v0_) := gi_aL hI_
      have hFx3_ : ai_fr (sx_W vw_5b3n) S0_ (sm_aL S_ 93 0 k_.toNat v0_) := ai_fr_tr hF_ (ai_fr_aL rfl)
      refine sm_T_inc (a := 5) (z := 1) (v := k_) (w := k_ + 1) rfl rfl (by omega) (by omega) (by omega) ?_ -- pc_ 21
      refine sm_T_go 1 (c1 := (10, [some (.inr (.inr (some (93, 0)))), some (.inl fr_), some (.inl to_), some (.inr (.inl v0_)), none, some (.inl (k_ + 1))], [], sm_aL S_ 93 0 k_.toNat v0_)) rfl ?_
      refine ih_ (k_ + 1) (sm_aL S_ 93 0 k_.toNat v0_) hIx2_ hFx3_ ⟨?_, ?_, trivial⟩ ?_
      · omega
      · intro j_
        rw [rd_leq]
        by_cases z_ : j_ = k_.toNat
        · rw [if_pos z_, if_pos (by omega)]
        · rw [if_neg z_, h1_ j_]
          by_cases y_ : fr_ ≤ (j_ : Int) ∧ (j_ : Int) < k_
          · rw [if_pos y_, if_pos (by omega)]
          · rw [if_neg y_, if_neg (by omega)]
      · omega
set_option maxHeartbeats 400000 in
theorem vc_5b3n {sc_ : Nat × (Nat → Int)} (fr_ : Int) (to_ : Int) (v0_ : Int) (S0_ : sm_S) (hI_ : gi S0_) (ht_ : 0 ≤ fr_ ∧ fr_ ≤ to_ ∧ to_ ≤ 10368) : sm_T (mt_P sc_) 1 5 (0, [some (.inr (.inr (some (93, 0)))), some (.inl fr_), some (.inl to_), some (.inr (.inl v0_)), none, none], [], S0_) (fun ro9_ => ∃ u_ S1_, ro9_ = (.inl u_, S1_, 0) ∧ vq_5b3n fr_ to_ v0_ S0_ u_ S1_) := by
  have hF_ : ai_fr (sx_W vw_5b3n) S0_ S0_ := ai_fr_rf
  refine sm_T_go 4 (c1 := (4, [some (.inr (.inr (some (93, 0)))), some (.inl fr_), some (.inl to_), some (.inr (.inl v0_)), none, none], [.inl to_, .inl fr_, .inl 10368], S0_)) rfl ?_
  refine sm_T_cal (d1 := 0) (Q1 := vq_6 10368 fr_ to_ S0_) rfl rfl (by decide) (vc_6 10368 fr_ to_ S0_ hI_ (by omega)) (fun u_ Sx1_ px4_ => ?_)
  obtain ⟨rfl, hIx2_, hFx3_, px4_⟩ := px4_
  have hFx5_ : ai_fr (sx_W vw_5b3n) S0_ Sx1_ := ai_fr_tr hF_ (fr_le hFx3_ rfl)
  refine sm_T_go 2 (c1 := (10, [some (.inr (.inr (some (93, 0)))), some (.inl fr_), some (.inl to_), some (.inr (.inl v0_)), none, some (.inl fr_)], [], Sx1_)) rfl ?_
  refine (vl_5b3n fr_ to_ v0_ S0_ ht_ _) fr_ Sx1_ hIx2_ hFx5_ ⟨?_, ?_, trivial⟩ (Nat.lt_succ_self _)
  · omega
  · (intro j_; rw [if_neg (by omega)]; first | rfl | rw [px4_])
/-! Tester.keepShown -/
def vw_175n : sx_Wl := ([], [95], [])
def vq_175n (a1_ : Int) (cc_ : Nat) (S0_ : sm_S) (u_ : Option sm_V) (S1_ : sm_S) : Prop := u_ = none ∧ gi S1_ ∧ ai_fr (sx_W vw_175n) S0_ S1_ ∧ (shn S1_ ∧ (∀ w9_ i9_ : Nat, w9_ < 64 → i9_ < 64 → (lbt (S1_.2.2.2 95 0 (64 * a1_.toNat + w9_)) i9_ = true ↔ (w9_ : Int) < S0_.1 9 0 2 ∧ lbt (S0_.1 9 0 3) i9_ = true ∧ exo S0_ (ket cc_ S0_) w9_ i9_ ((S0_.1 2 cc_ 3).toNat + (S0_.1 2 cc_ 2).toNat))) ∧ ∀ j9_ : Nat, (j9_ < 64 * a1_.toNat ∨ 64 * a1_.toNat + 64 ≤ j9_) → S1_.2.2.2 95 0 j9_ = S0_.2.2.2 95 0 j9_)
set_option maxHeartbeats 2000000 in
theorem vl_175n {sc_ : Nat × (Nat → Int)} (a1_ : Int) (cc_ : Nat) (S0_ : sm_S) (hb_ : S0_.2.1 9 0 0 = some cc_) (h1_ : 0 ≤ a1_ ∧ a1_ ≤ 1223) (hn_ : shn S0_) : ∀ nn_ : Nat, (∀ (to_ : Int) (e_ : Int) (S_ : sm_S), gi S_ → ai_fr (sx_W vw_175n) S0_ S_ → ((to_ = 64 * a1_ ∧ 0 ≤ e_ ∧ e_ ≤ 22 ∧ e_ ≤ S0_.1 2 cc_ 3 + S0_.1 2 cc_ 2) ∧ (shn S_) ∧ (∀ w9_ i9_ : Nat, w9_ < 64 → i9_ < 64 → (lbt (S_.2.2.2 95 0 (64 * a1_.toNat + w9_)) i9_ = true ↔ (w9_ : Int) < S0_.1 9 0 2 ∧ lbt (S0_.1 9 0 3) i9_ = true ∧ exo S0_ (ket cc_ S0_) w9_ i9_ e_.toNat)) ∧ (∀ j9_ : Nat, (j9_ < 64 * a1_.toNat ∨ 64 * a1_.toNat + 64 ≤ j9_) → S_.2.2.2 95 0 j9_ = S0_.2.2.2 95 0 j9_) ∧ True) → ((100 * (100 - e_) + 90).toNat) < nn_ → sm_T (mt_P sc_) 2 175 (20, [some (.inr (.inr (some (9, 0)))), some (.inl a1_), some (.inl to_), some (.inl e_), none, none], [], S_) (fun ro9_ => ∃ u_ S1_, ro9_ = (.inl u_, S1_, 0) ∧ vq_175n a1_ cc_ S0_ u_ S1_)) ∧ (∀ (to_ : Int) (e_ : Int) (nt_ : Int) (w_ : Int) (S_ : sm_S), gi S_ → ai_fr (sx_W vw_175n) S0_ S_ → ((to_ = 64 * a1_ ∧ 0 ≤ e_ ∧ e_ < 22 ∧ e_ < S0_.1 2 cc_ 3 + S0_.1 2 cc_ 2 ∧ 0 ≤ nt_ ∧ nt_ ≤ 161 ∧ 0 ≤ w_ ∧ w_ ≤ 64) ∧ (shn S_) ∧ (∀ w9_ i9_ : Nat, w9_ < 64 → i9_ < 64 → (lbt (S_.2.2.2 95 0 (64 * a1_.toNat + w9_)) i9_ = true ↔ (w9_ : Int) < S0_.1 9 0 2 ∧ lbt (S0_.1 9 0 3) i9_ = true ∧ exo S0_ (ket cc_ S0_) w9_ i9_ (if (w9_ : Int) < w_ then e_.toNat + 1 else e_.toNat))) ∧ (∀ j9_ : Nat, (j9_ < 64 * a1_.toNat ∨ 64 * a1_.toNat + 64 ≤ j9_) → S_.2.2.2 95 0 j9_ = S0_.2.2.2 95 0 j9_) ∧ (nt_ = ket cc_ S0_ e_.toNat ∧ S0_.2.2.1 94 0 nt_.toNat ≠ 0) ∧ True) → ((100 * (100 - e_) + 80 - w_).toNat) < nn_ → sm_T (mt_P sc_) 2 175 (59, [some (.inr (.inr (some (9, 0)))), some (.inl a1_), some (.inl to_), some (.inl e_), some (.inl nt_), some (.inl w_)], [], S_) (fun ro9_ => ∃ u_ S1_, ro9_ = (.inl u_, S1_, 0) ∧ vq_175n a1_ cc_ S0_ u_ S1_)) := by
  intro nn_
  induction nn_ with
  | zero => exact ⟨fun _ _ _ _ _ _ h_ => absurd h_ (Nat.not_lt_zero _), fun _ _ _ _ _ _ _ _ h_ => absurd h_ (Nat.not_lt_zero _)⟩
  | succ nn_ ih_ =>
    refine ⟨?_, ?_⟩
    · rintro to_ e_ S_ hI_ hF_ ⟨h0_, hn1_, hs_, ho_, -⟩ hm_
      have z1_ : S_.1 2 cc_ 1 = S0_.1 2 cc_ 1 := hF_.1 2 cc_ 1 rfl
      have z2_ : S_.1 2 cc_ 2 = S0_.1 2 cc_ 2 := hF_.1 2 cc_ 2 rfl
      have co_ : 0 ≤ S_.1 2 cc_ 3 ∧ S_.1 2 cc_ 3 ≤ 16 := hI_.1 2 cc_ 3 rfl
      have cr : 0 ≤ S_.1 2 cc_ 2 ∧ S_.1 2 cc_ 2 ≤ 6 := hI_.1 2 cc_ 2 rfl
      have cw : 0 ≤ S_.1 9 0 2 ∧ S_.1 9 0 2 ≤ 64 := hI_.1 9 0 2 rfl
      have z3_ : S_.1 2 cc_ 3 = S0_.1 2 cc_ 3 := hF_.1 2 cc_ 3 rfl
      have x2_ : S_.1 9 0 2 = S0_.1 9 0 2 := hF_.1 9 0 2 rfl
      have x3_ : S_.1 9 0 3 = S0_.1 9 0 3 := hF_.1 9 0 3 rfl
      have f92_ : S_.2.2.2 92 0 = S0_.2.2.2 92 0 := fr_lon (t_ := 92) (i_ := 0) hF_ rfl
      have f93_ : S_.2.2.2 93 0 = S0_.2.2.2 93 0 := fr_lon (t_ := 93) (i_ := 0) hF_ rfl
      have f94_ : S_.2.2.1 94 0 = S0_.2.2.1 94 0 := fr_arr hF_ rfl
      refine sm_T_go 2 (c1 := (22, [some (.inr (.inr (some (9, 0)))), some (.inl a1_), some (.inl to_), some (.inl e_), none, none], [.inr (.inr (some (9, 0))), .inl e_], S_)) rfl ?_
      refine sm_T_gr rfl rfl ((hF_.2.1 9 0 0 rfl).trans hb_) ?_
      refine sm_T_cal (d1 := 0) (Q1 := vq_57 cc_ S_) rfl rfl (by decide) (vc_57 cc_ S_ hI_ ) (fun u_ Sx1_ px4_ => ?_)
      obtain ⟨rfl, vx6_, rfl, px4_⟩ := px4_
      have g25_ := px4_
      refine sm_T_br (a := 3) (z := 96) rfl (fun cx7_ => ?_) (fun cx7_ => ?_)
      · have cx7_ : vx6_ ≤ e_ := of_decide_eq_true cx7_
        refine sm_T_rv rfl ⟨_, _, rfl, rfl, hI_, hF_, ?_⟩
        refine ⟨hn1_, ?_, ho_⟩
        intro w9_ i9_ hw9_ hi9_
        have z9_ := hs_ w9_ i9_ hw9_ hi9_
        rw [show e_.toNat = (S0_.1 2 cc_ 3).toNat + (S0_.1 2 cc_ 2).toNat by omega] at z9_
        exact z9_
      · have cx7_ : ¬ (vx6_ ≤ e_) := of_decide_eq_false cx7_
        refine sm_T_go 1 (c1 := (32, [some (.inr (.inr (some (9, 0)))), some (.inl a1_), some (.inl to_), some (.inl e_), none, none], [.inr (.inr (some (9, 0)))], S_)) rfl ?_
        refine sm_T_gr rfl rfl ((hF_.2.1 9 0 0 rfl).trans hb_) ?_
        refine sm_T_go 1 (c1 := (36, [some (.inr (.inr (some (9, 0)))), some (.inl a1_), some (.inl to_), some (.inl e_), none, none], [.inl e_, .inr (.inr (some (2, cc_)))], S_)) rfl ?_
        refine sm_T_cal (d1 := 0) (Q1 := vq_58n e_ cc_ S_) rfl rfl (by decide) (vc_58n e_ cc_ S_ hI_ (by omega)) (fun u_ Sx8_ px11_ => ?_)
        obtain ⟨rfl, vx13_, rfl, px11_⟩ := px11_
        have g36_ := px11_.1
        have n36_ := px11_.2
        rw [ket_fr hF_] at n36_
        refine sm_T_go 2 (c1 := (43, [some (.inr (.inr (some (9, 0)))), some (.inl a1_), some (.inl to_), some (.inl e_), some (.inl vx13_), none], [.inl vx13_], S_)) rfl ?_
        refine sm_T_b0 (a := 2) (z := 75) rfl (fun cx14_ => ?_) (fun cx14_ => ?_)
        · have cx14_ : vx13_ < 0 := of_decide_eq_true cx14_
          refine sm_T_inc (a := 3) (z := 1) (v := e_) (w := e_ + 1) rfl rfl (by omega) (by omega) (by omega) ?_ -- pc_ 118
          refine sm_T_go 1 (c1 := (20, [some (.inr (.inr (some (9, 0)))), some (.inl a1_), some (.inl to_), some (.inl (e_ + 1)), some (.inl vx13_), none], [], S_)) rfl ?_
          refine sm_T_wk [some (.inr (.inr (some (9, 0)))), some (.inl a1_), some (.inl to_), some (.inl (e_ + 1)), none, none] (by exact ⟨rfl, rfl, rfl, rfl, trivial⟩) ?_
          refine ih_.1 to_ (e_ + 1) S_ hI_ hF_ ⟨?_, ?_, ?_, ?_, trivial⟩ ?_
          · omega
          · exact hn1_
          · intro w9_ i9_ hw9_ hi9_
            rw [show (e_ + 1).toNat = e_.toNat + 1 by omega, hs_ w9_ i9_ hw9_ hi9_, exo_n (by (rw [← n36_]; first | (left; omega) | (right; rw [← f94_]; omega)))]
          · exact ho_
          · omega
        · have cx14_ : ¬ (vx13_ < 0) := of_decide_eq_false cx14_
          refine sm_T_go 3 (c1 := (52, [some (.inr (.inr (some (9, 0)))), some (.inl a1_), some (.inl to_), some (.inl e_), some (.inl vx13_), none], [.inl vx13_, .inr (.inr (some (94, 0)))], S_)) rfl ?_
          refine sm_T_iald (n := 162) rfl rfl (by omega) (by omega) ?_
          have bx15_ : 0 ≤ S_.2.2.1 94 0 vx13_.toNat ∧ S_.2.2.1 94 0 vx13_.toNat ≤ 1 := hI_.2 94 0 _
          refine sm_T_b0 (a := 0) (z := 65) rfl (fun cx16_ => ?_) (fun cx16_ => ?_)
          · have cx16_ : (S_.2.2.1 94 0 vx13_.toNat) = 0 := of_decide_eq_true cx16_
            refine sm_T_inc (a := 3) (z := 1) (v := e_) (w := e_ + 1) rfl rfl (by omega) (by omega) (by omega) ?_ -- pc_ 118
            refine sm_T_go 1 (c1 := (20, [some (.inr (.inr (some (9, 0)))), some (.inl a1_), some (.inl to_), some (.inl (e_ + 1)), some (.inl vx13_), none], [], S_)) rfl ?_
            refine sm_T_wk [some (.inr (.inr (some (9, 0)))), some (.inl a1_), some (.inl to_), some (.inl (e_ + 1)), none, none] (by exact ⟨rfl, rfl, rfl, rfl, trivial⟩) ?_
            refine ih_.1 to_ (e_ + 1) S_ hI_ hF_ ⟨?_, ?_, ?_, ?_, trivial⟩ ?_
            · omega
            · exact hn1_
            · intro w9_ i9_ hw9_ hi9_
              rw [show (e_ + 1).toNat = e_.toNat + 1 by omega, hs_ w9_ i9_ hw9_ hi9_, exo_n (by (rw [← n36_]; first | (left; omega) | (right; rw [← f94_]; omega)))]
            · exact ho_
            · omega
          · have cx16_ : ¬ ((S_.2.2.1 94 0 vx13_.toNat) = 0) := of_decide_eq_false cx16_
            refine sm_T_go 2 (c1 := (59, [some (.inr (.inr (some (9, 0)))), some (.inl a1_), some (.inl to_), some (.inl e_), some (.inl vx13_), some (.inl 0)], [], S_)) rfl ?_
            refine ih_.2 to_ e_ vx13_ 0 S_ hI_ hF_ ⟨?_, ?_, ?_, ?_, ?_, trivial⟩ ?_
            · omega
            · exact hn1_
            · intro w9_ i9_ hw9_ hi9_
              rw [if_neg (by omega)]
              exact hs_ w9_ i9_ hw9_ hi9_
            · exact ho_
            · (refine ⟨n36_, ?_⟩; rw [← f94_]; omega)
            · omega
    · rintro to_ e_ nt_ w_ S_ hI_ hF_ ⟨h0_, hn1_, hs_, ho_, hnt_, -⟩ hm_
      have z1_ : S_.1 2 cc_ 1 = S0_.1 2 cc_ 1 := hF_.1 2 cc_ 1 rfl
      have z2_ : S_.1 2 cc_ 2 = S0_.1 2 cc_ 2 := hF_.1 2 cc_ 2 rfl
      have co_ : 0 ≤ S_.1 2 cc_ 3 ∧ S_.1 2 cc_ 3 ≤ 16 := hI_.1 2 cc_ 3 rfl
      have cr : 0 ≤ S_.1 2 cc_ 2 ∧ S_.1 2 cc_ 2 ≤ 6 := hI_.1 2 cc_ 2 rfl
      have cw : 0 ≤ S_.1 9 0 2 ∧ S_.1 9 0 2 ≤ 64 := hI_.1 9 0 2 rfl
      have z3_ : S_.1 2 cc_ 3 = S0_.1 2 cc_ 3 := hF_.1 2 cc_ 3 rfl
      have x2_ : S_.1 9 0 2 = S0_.1 9 0 2 := hF_.1 9 0 2 rfl
      have x3_ : S_.1 9 0 3 = S0_.1 9 0 3 := hF_.1 9 0 3 rfl
      have f92_ : S_.2.2.2 92 0 = S0_.2.2.2 92 0 := fr_lon (t_ := 92) (i_ := 0) hF_ rfl
      have f93_ : S_.2.2.2 93 0 = S0_.2.2.2 93 0 := fr_lon (t_ := 93) (i_ := 0) hF_ rfl
      have f94_ : S_.2.2.1 94 0 = S0_.2.2.1 94 0 := fr_arr hF_ rfl
      have bx1_ : 0 ≤ S_.1 9 0 2 ∧ S_.1 9 0 2 ≤ 64 := hI_.1 9 0 2 rfl
      refine sm_T_go 3 (c1 := (65, [some (.inr (.inr (some (9, 0)))), some (.inl a1_), some (.inl to_), some (.inl e_), some (.inl nt_), some (.inl w_)], [.inl (S_.1 9 0 2), .inl w_], S_)) rfl ?_
      refine sm_T_br (a := 3) (z := 53) rfl (fun cx2_ => ?_) (fun cx2_ => ?_)
      · have cx2_ : (S_.1 9 0 2) ≤ w_ := of_decide_eq_true cx2_
        refine sm_T_inc (a := 3) (z := 1) (v := e_) (w := e_ + 1) rfl rfl (by omega) (by omega) (by omega) ?_ -- pc_ 118
        refine sm_T_go 1 (c1 := (20, [some (.inr (.inr (some (9, 0)))), some (.inl a1_), some (.inl to_), some (.inl (e_ + 1)), some (.inl nt_), some (.inl w_)], [], S_)) rfl ?_
        refine sm_T_wk [some (.inr (.inr (some (9, 0)))), some (.inl a1_), some (.inl to_), some (.inl (e_ + 1)), none, none] (by exact ⟨rfl, rfl, rfl, rfl, trivial⟩) ?_
        refine ih_.1 to_ (e_ + 1) S_ hI_ hF_ ⟨?_, ?_, ?_, ?_, trivial⟩ ?_
        · omega
        · exact hn1_
        · intro w9_ i9_ hw9_ hi9_
          rw [show (e_ + 1).toNat = e_.toNat + 1 by omega]
          have z9_ := hs_ w9_ i9_ hw9_ hi9_
          by_cases y9_ : (w9_ : Int) < S0_.1 9 0 2
          · rw [if_pos (by omega)] at z9_; exact z9_
          · rw [z9_]; exact ⟨fun q9_ => absurd q9_.1 y9_, fun q9_ => absurd q9_.1 y9_⟩
        · exact ho_
        · omega
      · have cx2_ : ¬ ((S_.1 9 0 2) ≤ w_) := of_decide_eq_false cx2_
        refine sm_T_go 4 (c1 := (75, [some (.inr (.inr (some (9, 0)))), some (.inl a1_), some (.inl to_), some (.inl e_), some (.inl nt_), some (.inl w_)], [.inl w_, .inl to_, .inr (.inr (some (95, 0)))], S_)) rfl ?_
        refine sm_T_bin (w := to_ + w_) rfl (bi_add (by omega) (by omega) (by omega)) ?_ -- pc_ 75
        refine sm_T_go 1 (c1 := (77, [some (.inr (.inr (some (9, 0)))), some (.inl a1_), some (.inl to_), some (.inl e_), some (.inl nt_), some (.inl w_)], [.inl (to_ + w_), .inr (.inr (some (95, 0))), .inl (to_ + w_), .inr (.inr (some (95, 0)))], S_)) rfl ?_
        refine sm_T_lald (n := 78336) rfl rfl (by omega) (by omega) ?_
        refine sm_T_go 4 (c1 := (86, [some (.inr (.inr (some (9, 0)))), some (.inl a1_), some (.inl to_), some (.inl e_), some (.inl nt_), some (.inl w_)], [.inl 64, .inl nt_, .inr (.inr (some (92, 0))), .inr (.inl (S_.2.2.2 95 0 (to_ + w_).toNat)), .inl (to_ + w_), .inr (.inr (some (95, 0)))], S_)) rfl ?_
        refine sm_T_bin (w := 64 * nt_) rfl (bi_mul (by omega) (by omega) (by omega)) ?_ -- pc_ 86
        refine sm_T_go 1 (c1 := (89, [some (.inr (.inr (some (9, 0)))), some (.inl a1_), some (.inl to_), some (.inl e_), some (.inl nt_), some (.inl w_)], [.inl w_, .inl (64 * nt_), .inr (.inr (some (92, 0))), .inr (.inl (S_.2.2.2 95 0 (to_ + w_).toNat)), .inl (to_ + w_), .inr (.inr (some (95, 0)))], S_)) rfl ?_
        refine sm_T_bin (w := 64 * nt_ + w_) rfl (bi_add (by omega) (by omega) (by omega)) ?_ -- pc_ 89
        refine sm_T_lald (n := 10368) rfl rfl (by omega) (by omega) ?_
        refine sm_T_go 4 (c1 := (99, [some (.inr (.inr (some (9, 0)))), some (.inl a1_), some (.inl to_), some (.inl e_), some (.inl nt_), some (.inl w_)], [.inl 64, .inl nt_, .inr (.inr (some (93, 0))), .inr (.inl (S_.2.2.2 92 0 (64 * nt_ + w_).toNat)), .inr (.inl (S_.2.2.2 95 0 (to_ + w_).toNat)), .inl (to_ + w_), .inr (.inr (some (95, 0)))], S_)) rfl ?_
        refine sm_T_bin (w := 64 * nt_) rfl (bi_mul (by omega) (by omega) (by omega)) ?_ -- pc_ 99
        refine sm_T_go 1 (c1 := (102, [some (.inr (.inr (some (9, 0)))), some (.inl a1_), some (.inl to_), some (.inl e_), some (.inl nt_), some (.inl w_)], [.inl w_, .inl (64 * nt_), .inr (.inr (some (93, 0))), .inr (.inl (S_.2.2.2 92 0 (64 * nt_ + w_).toNat)), .inr (.inl (S_.2.2.2 95 0 (to_ + w_).toNat)), .inl (to_ + w_), .inr (.inr (some (95, 0)))], S_)) rfl ?_
        refine sm_T_bin (w := 64 * nt_ + w_) rfl (bi_add (by omega) (by omega) (by omega)) ?_ -- pc_ 102
        refine sm_T_lald (n := 10368) rfl rfl (by omega) (by omega) ?_
        refine sm_T_go 5 (c1 := (111, [some (.inr (.inr (some (9, 0)))), some (.inl a1_), some (.inl to_), some (.inl e_), some (.inl nt_), some (.inl w_)], [.inr (.inl (l_4 ((S_.2.2.2 95 0 (to_ + w_).toNat)) ((l_3 ((l_5 ((S_.2.2.2 92 0 (64 * nt_ + w_).toNat)) ((S_.2.2.2 93 0 (64 * nt_ + w_).toNat)))) (S_.1 9 0 3))))), .inl (to_ + w_), .inr (.inr (some (95, 0)))], S_)) rfl ?_
        refine sm_T_last (n := 78336) rfl rfl (by omega) (by omega) ?_
        have hIx3_ : gi (sm_aL S_ 95 0 (to_ + w_).toNat ((l_4 ((S_.2.2.2 95 0 (to_ + w_).toNat)) ((l_3 ((l_5 ((S_.2.2.2 92 0 (64 * nt_ + w_).toNat)) ((S_.2.2.2 93 0 (64 * nt_ + w_).toNat)))) (S_.1 9 0 3)))))) := gi_aL hI_
        have hFx4_ : ai_fr (sx_W vw_175n) S0_ (sm_aL S_ 95 0 (to_ + w_).toNat ((l_4 ((S_.2.2.2 95 0 (to_ + w_).toNat)) ((l_3 ((l_5 ((S_.2.2.2 92 0 (64 * nt_ + w_).toNat)) ((S_.2.2.2 93 0 (64 * nt_ + w_).toNat)))) (S_.1 9 0 3)))))) := ai_fr_tr hF_ (ai_fr_aL rfl)
        refine sm_T_inc (a := 5) (z := 1) (v := w_) (w := w_ + 1) rfl rfl (by omega) (by omega) (by omega) ?_ -- pc_ 112
        refine sm_T_go 1 (c1 := (59, [some (.inr (.inr (some (9, 0)))), some (.inl a1_), some (.inl to_), some (.inl e_), some (.inl nt_), some (.inl (w_ + 1))], [], sm_aL S_ 95 0 (to_ + w_).toNat ((l_4 ((S_.2.2.2 95 0 (to_ + w_).toNat)) ((l_3 ((l_5 ((S_.2.2.2 92 0 (64 * nt_ + w_).toNat)) ((S_.2.2.2 93 0 (64 * nt_ + w_).toNat)))) (S_.1 9 0 3))))))) rfl ?_
        refine ih_.2 to_ e_ nt_ (w_ + 1) (sm_aL S_ 95 0 (to_ + w_).toNat ((l_4 ((S_.2.2.2 95 0 (to_ + w_).toNat)) ((l_3 ((l_5 ((S_.2.2.2 92 0 (64 * nt_ + w_).toNat)) ((S_.2.2.2 93 0 (64 * nt_ + w_).toNat)))) (S_.1 9 0 3)))))) hIx3_ hFx4_ ⟨?_, ?_, ?_, ?_, ?_, trivial⟩ ?_
        · omega
        · intro k_
          rw [rd_leq]
          split
          · exact nl9_4 _ _
          · exact hn1_ k_
        · intro w9_ i9_ hw9_ hi9_
          rw [rd_leq]
          have z9_ := hs_ w9_ i9_ hw9_ hi9_
          by_cases y9_ : w9_ = w_.toNat
          · rw [if_pos (by omega), if_pos (by omega), x3_, f92_, f93_]
            rw [if_neg (by omega)] at z9_
            rw [show 64 * a1_.toNat + w9_ = (to_ + w_).toNat by omega] at z9_
            refine shx_s (by omega) z9_ ?_
            have k9_ := exo_s (S_ := S0_) (ke_ := (ket cc_ S0_)) (w_ := w9_) (i_ := i9_) (K_ := e_.toNat) (by (rw [← hnt_.1]; omega)) (by (rw [← hnt_.1]; exact hnt_.2))
            rw [← hnt_.1, show 64 * nt_.toNat + w9_ = (64 * nt_ + w_).toNat by omega] at k9_
            exact k9_
          · rw [if_neg (by omega)]
            by_cases x9_ : (w9_ : Int) < w_
            · rw [if_pos x9_] at z9_; rw [if_pos (by omega)]; exact z9_
            · rw [if_neg x9_] at z9_; rw [if_neg (by omega)]; exact z9_
        · (intro j9_ hj9_; rw [rd_leq, if_neg (by omega)]; exact ho_ j9_ hj9_)
        · exact hnt_
        · omega
set_option maxHeartbeats 2000000 in
theorem vc_175n {sc_ : Nat × (Nat → Int)} (a1_ : Int) (cc_ : Nat) (S0_ : sm_S) (hI_ : gi S0_) (hb_ : S0_.2.1 9 0 0 = some cc_) (h1_ : 0 ≤ a1_ ∧ a1_ ≤ 1223) (hn_ : shn S0_) : sm_T (mt_P sc_) 2 175 (0, [some (.inr (.inr (some (9, 0)))), some (.inl a1_), none, none, none, none], [], S0_) (fun ro9_ => ∃ u_ S1_, ro9_ = (.inl u_, S1_, 0) ∧ vq_175n a1_ cc_ S0_ u_ S1_) := by
  have hF_ : ai_fr (sx_W vw_175n) S0_ S0_ := ai_fr_rf
  refine sm_T_go 2 (c1 := (3, [some (.inr (.inr (some (9, 0)))), some (.inl a1_), none, none, none, none], [.inl 64, .inl a1_], S0_)) rfl ?_
  refine sm_T_bin (w := 64 * a1_) rfl (bi_mul (by omega) (by omega) (by omega)) ?_ -- pc_ 3
  refine sm_T_go 6 (c1 := (13, [some (.inr (.inr (some (9, 0)))), some (.inl a1_), some (.inl (64 * a1_)), none, none, none], [.inl 64, .inl (64 * a1_), .inl (64 * a1_), .inr (.inr (some (95, 0)))], S0_)) rfl ?_
  refine sm_T_bin (w := 64 * a1_ + 64) rfl (bi_add (by omega) (by omega) (by omega)) ?_ -- pc_ 13
  refine sm_T_go 1 (c1 := (15, [some (.inr (.inr (some (9, 0)))), some (.inl a1_), some (.inl (64 * a1_)), none, none, none], [.inr (.inl 0), .inl (64 * a1_ + 64), .inl (64 * a1_), .inr (.inr (some (95, 0)))], S0_)) rfl ?_
  refine sm_T_cal (d1 := 1) (Q1 := vq_5h5n (64 * a1_) (64 * a1_ + 64) 0 S0_) rfl rfl (by decide) (vc_5h5n (64 * a1_) (64 * a1_ + 64) 0 S0_ hI_ (by omega)) (fun u_ Sx1_ px4_ => ?_)
  obtain ⟨rfl, hIx2_, hFx3_, px4_⟩ := px4_
  have hFx5_ : ai_fr (sx_W vw_175n) S0_ Sx1_ := ai_fr_tr hF_ (fr_le hFx3_ rfl)
  have f15_ := px4_
  refine sm_T_go 2 (c1 := (20, [some (.inr (.inr (some (9, 0)))), some (.inl a1_), some (.inl (64 * a1_)), some (.inl 0), none, none], [], Sx1_)) rfl ?_
  refine (vl_175n a1_ cc_ S0_ hb_ h1_ hn_ _).1 (64 * a1_) 0 Sx1_ hIx2_ hFx5_ ⟨?_, ?_, ?_, ?_, trivial⟩ (Nat.lt_succ_self _)
  · (have q1_ : 0 ≤ S0_.1 2 cc_ 3 := (hI_.1 2 cc_ 3 rfl).1; have q2_ : 0 ≤ S0_.1 2 cc_ 2 := (hI_.1 2 cc_ 2 rfl).1; omega)
  · (intro k_; rw [f15_ k_]; split; exact nl9_0; exact hn_ k_)
  · intro w9_ i9_ hw9_ hi9_
    rw [f15_, if_pos (by omega), lbt_0]
    exact ⟨fun z9_ => absurd z9_ (by decide), fun ⟨_, _, k9_, hk9_, _⟩ => absurd hk9_ (Nat.not_lt_zero _)⟩
  · (intro j9_ hj9_; rw [f15_, if_neg (by omega)])
