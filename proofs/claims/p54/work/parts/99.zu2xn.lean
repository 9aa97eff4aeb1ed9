/-! the class: prepared or not; written by wip/p55/gen/vg -/

/-- the_ tester's mask and words -/
def mkq (cc_ : Nat) (S_ : sm_S) : Prop := (∀ i9_ : Nat, i9_ < 64 → lbt (S_.1 9 0 3) i9_ = decide ((i9_ : Int) < 2 ^ (S_.1 2 cc_ 1 + S_.1 2 cc_ 2).toNat ∨ 6 ≤ S_.1 2 cc_ 1 + S_.1 2 cc_ 2)) ∧ (6 ≤ S_.1 2 cc_ 1 + S_.1 2 cc_ 2 → 64 * S_.1 9 0 2 = 2 ^ (S_.1 2 cc_ 1 + S_.1 2 cc_ 2).toNat) ∧ (S_.1 2 cc_ 1 + S_.1 2 cc_ 2 < 6 → S_.1 9 0 2 = 1)
/-- the_ faults of_ a_ chip: how_ many -/
def cgs (cc_ : Nat) (S_ : sm_S) (g_ : Nat) : Nat := (kcN cc_ S_ g_).toNat
def cnc (cc_ : Nat) (S_ : sm_S) : Int := S_.1 2 cc_ 1 + S_.1 2 cc_ 2 + S_.1 2 cc_ 8
def cfu9 (cc_ : Nat) (S_ : sm_S) : Int := 2 * cnc cc_ S_ + 2 * ((sn9 (cgs cc_ S_) (S_.1 2 cc_ 8).toNat : Nat) : Int)
/-- pattern p_ shows fault f_: the_ class's chip -/
def cshq (cc_ : Nat) (S_ : sm_S) (f_ : Int) (p_ : Nat) (b_ : Bool) : Prop := ∃ (st_ pn_ : Int) (v_ u_ : Nat → Bool), fdq (cnc cc_ S_) (cgs cc_ S_) (S_.1 2 cc_ 8).toNat f_ st_ pn_ ∧ cvq (S_.1 2 cc_ 1 + S_.1 2 cc_ 2).toNat (S_.1 2 cc_ 8).toNat (kcT cc_ S_) (kcN cc_ S_) (kcA cc_ S_) p_ v_ ∧ cvf (S_.1 2 cc_ 1 + S_.1 2 cc_ 2).toNat (S_.1 2 cc_ 8).toNat (kcT cc_ S_) (kcN cc_ S_) (kcA cc_ S_) st_ pn_ (decide (f_ % 2 = 1)) p_ u_ ∧ (b_ = true ↔ shd v_ u_ (S_.2.2.1 37 (0 + cc_)) (S_.2.2.1 38 (0 + cc_)) (S_.1 2 cc_ 3).toNat (S_.1 2 cc_ 2).toNat)
/-- what is_ kept of_ fault f_ is_ right -/
def shk9 (cc_ : Nat) (S_ : sm_S) (f_ : Nat) : Prop := (∀ p_ : Nat, (p_ : Int) < 2 ^ (S_.1 2 cc_ 1 + S_.1 2 cc_ 2).toNat → cshq cc_ S_ (f_ : Int) p_ (lbt (S_.2.2.2 95 0 (64 * f_ + p_ / 64)) (p_ % 64))) ∧ ∀ w_ i_ : Nat, w_ < 64 → i_ < 64 → ¬ ((i_ : Int) < 2 ^ (S_.1 2 cc_ 1 + S_.1 2 cc_ 2).toNat ∨ 6 ≤ S_.1 2 cc_ 1 + S_.1 2 cc_ 2) → lbt (S_.2.2.2 95 0 (64 * f_ + w_)) i_ = false
def rdy9 (cc_ : Nat) (S_ : sm_S) : Prop := ∀ f_ : Nat, (f_ : Int) < cfu9 cc_ S_ → S_.2.2.1 96 0 f_ ≠ 0 → shk9 cc_ S_ f_
/-- what the_ tester holds is_ right for_ chip cc_ -/
def tok9 (cc_ : Nat) (S_ : sm_S) : Prop := kcv cc_ S_ ∧ mkq cc_ S_ ∧ rdy9 cc_ S_
/-- what was_ ready stays, where the_ chip was_ prepared -/
def rdk (cc_ : Nat) (S0_ S1_ : sm_S) : Prop := S0_.2.1 9 0 0 = some cc_ → S0_.1 9 0 1 = S0_.1 2 cc_ 19 → S1_.2.2.1 96 0 = S0_.2.2.1 96 0
theorem cfu_q9 {cc_ : Nat} {S_ : sm_S} (hI_ : gi S_) (h_ : S_.1 2 cc_ 1 + S_.1 2 cc_ 2 ≤ 12) : cfu9 cc_ S_ ≤ 1224 := by
  have d_ : 0 ≤ S_.1 2 cc_ 8 ∧ S_.1 2 cc_ 8 ≤ 150 := hI_.1 2 cc_ 8 rfl
  have e_ := sn9_b (g_ := cgs cc_ S_) (M_ := 3) (fun k_ => by
    unfold cgs kcN
    have q_ : S_.2.2.1 55 (0 + (3 + cc_)) (S_.2.2.1 35 (0 + cc_) k_).toNat ≤ 3 := (hI_.2 55 (0 + (3 + cc_)) _).2
    omega) (S_.1 2 cc_ 8).toNat
  unfold cfu9 cnc
  omega
/-! Tester.prepare -/
def vw_168f : sx_Wl := ([(9, 1), (9, 2), (9, 3)], [92, 93, 94, 96], [(9, 0)])
def vq_168f (cc_ : Nat) (S0_ : sm_S) (u_ : Option sm_V) (S1_ : sm_S) : Prop := u_ = none ∧ gi S1_ ∧ ai_fr (sx_W vw_168f) S0_ S1_ ∧ (rdk cc_ S0_ S1_ ∧ S1_.2.1 9 0 0 = some cc_ ∧ S1_.1 9 0 1 = S0_.1 2 cc_ 19 ∧ tok9 cc_ S1_)
set_option maxHeartbeats 400000 in
set_option maxRecDepth 20000 in
theorem vl_168f {sc_ : Nat × (Nat → Int)} (cc_ : Nat) (S0_ : sm_S) (hs_ : S0_.1 2 cc_ 1 + S0_.1 2 cc_ 2 ≤ 12) (hn_ : S0_.2.1 9 0 0 = some cc_ → S0_.1 9 0 1 = S0_.1 2 cc_ 19 → tok9 cc_ S0_) : ∀ nn_ : Nat, (∀ (bt_ : Int) (n_ : Int) (S_ : sm_S), gi S_ → ai_fr (sx_W vw_168f) S0_ S_ → ((0 ≤ bt_ ∧ bt_ ≤ 12 ∧ bt_ = S0_.1 2 cc_ 1 + S0_.1 2 cc_ 2 ∧ 0 ≤ n_ ∧ n_ ≤ bt_) ∧ (S_.2.1 9 0 0 = some cc_) ∧ (S_.1 9 0 2 ≤ 64 ∧ (2 : Int) ^ bt_.toNat ≤ 64 * S_.1 9 0 2) ∧ (S_.1 9 0 1 = S0_.1 2 cc_ 19) ∧ (tch0 S_) ∧ ((∀ i9_ : Nat, i9_ < 64 → lbt (S_.1 9 0 3) i9_ = decide ((i9_ : Int) < 2 ^ bt_.toNat ∨ 6 ≤ bt_)) ∧ (6 ≤ bt_ → 64 * S_.1 9 0 2 = 2 ^ bt_.toNat) ∧ (bt_ < 6 → S_.1 9 0 2 = 1)) ∧ (∀ f9_ : Nat, f9_ < 1224 → S_.2.2.1 96 0 f9_ = 0) ∧ (S0_.2.1 9 0 0 = some cc_ → S0_.1 9 0 1 = S0_.1 2 cc_ 19 → False) ∧ (∀ m9_ : Nat, (m9_ : Int) < n_ → ∀ w9_ : Nat, (w9_ : Int) < S_.1 9 0 2 → S_.2.2.2 92 0 (64 * m9_ + w9_) = bwv m9_ w9_) ∧ True) → ((100000 + 100 * (100 - n_) + 90).toNat) < nn_ → sm_T (mt_P sc_) 3 168 (99, [some (.inr (.inr (some (9, 0)))), some (.inr (.inr (some (2, cc_)))), some (.inl bt_), some (.inl n_), none], [], S_) (fun ro9_ => ∃ u_ S1_, ro9_ = (.inl u_, S1_, 0) ∧ vq_168f cc_ S0_ u_ S1_)) ∧ (∀ (bt_ : Int) (n_ : Int) (w_ : Int) (S_ : sm_S), gi S_ → ai_fr (sx_W vw_168f) S0_ S_ → ((0 ≤ bt_ ∧ bt_ ≤ 12 ∧ bt_ = S0_.1 2 cc_ 1 + S0_.1 2 cc_ 2 ∧ 0 ≤ n_ ∧ n_ < bt_ ∧ 0 ≤ w_ ∧ w_ ≤ 64) ∧ (S_.2.1 9 0 0 = some cc_) ∧ (S_.1 9 0 2 ≤ 64 ∧ (2 : Int) ^ bt_.toNat ≤ 64 * S_.1 9 0 2) ∧ (S_.1 9 0 1 = S0_.1 2 cc_ 19) ∧ (tch0 S_) ∧ ((∀ i9_ : Nat, i9_ < 64 → lbt (S_.1 9 0 3) i9_ = decide ((i9_ : Int) < 2 ^ bt_.toNat ∨ 6 ≤ bt_)) ∧ (6 ≤ bt_ → 64 * S_.1 9 0 2 = 2 ^ bt_.toNat) ∧ (bt_ < 6 → S_.1 9 0 2 = 1)) ∧ (∀ f9_ : Nat, f9_ < 1224 → S_.2.2.1 96 0 f9_ = 0) ∧ (S0_.2.1 9 0 0 = some cc_ → S0_.1 9 0 1 = S0_.1 2 cc_ 19 → False) ∧ (∀ m9_ : Nat, (m9_ : Int) < n_ → ∀ w9_ : Nat, (w9_ : Int) < S_.1 9 0 2 → S_.2.2.2 92 0 (64 * m9_ + w9_) = bwv m9_ w9_) ∧ (∀ w9_ : Nat, (w9_ : Int) < w_ → S_.2.2.2 92 0 (64 * n_.toNat + w9_) = bwv n_.toNat w9_) ∧ True) → ((100000 + 100 * (100 - n_) + 80 - w_).toNat) < nn_ → sm_T (mt_P sc_) 3 168 (107, [some (.inr (.inr (some (9, 0)))), some (.inr (.inr (some (2, cc_)))), some (.inl bt_), some (.inl n_), some (.inl w_)], [], S_) (fun ro9_ => ∃ u_ S1_, ro9_ = (.inl u_, S1_, 0) ∧ vq_168f cc_ S0_ u_ S1_)) ∧ (∀ (bt_ : Int) (g_ : Int) (S_ : sm_S), gi S_ → ai_fr (sx_W vw_168f) S0_ S_ → ((0 ≤ bt_ ∧ bt_ ≤ 12 ∧ bt_ = S0_.1 2 cc_ 1 + S0_.1 2 cc_ 2 ∧ 0 ≤ g_ ∧ g_ ≤ S0_.1 2 cc_ 8) ∧ (S_.2.1 9 0 0 = some cc_) ∧ (S_.1 9 0 2 ≤ 64 ∧ (2 : Int) ^ bt_.toNat ≤ 64 * S_.1 9 0 2) ∧ (S_.1 9 0 1 = S0_.1 2 cc_ 19) ∧ (tch0 S_) ∧ ((∀ i9_ : Nat, i9_ < 64 → lbt (S_.1 9 0 3) i9_ = decide ((i9_ : Int) < 2 ^ bt_.toNat ∨ 6 ≤ bt_)) ∧ (6 ≤ bt_ → 64 * S_.1 9 0 2 = 2 ^ bt_.toNat) ∧ (bt_ < 6 → S_.1 9 0 2 = 1)) ∧ (∀ f9_ : Nat, f9_ < 1224 → S_.2.2.1 96 0 f9_ = 0) ∧ (S0_.2.1 9 0 0 = some cc_ → S0_.1 9 0 1 = S0_.1 2 cc_ 19 → False) ∧ (∀ q9_ : Nat, ((q9_ / 64 : Nat) : Int) < S_.1 9 0 2 → cvq bt_.toNat g_.toNat (kcT cc_ S0_) (kcN cc_ S0_) (kcA cc_ S0_) q9_ (fun n_ => pvl (S_.2.2.2 92 0) n_ q9_)) ∧ True) → ((10000 - g_).toNat) < nn_ → sm_T (mt_P sc_) 3 168 (148, [some (.inr (.inr (some (9, 0)))), some (.inr (.inr (some (2, cc_)))), some (.inl bt_), some (.inl g_), none], [], S_) (fun ro9_ => ∃ u_ S1_, ro9_ = (.inl u_, S1_, 0) ∧ vq_168f cc_ S0_ u_ S1_)) := by
  intro nn_
  induction nn_ with
  | zero => exact ⟨fun _ _ _ _ _ _ h_ => absurd h_ (Nat.not_lt_zero _), fun _ _ _ _ _ _ _ h_ => absurd h_ (Nat.not_lt_zero _), fun _ _ _ _ _ _ h_ => absurd h_ (Nat.not_lt_zero _)⟩
  | succ nn_ ih_ =>
    refine ⟨?_, ?_, ?_⟩
    · rintro bt_ n_ S_ hI_ hF_ ⟨h0_, htk_, hW_, hst_, ht_, hmk_, hrd_, hne_, hg_, -⟩ hm_
      have z1_ : S_.1 2 cc_ 1 = S0_.1 2 cc_ 1 := hF_.1 2 cc_ 1 rfl
      have z2_ : S_.1 2 cc_ 2 = S0_.1 2 cc_ 2 := hF_.1 2 cc_ 2 rfl
      have cw : 0 ≤ S_.1 9 0 2 ∧ S_.1 9 0 2 ≤ 64 := hI_.1 9 0 2 rfl
      have cg9_ : 0 ≤ S_.1 2 cc_ 8 ∧ S_.1 2 cc_ 8 ≤ 150 := hI_.1 2 cc_ 8 rfl
      have z8_ : S_.1 2 cc_ 8 = S0_.1 2 cc_ 8 := hF_.1 2 cc_ 8 rfl
      refine sm_T_go 2 (c1 := (101, [some (.inr (.inr (some (9, 0)))), some (.inr (.inr (some (2, cc_)))), some (.inl bt_), some (.inl n_), none], [.inl bt_, .inl n_], S_)) rfl ?_
      refine sm_T_br (a := 3) (z := 45) rfl (fun cx1_ => ?_) (fun cx1_ => ?_)
      · have cx1_ : bt_ ≤ n_ := of_decide_eq_true cx1_
        refine sm_T_go 2 (c1 := (148, [some (.inr (.inr (some (9, 0)))), some (.inr (.inr (some (2, cc_)))), some (.inl bt_), some (.inl 0), none], [], S_)) rfl ?_
        refine ih_.2.2 bt_ 0 S_ hI_ hF_ ⟨?_, ?_, ?_, ?_, ?_, ?_, ?_, ?_, ?_, trivial⟩ ?_
        · omega
        · exact htk_
        · exact hW_
        · exact hst_
        · exact ht_
        · exact hmk_
        · exact hrd_
        · exact hne_
        · intro q9_ hq9_
          refine ⟨fun n9_ hn9_ => ?_, fun g9_ hg9_ => absurd hg9_ (Nat.not_lt_zero _)⟩
          show lbt (S_.2.2.2 92 0 (64 * n9_ + q9_ / 64)) (q9_ % 64) = _
          rw [hg_ n9_ (by omega) (q9_ / 64) hq9_, bwv_b (by omega) (Nat.mod_lt _ (by decide)), show 64 * (q9_ / 64) + q9_ % 64 = q9_ by omega]
        · omega
      · have cx1_ : ¬ (bt_ ≤ n_) := of_decide_eq_false cx1_
        refine sm_T_go 2 (c1 := (107, [some (.inr (.inr (some (9, 0)))), some (.inr (.inr (some (2, cc_)))), some (.inl bt_), some (.inl n_), some (.inl 0)], [], S_)) rfl ?_
        refine ih_.2.1 bt_ n_ 0 S_ hI_ hF_ ⟨?_, ?_, ?_, ?_, ?_, ?_, ?_, ?_, ?_, ?_, trivial⟩ ?_
        · omega
        · exact htk_
        · exact hW_
        · exact hst_
        · exact ht_
        · exact hmk_
        · exact hrd_
        · exact hne_
        · exact hg_
        · (intro w9_ hw9_; exfalso; omega)
        · omega
    · rintro bt_ n_ w_ S_ hI_ hF_ ⟨h0_, htk_, hW_, hst_, ht_, hmk_, hrd_, hne_, hg_, hk_, -⟩ hm_
      have z1_ : S_.1 2 cc_ 1 = S0_.1 2 cc_ 1 := hF_.1 2 cc_ 1 rfl
      have z2_ : S_.1 2 cc_ 2 = S0_.1 2 cc_ 2 := hF_.1 2 cc_ 2 rfl
      have cw : 0 ≤ S_.1 9 0 2 ∧ S_.1 9 0 2 ≤ 64 := hI_.1 9 0 2 rfl
      have cg9_ : 0 ≤ S_.1 2 cc_ 8 ∧ S_.1 2 cc_ 8 ≤ 150 := hI_.1 2 cc_ 8 rfl
      have z8_ : S_.1 2 cc_ 8 = S0_.1 2 cc_ 8 := hF_.1 2 cc_ 8 rfl
      have bx1_ : 0 ≤ S_.1 9 0 2 ∧ S_.1 9 0 2 ≤ 64 := hI_.1 9 0 2 rfl
      refine sm_T_go 3 (c1 := (113, [some (.inr (.inr (some (9, 0)))), some (.inr (.inr (some (2, cc_)))), some (.inl bt_), some (.inl n_), some (.inl w_)], [.inl (S_.1 9 0 2), .inl w_], S_)) rfl ?_
      refine sm_T_br (a := 3) (z := 27) rfl (fun cx2_ => ?_) (fun cx2_ => ?_)
      · have cx2_ : (S_.1 9 0 2) ≤ w_ := of_decide_eq_true cx2_
        refine sm_T_inc (a := 3) (z := 1) (v := n_) (w := n_ + 1) rfl rfl (by omega) (by omega) (by omega) ?_ -- pc_ 140
        refine sm_T_go 1 (c1 := (99, [some (.inr (.inr (some (9, 0)))), some (.inr (.inr (some (2, cc_)))), some (.inl bt_), some (.inl (n_ + 1)), some (.inl w_)], [], S_)) rfl ?_
        refine sm_T_wk [some (.inr (.inr (some (9, 0)))), some (.inr (.inr (some (2, cc_)))), some (.inl bt_), some (.inl (n_ + 1)), none] (by exact ⟨rfl, rfl, rfl, rfl, trivial⟩) ?_
        refine ih_.1 bt_ (n_ + 1) S_ hI_ hF_ ⟨?_, ?_, ?_, ?_, ?_, ?_, ?_, ?_, ?_, trivial⟩ ?_
        · omega
        · exact htk_
        · exact hW_
        · exact hst_
        · exact ht_
        · exact hmk_
        · exact hrd_
        · exact hne_
        · intro m9_ hm9_ w9_ hw9_
          by_cases z9_ : m9_ = n_.toNat
          · rw [z9_]; exact hk_ w9_ (by omega)
          · exact hg_ m9_ (by omega) w9_ hw9_
        · omega
      · have cx2_ : ¬ ((S_.1 9 0 2) ≤ w_) := of_decide_eq_false cx2_
        refine sm_T_go 4 (c1 := (123, [some (.inr (.inr (some (9, 0)))), some (.inr (.inr (some (2, cc_)))), some (.inl bt_), some (.inl n_), some (.inl w_)], [.inl 64, .inl n_, .inr (.inr (some (92, 0)))], S_)) rfl ?_
        refine sm_T_bin (w := 64 * n_) rfl (bi_mul (by omega) (by omega) (by omega)) ?_ -- pc_ 123
        refine sm_T_go 1 (c1 := (126, [some (.inr (.inr (some (9, 0)))), some (.inr (.inr (some (2, cc_)))), some (.inl bt_), some (.inl n_), some (.inl w_)], [.inl w_, .inl (64 * n_), .inr (.inr (some (92, 0)))], S_)) rfl ?_
        refine sm_T_bin (w := 64 * n_ + w_) rfl (bi_add (by omega) (by omega) (by omega)) ?_ -- pc_ 126
        refine sm_T_go 2 (c1 := (130, [some (.inr (.inr (some (9, 0)))), some (.inr (.inr (some (2, cc_)))), some (.inl bt_), some (.inl n_), some (.inl w_)], [.inl w_, .inl n_, .inl (64 * n_ + w_), .inr (.inr (some (92, 0)))], S_)) rfl ?_
        refine sm_T_cal (d1 := 0) (Q1 := vq_49n n_ w_ S_) rfl rfl (by decide) (vc_49n n_ w_ S_ hI_ (by omega) (by omega)) (fun u_ Sx3_ px6_ => ?_)
        obtain ⟨rfl, vx8_, rfl, px6_⟩ := px6_
        have e130_ := px6_
        refine sm_T_last (n := 10368) rfl rfl (by omega) (by omega) ?_
        have hIx9_ : gi (sm_aL S_ 92 0 (64 * n_ + w_).toNat vx8_) := gi_aL hI_
        have hFx10_ : ai_fr (sx_W vw_168f) S0_ (sm_aL S_ 92 0 (64 * n_ + w_).toNat vx8_) := ai_fr_tr hF_ (ai_fr_aL rfl)
        refine sm_T_inc (a := 4) (z := 1) (v := w_) (w := w_ + 1) rfl rfl (by omega) (by omega) (by omega) ?_ -- pc_ 134
        refine sm_T_go 1 (c1 := (107, [some (.inr (.inr (some (9, 0)))), some (.inr (.inr (some (2, cc_)))), some (.inl bt_), some (.inl n_), some (.inl (w_ + 1))], [], sm_aL S_ 92 0 (64 * n_ + w_).toNat vx8_)) rfl ?_
        refine ih_.2.1 bt_ n_ (w_ + 1) (sm_aL S_ 92 0 (64 * n_ + w_).toNat vx8_) hIx9_ hFx10_ ⟨?_, ?_, ?_, ?_, ?_, ?_, ?_, ?_, ?_, ?_, trivial⟩ ?_
        · omega
        · exact htk_
        · exact hW_
        · exact hst_
        · exact ht_
        · exact hmk_
        · exact hrd_
        · exact hne_
        · intro m9_ hm9_ w9_ hw9_
          have hw9_ : (w9_ : Int) < S_.1 9 0 2 := hw9_
          rw [rd_leq, if_neg (by omega)]
          exact hg_ m9_ hm9_ w9_ hw9_
        · intro w9_ hw9_
          rw [rd_leq]
          by_cases z9_ : w9_ = w_.toNat
          · rw [if_pos (by omega), e130_, z9_]
          · rw [if_neg (by omega)]; exact hk_ w9_ (by omega)
        · omega
    · rintro bt_ g_ S_ hI_ hF_ ⟨h0_, htk_, hW_, hst_, ht_, hmk_, hrd_, hne_, hv_, -⟩ hm_
      have z1_ : S_.1 2 cc_ 1 = S0_.1 2 cc_ 1 := hF_.1 2 cc_ 1 rfl
      have z2_ : S_.1 2 cc_ 2 = S0_.1 2 cc_ 2 := hF_.1 2 cc_ 2 rfl
      have cw : 0 ≤ S_.1 9 0 2 ∧ S_.1 9 0 2 ≤ 64 := hI_.1 9 0 2 rfl
      have cg9_ : 0 ≤ S_.1 2 cc_ 8 ∧ S_.1 2 cc_ 8 ≤ 150 := hI_.1 2 cc_ 8 rfl
      have z8_ : S_.1 2 cc_ 8 = S0_.1 2 cc_ 8 := hF_.1 2 cc_ 8 rfl
      have bx1_ : 0 ≤ S_.1 2 cc_ 8 ∧ S_.1 2 cc_ 8 ≤ 150 := hI_.1 2 cc_ 8 rfl
      refine sm_T_go 3 (c1 := (153, [some (.inr (.inr (some (9, 0)))), some (.inr (.inr (some (2, cc_)))), some (.inl bt_), some (.inl g_), none], [.inl (S_.1 2 cc_ 8), .inl g_], S_)) rfl ?_
      refine sm_T_br (a := 3) (z := 47) rfl (fun cx2_ => ?_) (fun cx2_ => ?_)
      · have cx2_ : (S_.1 2 cc_ 8) ≤ g_ := of_decide_eq_true cx2_
        refine sm_T_rv rfl ⟨_, _, rfl, rfl, hI_, hF_, ?_⟩
        refine ⟨fun e8_ e9_ => (hne_ e8_ e9_).elim, htk_, hst_, ⟨⟨hW_.1, ?_⟩, fun q9_ hq9_ => ?_⟩, ?_, fun f9_ hf9_ hr9_ => absurd (hrd_ f9_ (by (have z9_ := cfu_q9 hI_ (show S_.1 2 cc_ 1 + S_.1 2 cc_ 2 ≤ 12 by omega); omega))) hr9_⟩
        · rw [z1_, z2_, ← h0_.2.2.1]; exact hW_.2
        · have k9_ := kcX_fr (cc_ := cc_) hF_; rw [k9_.1, k9_.2.1, k9_.2.2, z1_, z2_, ← h0_.2.2.1, z8_, show (S0_.1 2 cc_ 8).toNat = g_.toNat by omega]; exact hv_ q9_ hq9_
        · unfold mkq; rw [z1_, z2_, ← h0_.2.2.1]; exact hmk_
      · have cx2_ : ¬ ((S_.1 2 cc_ 8) ≤ g_) := of_decide_eq_false cx2_
        refine sm_T_go 2 (c1 := (158, [some (.inr (.inr (some (9, 0)))), some (.inr (.inr (some (2, cc_)))), some (.inl bt_), some (.inl g_), none], [.inl g_, .inl bt_], S_)) rfl ?_
        refine sm_T_bin (w := bt_ + g_) rfl (bi_add (by omega) (by omega) (by omega)) ?_ -- pc_ 158
        refine sm_T_go 5 (c1 := (165, [some (.inr (.inr (some (9, 0)))), some (.inr (.inr (some (2, cc_)))), some (.inl bt_), some (.inl g_), some (.inl (bt_ + g_))], [.inr (.inl 0), .inl (-1), .inl g_, .inr (.inr (some (9, 0)))], S_)) rfl ?_
        refine sm_T_cal (d1 := 2) (Q1 := vq_173n g_ (-1) 0 cc_ S_) rfl rfl (by decide) (vc_173n g_ (-1) 0 cc_ S_ hI_ (by exact htk_) (by omega) (by omega) (by rfl) (by exact ht_)) (fun u_ Sx3_ px6_ => ?_)
        obtain ⟨vx8_, rfl, hIx4_, hFx5_, px6_⟩ := px6_
        have hFx7_ : ai_fr (sx_W vw_168f) S0_ Sx3_ := ai_fr_tr hF_ (fr_le hFx5_ rfl)
        have tx9_ : Sx3_.2.1 9 0 0 = some cc_ := (hFx5_.2.1 9 0 0 rfl).trans htk_
        have ex10_ : Sx3_.1 2 cc_ 8 = S_.1 2 cc_ 8 := hFx5_.1 2 cc_ 8 rfl
        have mk165_ : (∀ i9_ : Nat, i9_ < 64 → lbt (Sx3_.1 9 0 3) i9_ = decide ((i9_ : Int) < 2 ^ bt_.toNat ∨ 6 ≤ bt_)) ∧ (6 ≤ bt_ → 64 * Sx3_.1 9 0 2 = 2 ^ bt_.toNat) ∧ (bt_ < 6 → Sx3_.1 9 0 2 = 1) := by (rw [hFx5_.1 9 0 3 rfl, hFx5_.1 9 0 2 rfl]; exact hmk_)
        have rd165_ : ∀ f9_ : Nat, f9_ < 1224 → Sx3_.2.2.1 96 0 f9_ = 0 := fun f9_ hf9_ => (congrFun (fr_arr (t := 96) (i := 0) hFx5_ rfl) f9_).trans (hrd_ f9_ hf9_)
        have w165_ : Sx3_.1 9 0 2 ≤ 64 ∧ (2 : Int) ^ bt_.toNat ≤ 64 * Sx3_.1 9 0 2 := by (rw [hFx5_.1 9 0 2 rfl]; exact hW_)
        have s165_ : Sx3_.1 9 0 1 = S0_.1 2 cc_ 19 := (hFx5_.1 9 0 1 rfl).trans hst_
        have t165_ : tch0 Sx3_ := tch0_fr ht_ hFx5_
        have v165_ : ∀ q9_ : Nat, ((q9_ / 64 : Nat) : Int) < Sx3_.1 9 0 2 → cvq bt_.toNat (g_ + 1).toNat (kcT cc_ S0_) (kcN cc_ S0_) (kcA cc_ S0_) q9_ (fun n_ => pvl ((sm_acL Sx3_ 93 0 92 0 (64 * bt_ + 64 * g_).toNat (64 * bt_ + 64 * g_).toNat (Sx3_.1 9 0 2).toNat).2.2.2 92 0) n_ q9_) := by
          intro q9_ hq9_
          have x9_ := hFx5_.1 9 0 2 rfl
          rw [x9_] at hq9_
          have p9_ := px6_.2 (q9_ / 64) hq9_ (q9_ % 64) (Nat.mod_lt _ (by decide))
          have k9_ := kcX_fr (cc_ := cc_) hF_
          rw [k9_.1, k9_.2.1, k9_.2.2, show (S_.1 2 cc_ 1 + S_.1 2 cc_ 2 + g_).toNat = bt_.toNat + g_.toNat by omega] at p9_
          rw [show (g_ + 1).toNat = g_.toNat + 1 by omega]
          refine kpv_s (W_ := (S_.1 9 0 2).toNat) (B_ := Sx3_.2.2.2 93 0) (hv_ q9_ hq9_) (by omega) (by omega) (fun k8_ => ?_) p9_
          rw [sm_acL_at, x9_, show (64 * bt_ + 64 * g_).toNat = 64 * (bt_.toNat + g_.toNat) by omega, ← fr_lon (t_ := 92) (i_ := 0) hFx5_ rfl]
          show (if _ then _ else _) = _
          by_cases z9_ : 64 * (bt_.toNat + g_.toNat) ≤ k8_ ∧ k8_ < 64 * (bt_.toNat + g_.toNat) + (S_.1 9 0 2).toNat
          · rw [if_pos z9_, if_pos z9_, show 64 * (bt_.toNat + g_.toNat) + (k8_ - 64 * (bt_.toNat + g_.toNat)) = k8_ by omega]
          · rw [if_neg z9_, if_neg z9_]
        refine sm_T_go 5 (c1 := (177, [some (.inr (.inr (some (9, 0)))), some (.inr (.inr (some (2, cc_)))), some (.inl bt_), some (.inl g_), some (.inl (bt_ + g_))], [.inl 64, .inl (bt_ + g_), .inr (.inr (some (93, 0)))], Sx3_)) rfl ?_
        refine sm_T_bin (w := 64 * bt_ + 64 * g_) rfl (bi_mul (by omega) (by omega) (by omega)) ?_ -- pc_ 177
        refine sm_T_go 4 (c1 := (186, [some (.inr (.inr (some (9, 0)))), some (.inr (.inr (some (2, cc_)))), some (.inl bt_), some (.inl g_), some (.inl (bt_ + g_))], [.inl 64, .inl (bt_ + g_), .inr (.inr (some (92, 0))), .inl (64 * bt_ + 64 * g_), .inr (.inr (some (93, 0)))], Sx3_)) rfl ?_
        refine sm_T_bin (w := 64 * bt_ + 64 * g_) rfl (bi_mul (by omega) (by omega) (by omega)) ?_ -- pc_ 186
        have bx11_ : 0 ≤ Sx3_.1 9 0 2 ∧ Sx3_.1 9 0 2 ≤ 64 := hIx4_.1 9 0 2 rfl
        refine sm_T_go 2 (c1 := (191, [some (.inr (.inr (some (9, 0)))), some (.inr (.inr (some (2, cc_)))), some (.inl bt_), some (.inl g_), some (.inl (bt_ + g_))], [.inl (Sx3_.1 9 0 2), .inl (64 * bt_ + 64 * g_), .inr (.inr (some (92, 0))), .inl (64 * bt_ + 64 * g_), .inr (.inr (some (93, 0)))], Sx3_)) rfl ?_
        refine sm_T_nt (u := none) (S1 := sm_acL Sx3_ 93 0 92 0 (64 * bt_ + 64 * g_).toNat (64 * bt_ + 64 * g_).toNat (Sx3_.1 9 0 2).toNat) rfl rfl (nt_acL (sc := sc_) (t := 93) (i := 0) (t' := 92) (i' := 0) (x := 64 * bt_ + 64 * g_) (y := 64 * bt_ + 64 * g_) (m := (Sx3_.1 9 0 2)) (n := 10368) (n1 := 10368) rfl rfl (by omega) (by omega) (by omega) (by omega) (by omega)) ?_
        have hIx12_ : gi (sm_acL Sx3_ 93 0 92 0 (64 * bt_ + 64 * g_).toNat (64 * bt_ + 64 * g_).toNat (Sx3_.1 9 0 2).toNat) := hIx4_
        have hFx13_ : ai_fr (sx_W vw_168f) S0_ (sm_acL Sx3_ 93 0 92 0 (64 * bt_ + 64 * g_).toNat (64 * bt_ + 64 * g_).toNat (Sx3_.1 9 0 2).toNat) := ai_fr_tr hFx7_ (fr_acL rfl)
        refine sm_T_inc (a := 3) (z := 1) (v := g_) (w := g_ + 1) rfl rfl (by omega) (by omega) (by omega) ?_ -- pc_ 194
        refine sm_T_go 1 (c1 := (148, [some (.inr (.inr (some (9, 0)))), some (.inr (.inr (some (2, cc_)))), some (.inl bt_), some (.inl (g_ + 1)), some (.inl (bt_ + g_))], [], sm_acL Sx3_ 93 0 92 0 (64 * bt_ + 64 * g_).toNat (64 * bt_ + 64 * g_).toNat (Sx3_.1 9 0 2).toNat)) rfl ?_
        refine sm_T_wk [some (.inr (.inr (some (9, 0)))), some (.inr (.inr (some (2, cc_)))), some (.inl bt_), some (.inl (g_ + 1)), none] (by exact ⟨rfl, rfl, rfl, rfl, trivial⟩) ?_
        refine ih_.2.2 bt_ (g_ + 1) (sm_acL Sx3_ 93 0 92 0 (64 * bt_ + 64 * g_).toNat (64 * bt_ + 64 * g_).toNat (Sx3_.1 9 0 2).toNat) hIx12_ hFx13_ ⟨?_, ?_, ?_, ?_, ?_, ?_, ?_, ?_, ?_, trivial⟩ ?_
        · omega
        · exact tx9_
        · exact w165_
        · exact s165_
        · exact t165_
        · exact mk165_
        · exact rd165_
        · exact hne_
        · exact v165_
        · omega
set_option maxHeartbeats 400000 in
set_option maxRecDepth 20000 in
theorem vc_168f {sc_ : Nat × (Nat → Int)} (cc_ : Nat) (S0_ : sm_S) (hI_ : gi S0_) (hs_ : S0_.1 2 cc_ 1 + S0_.1 2 cc_ 2 ≤ 12) (hn_ : S0_.2.1 9 0 0 = some cc_ → S0_.1 9 0 1 = S0_.1 2 cc_ 19 → tok9 cc_ S0_) : sm_T (mt_P sc_) 3 168 (0, [some (.inr (.inr (some (9, 0)))), some (.inr (.inr (some (2, cc_)))), none, none, none], [], S0_) (fun ro9_ => ∃ u_ S1_, ro9_ = (.inl u_, S1_, 0) ∧ vq_168f cc_ S0_ u_ S1_) := by
  have hF_ : ai_fr (sx_W vw_168f) S0_ S0_ := ai_fr_rf
  have k1_ : 0 ≤ S0_.1 2 cc_ 1 ∧ S0_.1 2 cc_ 1 ≤ 12 := hI_.1 2 cc_ 1 rfl
  have k2_ : 0 ≤ S0_.1 2 cc_ 2 ∧ S0_.1 2 cc_ 2 ≤ 6 := hI_.1 2 cc_ 2 rfl
  refine sm_T_go 1 (c1 := (1, [some (.inr (.inr (some (9, 0)))), some (.inr (.inr (some (2, cc_)))), none, none, none], [.inr (.inr (some (9, 0)))], S0_)) rfl ?_
  cases qx1_ : S0_.2.1 9 0 0 with
  | none =>
    refine sm_T_gr rfl rfl qx1_ ?_
    refine sm_T_go 1 (c1 := (5, [some (.inr (.inr (some (9, 0)))), some (.inr (.inr (some (2, cc_)))), none, none, none], [.inr (.inr (some (2, cc_))), .inr (.inr none)], S0_)) rfl ?_
    refine sm_T_acn (x_ := none) (y_ := some (2, cc_)) rfl rfl (fun cx3_ => ?_) (fun cx3_ => ?_)
    · cases cx3_
    · skip
      have hIx4_ : gi (sm_pR S0_ 9 0 0 (some cc_)) := gi_pR hI_
      have hFx5_ : ai_fr (sx_W vw_168f) S0_ (sm_pR S0_ 9 0 0 (some cc_)) := ai_fr_tr hF_ (ai_fr_pR rfl)
      have tx6_ : (sm_pR S0_ 9 0 0 (some cc_)).2.1 9 0 0 = some cc_ := (sm_up_self (f := S0_.2.1) (t := 9) (i := 0) (k := 0) (v := some cc_))
      have bx7_ : (-2147483648) ≤ S0_.1 2 cc_ 19 ∧ S0_.1 2 cc_ 19 ≤ 2147483647 := hI_.1 2 cc_ 19 rfl
      have hIx8_ : gi (sm_pI (sm_pR S0_ 9 0 0 (some cc_)) 9 0 1 (S0_.1 2 cc_ 19)) := gi_pI hIx4_ (show (-2147483648) ≤ (S0_.1 2 cc_ 19) ∧ (S0_.1 2 cc_ 19) ≤ 2147483647 from ⟨by omega, by omega⟩)
      have hFx9_ : ai_fr (sx_W vw_168f) S0_ (sm_pI (sm_pR S0_ 9 0 0 (some cc_)) 9 0 1 (S0_.1 2 cc_ 19)) := ai_fr_tr hFx5_ (ai_fr_pI rfl)
      refine sm_T_go 8 (c1 := (34, [some (.inr (.inr (some (9, 0)))), some (.inr (.inr (some (2, cc_)))), none, none, none], [.inr (.inr (some (2, cc_)))], sm_pI (sm_pR S0_ 9 0 0 (some cc_)) 9 0 1 (S0_.1 2 cc_ 19))) rfl ?_
      refine sm_T_cal (d1 := 0) (Q1 := vq_54 cc_ (sm_pI (sm_pR S0_ 9 0 0 (some cc_)) 9 0 1 (S0_.1 2 cc_ 19))) rfl rfl (by decide) (vc_54 cc_ (sm_pI (sm_pR S0_ 9 0 0 (some cc_)) 9 0 1 (S0_.1 2 cc_ 19)) hIx8_ ) (fun u_ Sx10_ px13_ => ?_)
      obtain ⟨rfl, vx15_, rfl, px13_⟩ := px13_
      have g34_ : vx15_ = S0_.1 2 cc_ 1 + S0_.1 2 cc_ 2 := px13_.2
      refine sm_T_go 4 (c1 := (42, [some (.inr (.inr (some (9, 0)))), some (.inr (.inr (some (2, cc_)))), some (.inl vx15_), none, none], [.inl 6, .inl vx15_, .inr (.inr (some (9, 0)))], sm_pI (sm_pR S0_ 9 0 0 (some cc_)) 9 0 1 (S0_.1 2 cc_ 19))) rfl ?_
      refine sm_T_br (a := 4) (z := 7) rfl (fun cx16_ => ?_) (fun cx16_ => ?_)
      · have cx16_ : 6 < vx15_ := of_decide_eq_true cx16_
        refine sm_T_go 3 (c1 := (53, [some (.inr (.inr (some (9, 0)))), some (.inr (.inr (some (2, cc_)))), some (.inl vx15_), none, none], [.inl 6, .inl vx15_, .inl 1, .inr (.inr (some (9, 0)))], sm_pI (sm_pR S0_ 9 0 0 (some cc_)) 9 0 1 (S0_.1 2 cc_ 19))) rfl ?_
        refine sm_T_bin (w := vx15_ - 6) rfl (bi_sub (by omega) (by omega) (by omega)) ?_ -- pc_ 53
        refine sm_T_bin (w := (i_shl 1 (vx15_ - 6))) rfl rfl ?_ -- pc_ 54
        have bx17_ := i_shl1 (e := (vx15_ - 6)) (by omega) (by omega)
        have p5_ := pw_le (n := ((vx15_ - 6)).toNat) (m := 6) (by omega)
        have p6_ := pw_pos ((vx15_ - 6)).toNat
        have hIx20_ : gi (sm_pI (sm_pI (sm_pR S0_ 9 0 0 (some cc_)) 9 0 1 (S0_.1 2 cc_ 19)) 9 0 2 (i_shl 1 (vx15_ - 6))) := gi_pI hIx8_ (show 0 ≤ (i_shl 1 (vx15_ - 6)) ∧ (i_shl 1 (vx15_ - 6)) ≤ 64 from ⟨by omega, by omega⟩)
        have hFx21_ : ai_fr (sx_W vw_168f) S0_ (sm_pI (sm_pI (sm_pR S0_ 9 0 0 (some cc_)) 9 0 1 (S0_.1 2 cc_ 19)) 9 0 2 (i_shl 1 (vx15_ - 6))) := ai_fr_tr hFx9_ (ai_fr_pI rfl)
        refine sm_T_go 4 (c1 := (62, [some (.inr (.inr (some (9, 0)))), some (.inr (.inr (some (2, cc_)))), some (.inl vx15_), none, none], [.inl 6, .inl vx15_, .inr (.inr (some (9, 0)))], sm_pI (sm_pI (sm_pR S0_ 9 0 0 (some cc_)) 9 0 1 (S0_.1 2 cc_ 19)) 9 0 2 (i_shl 1 (vx15_ - 6)))) rfl ?_
        refine sm_T_br (a := 2) (z := 9) rfl (fun cx22_ => ?_) (fun cx22_ => ?_)
        · have cx22_ : vx15_ < 6 := of_decide_eq_true cx22_
          exfalso; omega
        · have cx22_ : ¬ (vx15_ < 6) := of_decide_eq_false cx22_
          refine sm_T_nt (u := some (.inr (.inl (-1)))) (S1 := sm_pI (sm_pI (sm_pR S0_ 9 0 0 (some cc_)) 9 0 1 (S0_.1 2 cc_ 19)) 9 0 2 (i_shl 1 (vx15_ - 6))) rfl rfl rfl ?_
          have hIx23_ : gi (sm_pI (sm_pI (sm_pI (sm_pR S0_ 9 0 0 (some cc_)) 9 0 1 (S0_.1 2 cc_ 19)) 9 0 2 (i_shl 1 (vx15_ - 6))) 9 0 3 (-1)) := gi_pJ hIx20_ rfl
          have hFx24_ : ai_fr (sx_W vw_168f) S0_ (sm_pI (sm_pI (sm_pI (sm_pR S0_ 9 0 0 (some cc_)) 9 0 1 (S0_.1 2 cc_ 19)) 9 0 2 (i_shl 1 (vx15_ - 6))) 9 0 3 (-1)) := ai_fr_tr hFx21_ (ai_fr_pI rfl)
          refine sm_T_go 5 (c1 := (86, [some (.inr (.inr (some (9, 0)))), some (.inr (.inr (some (2, cc_)))), some (.inl vx15_), none, none], [.inl 0, .inr (.inr (some (96, 0)))], sm_pI (sm_pI (sm_pI (sm_pR S0_ 9 0 0 (some cc_)) 9 0 1 (S0_.1 2 cc_ 19)) 9 0 2 (i_shl 1 (vx15_ - 6))) 9 0 3 (-1))) rfl ?_
          refine sm_T_cal (d1 := 0) (Q1 := vq_2t6 0 (sm_pI (sm_pI (sm_pI (sm_pR S0_ 9 0 0 (some cc_)) 9 0 1 (S0_.1 2 cc_ 19)) 9 0 2 (i_shl 1 (vx15_ - 6))) 9 0 3 (-1))) rfl rfl (by decide) (vc_2t6 0 (sm_pI (sm_pI (sm_pI (sm_pR S0_ 9 0 0 (some cc_)) 9 0 1 (S0_.1 2 cc_ 19)) 9 0 2 (i_shl 1 (vx15_ - 6))) 9 0 3 (-1)) hIx23_ (by decide)) (fun u_ Sx25_ px28_ => ?_)
          obtain ⟨rfl, hIx26_, hFx27_, px28_⟩ := px28_
          have hFx29_ : ai_fr (sx_W vw_168f) S0_ Sx25_ := ai_fr_tr hFx24_ (fr_le hFx27_ rfl)
          have tx30_ : Sx25_.2.1 9 0 0 = some cc_ := (hFx27_.2.1 9 0 0 rfl).trans tx6_
          have e86_ := px28_
          have m86_ := hFx27_.1 9 0 3 rfl
          have w86_ := hFx27_.1 9 0 2 rfl
          have s86_ := hFx27_.1 9 0 1 rfl
          refine sm_T_go 3 (c1 := (94, [some (.inr (.inr (some (9, 0)))), some (.inr (.inr (some (2, cc_)))), some (.inl vx15_), none, none], [.inl 0, .inr (.inr (some (94, 0)))], Sx25_)) rfl ?_
          refine sm_T_cal (d1 := 0) (Q1 := vq_2t4 0 Sx25_) rfl rfl (by decide) (vc_2t4 0 Sx25_ hIx26_ (by decide)) (fun u_ Sx31_ px34_ => ?_)
          obtain ⟨rfl, hIx32_, hFx33_, px34_⟩ := px34_
          have hFx35_ : ai_fr (sx_W vw_168f) S0_ Sx31_ := ai_fr_tr hFx29_ (fr_le hFx33_ rfl)
          have tx36_ : Sx31_.2.1 9 0 0 = some cc_ := (hFx33_.2.1 9 0 0 rfl).trans tx30_
          have e94_ := px34_
          have F94h := hFx33_
          have m94_ := hFx33_.1 9 0 3 rfl
          have w94_ := hFx33_.1 9 0 2 rfl
          have s94_ := hFx33_.1 9 0 1 rfl
          refine sm_T_go 2 (c1 := (99, [some (.inr (.inr (some (9, 0)))), some (.inr (.inr (some (2, cc_)))), some (.inl vx15_), some (.inl 0), none], [], Sx31_)) rfl ?_
          refine (vl_168f cc_ S0_ hs_ hn_ _).1 vx15_ 0 Sx31_ hIx32_ hFx35_ ⟨?_, ?_, ?_, ?_, ?_, ?_, ?_, ?_, ?_, trivial⟩ (Nat.lt_succ_self _)
          · omega
          · exact tx36_
          · have w9_ := w94_.trans w86_
            simp only [rf_eq, rf_nt, rf_nk, rd_fa, rd_af, ne_eq, Nat.reduceEqDiff, not_false_eq_true] at w9_
            rw [w9_]
            first | (refine ⟨by omega, ?_⟩; rw [pkw (by omega)]; omega) | (rw [g34_]; refine ⟨by decide, ?_⟩; have l9_ := pw_le (n := (S0_.1 2 cc_ 1 + S0_.1 2 cc_ 2).toNat) (m := 6) (by omega); exact l9_)
          · have w9_ := s94_.trans s86_
            simp only [rf_eq, rf_nt, rf_nk, rd_fa, rd_af, ne_eq, Nat.reduceEqDiff, not_false_eq_true] at w9_
            exact w9_
          · exact fun n9_ hn9_ => e94_ n9_ hn9_
          · have w9_ := w94_.trans w86_
            simp only [rf_eq, rf_nt, rf_nk, rd_fa, rd_af, ne_eq, Nat.reduceEqDiff, not_false_eq_true] at w9_
            have m9_ := m94_.trans m86_
            simp only [rf_eq, rf_nt, rf_nk, rd_fa, rd_af, ne_eq, Nat.reduceEqDiff, not_false_eq_true] at m9_
            subst g34_
            rw [w9_, m9_]
            first | (have c9_ : 6 ≤ S0_.1 2 cc_ 1 + S0_.1 2 cc_ 2 := (by omega); refine ⟨fun i9_ hi9_ => ?_, fun _ => ?_, fun z9_ => absurd z9_ (by omega)⟩; (rw [lbt_m hi9_, decide_eq_true (Or.inr c9_)]); (first | (rw [pkw c9_]; omega) | (rw [show S0_.1 2 cc_ 1 + S0_.1 2 cc_ 2 = 6 by omega]; decide))) | (obtain ⟨b9_, e9_⟩ : ∃ b9_ : Nat, S0_.1 2 cc_ 1 + S0_.1 2 cc_ 2 = (b9_ : Int) := ⟨(S0_.1 2 cc_ 1 + S0_.1 2 cc_ 2).toNat, by omega⟩; have p9_ := pw_nn (k_ := b9_); refine ⟨fun i9_ hi9_ => ?_, fun z9_ => absurd z9_ (by omega), fun _ => (by first | rfl | omega)⟩; (rw [e9_, Int.toNat_natCast, lbt_k (by omega) hi9_]; exact decide_eq_decide.mpr (by omega)))
          · intro f9_ hf9_
            have r9_ := congrFun (fr_arr (t := 96) (i := 0) F94h rfl) f9_
            rw [r9_]
            exact e86_ f9_ (by omega)
          · (intro e8_ e9_; first | omega | (rw [qx1_] at e8_; cases e8_; done) | (rw [qx1_] at e8_; cases e8_; contradiction))
          · (intro m9_ hm9_; exfalso; omega)
      · have cx16_ : ¬ (6 < vx15_) := of_decide_eq_false cx16_
        have hIx37_ : gi (sm_pI (sm_pI (sm_pR S0_ 9 0 0 (some cc_)) 9 0 1 (S0_.1 2 cc_ 19)) 9 0 2 1) := gi_pI hIx8_ (show 0 ≤ 1 ∧ 1 ≤ 64 from ⟨by omega, by omega⟩)
        have hFx38_ : ai_fr (sx_W vw_168f) S0_ (sm_pI (sm_pI (sm_pR S0_ 9 0 0 (some cc_)) 9 0 1 (S0_.1 2 cc_ 19)) 9 0 2 1) := ai_fr_tr hFx9_ (ai_fr_pI rfl)
        refine sm_T_go 6 (c1 := (62, [some (.inr (.inr (some (9, 0)))), some (.inr (.inr (some (2, cc_)))), some (.inl vx15_), none, none], [.inl 6, .inl vx15_, .inr (.inr (some (9, 0)))], sm_pI (sm_pI (sm_pR S0_ 9 0 0 (some cc_)) 9 0 1 (S0_.1 2 cc_ 19)) 9 0 2 1)) rfl ?_
        refine sm_T_br (a := 2) (z := 9) rfl (fun cx39_ => ?_) (fun cx39_ => ?_)
        · have cx39_ : vx15_ < 6 := of_decide_eq_true cx39_
          refine sm_T_go 3 (c1 := (74, [some (.inr (.inr (some (9, 0)))), some (.inr (.inr (some (2, cc_)))), some (.inl vx15_), none, none], [.inl vx15_, .inl 1, .inr (.inl 1), .inr (.inr (some (9, 0)))], sm_pI (sm_pI (sm_pR S0_ 9 0 0 (some cc_)) 9 0 1 (S0_.1 2 cc_ 19)) 9 0 2 1)) rfl ?_
          refine sm_T_bin (w := (i_shl 1 vx15_)) rfl rfl ?_ -- pc_ 74
          have hIx40_ : gi (sm_pI (sm_pI (sm_pI (sm_pR S0_ 9 0 0 (some cc_)) 9 0 1 (S0_.1 2 cc_ 19)) 9 0 2 1) 9 0 3 ((l_1 ((l_s0 1 (i_shl 1 vx15_))) 1))) := gi_pJ hIx37_ rfl
          have hFx41_ : ai_fr (sx_W vw_168f) S0_ (sm_pI (sm_pI (sm_pI (sm_pR S0_ 9 0 0 (some cc_)) 9 0 1 (S0_.1 2 cc_ 19)) 9 0 2 1) 9 0 3 ((l_1 ((l_s0 1 (i_shl 1 vx15_))) 1))) := ai_fr_tr hFx38_ (ai_fr_pI rfl)
          refine sm_T_go 7 (c1 := (86, [some (.inr (.inr (some (9, 0)))), some (.inr (.inr (some (2, cc_)))), some (.inl vx15_), none, none], [.inl 0, .inr (.inr (some (96, 0)))], sm_pI (sm_pI (sm_pI (sm_pR S0_ 9 0 0 (some cc_)) 9 0 1 (S0_.1 2 cc_ 19)) 9 0 2 1) 9 0 3 ((l_1 ((l_s0 1 (i_shl 1 vx15_))) 1)))) rfl ?_
          refine sm_T_cal (d1 := 0) (Q1 := vq_2t6 0 (sm_pI (sm_pI (sm_pI (sm_pR S0_ 9 0 0 (some cc_)) 9 0 1 (S0_.1 2 cc_ 19)) 9 0 2 1) 9 0 3 ((l_1 ((l_s0 1 (i_shl 1 vx15_))) 1)))) rfl rfl (by decide) (vc_2t6 0 (sm_pI (sm_pI (sm_pI (sm_pR S0_ 9 0 0 (some cc_)) 9 0 1 (S0_.1 2 cc_ 19)) 9 0 2 1) 9 0 3 ((l_1 ((l_s0 1 (i_shl 1 vx15_))) 1))) hIx40_ (by decide)) (fun u_ Sx42_ px45_ => ?_)
          obtain ⟨rfl, hIx43_, hFx44_, px45_⟩ := px45_
          have hFx46_ : ai_fr (sx_W vw_168f) S0_ Sx42_ := ai_fr_tr hFx41_ (fr_le hFx44_ rfl)
          have tx47_ : Sx42_.2.1 9 0 0 = some cc_ := (hFx44_.2.1 9 0 0 rfl).trans tx6_
          have e86_ := px45_
          have m86_ := hFx44_.1 9 0 3 rfl
          have w86_ := hFx44_.1 9 0 2 rfl
          have s86_ := hFx44_.1 9 0 1 rfl
          refine sm_T_go 3 (c1 := (94, [some (.inr (.inr (some (9, 0)))), some (.inr (.inr (some (2, cc_)))), some (.inl vx15_), none, none], [.inl 0, .inr (.inr (some (94, 0)))], Sx42_)) rfl ?_
          refine sm_T_cal (d1 := 0) (Q1 := vq_2t4 0 Sx42_) rfl rfl (by decide) (vc_2t4 0 Sx42_ hIx43_ (by decide)) (fun u_ Sx48_ px51_ => ?_)
          obtain ⟨rfl, hIx49_, hFx50_, px51_⟩ := px51_
          have hFx52_ : ai_fr (sx_W vw_168f) S0_ Sx48_ := ai_fr_tr hFx46_ (fr_le hFx50_ rfl)
          have tx53_ : Sx48_.2.1 9 0 0 = some cc_ := (hFx50_.2.1 9 0 0 rfl).trans tx47_
          have e94_ := px51_
          have F94h := hFx50_
          have m94_ := hFx50_.1 9 0 3 rfl
          have w94_ := hFx50_.1 9 0 2 rfl
          have s94_ := hFx50_.1 9 0 1 rfl
          refine sm_T_go 2 (c1 := (99, [some (.inr (.inr (some (9, 0)))), some (.inr (.inr (some (2, cc_)))), some (.inl vx15_), some (.inl 0), none], [], Sx48_)) rfl ?_
          refine (vl_168f cc_ S0_ hs_ hn_ _).1 vx15_ 0 Sx48_ hIx49_ hFx52_ ⟨?_, ?_, ?_, ?_, ?_, ?_, ?_, ?_, ?_, trivial⟩ (Nat.lt_succ_self _)
          · omega
          · exact tx53_
          · have w9_ := w94_.trans w86_
            simp only [rf_eq, rf_nt, rf_nk, rd_fa, rd_af, ne_eq, Nat.reduceEqDiff, not_false_eq_true] at w9_
            rw [w9_]
            first | (refine ⟨by omega, ?_⟩; rw [pkw (by omega)]; omega) | (rw [g34_]; refine ⟨by decide, ?_⟩; have l9_ := pw_le (n := (S0_.1 2 cc_ 1 + S0_.1 2 cc_ 2).toNat) (m := 6) (by omega); exact l9_)
          · have w9_ := s94_.trans s86_
            simp only [rf_eq, rf_nt, rf_nk, rd_fa, rd_af, ne_eq, Nat.reduceEqDiff, not_false_eq_true] at w9_
            exact w9_
          · exact fun n9_ hn9_ => e94_ n9_ hn9_
          · have w9_ := w94_.trans w86_
            simp only [rf_eq, rf_nt, rf_nk, rd_fa, rd_af, ne_eq, Nat.reduceEqDiff, not_false_eq_true] at w9_
            have m9_ := m94_.trans m86_
            simp only [rf_eq, rf_nt, rf_nk, rd_fa, rd_af, ne_eq, Nat.reduceEqDiff, not_false_eq_true] at m9_
            subst g34_
            rw [w9_, m9_]
            first | (have c9_ : 6 ≤ S0_.1 2 cc_ 1 + S0_.1 2 cc_ 2 := (by omega); refine ⟨fun i9_ hi9_ => ?_, fun _ => ?_, fun z9_ => absurd z9_ (by omega)⟩; (rw [lbt_m hi9_, decide_eq_true (Or.inr c9_)]); (first | (rw [pkw c9_]; omega) | (rw [show S0_.1 2 cc_ 1 + S0_.1 2 cc_ 2 = 6 by omega]; decide))) | (obtain ⟨b9_, e9_⟩ : ∃ b9_ : Nat, S0_.1 2 cc_ 1 + S0_.1 2 cc_ 2 = (b9_ : Int) := ⟨(S0_.1 2 cc_ 1 + S0_.1 2 cc_ 2).toNat, by omega⟩; have p9_ := pw_nn (k_ := b9_); refine ⟨fun i9_ hi9_ => ?_, fun z9_ => absurd z9_ (by omega), fun _ => (by first | rfl | omega)⟩; (rw [e9_, Int.toNat_natCast, lbt_k (by omega) hi9_]; exact decide_eq_decide.mpr (by omega)))
          · intro f9_ hf9_
            have r9_ := congrFun (fr_arr (t := 96) (i := 0) F94h rfl) f9_
            rw [r9_]
            exact e86_ f9_ (by omega)
          · (intro e8_ e9_; first | omega | (rw [qx1_] at e8_; cases e8_; done) | (rw [qx1_] at e8_; cases e8_; contradiction))
          · (intro m9_ hm9_; exfalso; omega)
        · have cx39_ : ¬ (vx15_ < 6) := of_decide_eq_false cx39_
          refine sm_T_nt (u := some (.inr (.inl (-1)))) (S1 := sm_pI (sm_pI (sm_pR S0_ 9 0 0 (some cc_)) 9 0 1 (S0_.1 2 cc_ 19)) 9 0 2 1) rfl rfl rfl ?_
          have hIx54_ : gi (sm_pI (sm_pI (sm_pI (sm_pR S0_ 9 0 0 (some cc_)) 9 0 1 (S0_.1 2 cc_ 19)) 9 0 2 1) 9 0 3 (-1)) := gi_pJ hIx37_ rfl
          have hFx55_ : ai_fr (sx_W vw_168f) S0_ (sm_pI (sm_pI (sm_pI (sm_pR S0_ 9 0 0 (some cc_)) 9 0 1 (S0_.1 2 cc_ 19)) 9 0 2 1) 9 0 3 (-1)) := ai_fr_tr hFx38_ (ai_fr_pI rfl)
          refine sm_T_go 5 (c1 := (86, [some (.inr (.inr (some (9, 0)))), some (.inr (.inr (some (2, cc_)))), some (.inl vx15_), none, none], [.inl 0, .inr (.inr (some (96, 0)))], sm_pI (sm_pI (sm_pI (sm_pR S0_ 9 0 0 (some cc_)) 9 0 1 (S0_.1 2 cc_ 19)) 9 0 2 1) 9 0 3 (-1))) rfl ?_
          refine sm_T_cal (d1 := 0) (Q1 := vq_2t6 0 (sm_pI (sm_pI (sm_pI (sm_pR S0_ 9 0 0 (some cc_)) 9 0 1 (S0_.1 2 cc_ 19)) 9 0 2 1) 9 0 3 (-1))) rfl rfl (by decide) (vc_2t6 0 (sm_pI (sm_pI (sm_pI (sm_pR S0_ 9 0 0 (some cc_)) 9 0 1 (S0_.1 2 cc_ 19)) 9 0 2 1) 9 0 3 (-1)) hIx54_ (by decide)) (fun u_ Sx56_ px59_ => ?_)
          obtain ⟨rfl, hIx57_, hFx58_, px59_⟩ := px59_
          have hFx60_ : ai_fr (sx_W vw_168f) S0_ Sx56_ := ai_fr_tr hFx55_ (fr_le hFx58_ rfl)
          have tx61_ : Sx56_.2.1 9 0 0 = some cc_ := (hFx58_.2.1 9 0 0 rfl).trans tx6_
          have e86_ := px59_
          have m86_ := hFx58_.1 9 0 3 rfl
          have w86_ := hFx58_.1 9 0 2 rfl
          have s86_ := hFx58_.1 9 0 1 rfl
          refine sm_T_go 3 (c1 := (94, [some (.inr (.inr (some (9, 0)))), some (.inr (.inr (some (2, cc_)))), some (.inl vx15_), none, none], [.inl 0, .inr (.inr (some (94, 0)))], Sx56_)) rfl ?_
          refine sm_T_cal (d1 := 0) (Q1 := vq_2t4 0 Sx56_) rfl rfl (by decide) (vc_2t4 0 Sx56_ hIx57_ (by decide)) (fun u_ Sx62_ px65_ => ?_)
          obtain ⟨rfl, hIx63_, hFx64_, px65_⟩ := px65_
          have hFx66_ : ai_fr (sx_W vw_168f) S0_ Sx62_ := ai_fr_tr hFx60_ (fr_le hFx64_ rfl)
          have tx67_ : Sx62_.2.1 9 0 0 = some cc_ := (hFx64_.2.1 9 0 0 rfl).trans tx61_
          have e94_ := px65_
          have F94h := hFx64_
          have m94_ := hFx64_.1 9 0 3 rfl
          have w94_ := hFx64_.1 9 0 2 rfl
          have s94_ := hFx64_.1 9 0 1 rfl
          refine sm_T_go 2 (c1 := (99, [some (.inr (.inr (some (9, 0)))), some (.inr (.inr (some (2, cc_)))), some (.inl vx15_), some (.inl 0), none], [], Sx62_)) rfl ?_
          refine (vl_168f cc_ S0_ hs_ hn_ _).1 vx15_ 0 Sx62_ hIx63_ hFx66_ ⟨?_, ?_, ?_, ?_, ?_, ?_, ?_, ?_, ?_, trivial⟩ (Nat.lt_succ_self _)
          · omega
          · exact tx67_
          · have w9_ := w94_.trans w86_
            simp only [rf_eq, rf_nt, rf_nk, rd_fa, rd_af, ne_eq, Nat.reduceEqDiff, not_false_eq_true] at w9_
            rw [w9_]
            first | (refine ⟨by omega, ?_⟩; rw [pkw (by omega)]; omega) | (rw [g34_]; refine ⟨by decide, ?_⟩; have l9_ := pw_le (n := (S0_.1 2 cc_ 1 + S0_.1 2 cc_ 2).toNat) (m := 6) (by omega); exact l9_)
          · have w9_ := s94_.trans s86_
            simp only [rf_eq, rf_nt, rf_nk, rd_fa, rd_af, ne_eq, Nat.reduceEqDiff, not_false_eq_true] at w9_
            exact w9_
          · exact fun n9_ hn9_ => e94_ n9_ hn9_
          · have w9_ := w94_.trans w86_
            simp only [rf_eq, rf_nt, rf_nk, rd_fa, rd_af, ne_eq, Nat.reduceEqDiff, not_false_eq_true] at w9_
            have m9_ := m94_.trans m86_
            simp only [rf_eq, rf_nt, rf_nk, rd_fa, rd_af, ne_eq, Nat.reduceEqDiff, not_false_eq_true] at m9_
            subst g34_
            rw [w9_, m9_]
            first | (have c9_ : 6 ≤ S0_.1 2 cc_ 1 + S0_.1 2 cc_ 2 := (by omega); refine ⟨fun i9_ hi9_ => ?_, fun _ => ?_, fun z9_ => absurd z9_ (by omega)⟩; (rw [lbt_m hi9_, decide_eq_true (Or.inr c9_)]); (first | (rw [pkw c9_]; omega) | (rw [show S0_.1 2 cc_ 1 + S0_.1 2 cc_ 2 = 6 by omega]; decide))) | (obtain ⟨b9_, e9_⟩ : ∃ b9_ : Nat, S0_.1 2 cc_ 1 + S0_.1 2 cc_ 2 = (b9_ : Int) := ⟨(S0_.1 2 cc_ 1 + S0_.1 2 cc_ 2).toNat, by omega⟩; have p9_ := pw_nn (k_ := b9_); refine ⟨fun i9_ hi9_ => ?_, fun z9_ => absurd z9_ (by omega), fun _ => (by first | rfl | omega)⟩; (rw [e9_, Int.toNat_natCast, lbt_k (by omega) hi9_]; exact decide_eq_decide.mpr (by omega)))
          · intro f9_ hf9_
            have r9_ := congrFun (fr_arr (t := 96) (i := 0) F94h rfl) f9_
            rw [r9_]
            exact e86_ f9_ (by omega)
          · (intro e8_ e9_; first | omega | (rw [qx1_] at e8_; cases e8_; done) | (rw [qx1_] at e8_; cases e8_; contradiction))
          · (intro m9_ hm9_; exfalso; omega)
  | some jx2_ =>
    refine sm_T_gr rfl rfl qx1_ ?_
    refine sm_T_go 1 (c1 := (5, [some (.inr (.inr (some (9, 0)))), some (.inr (.inr (some (2, cc_)))), none, none, none], [.inr (.inr (some (2, cc_))), .inr (.inr (some (2, jx2_)))], S0_)) rfl ?_
    refine sm_T_acn (x_ := some (2, jx2_)) (y_ := some (2, cc_)) rfl rfl (fun cx68_ => ?_) (fun cx68_ => ?_)
    · have cx68_ : jx2_ = cc_ := congrArg Prod.snd (Option.some.inj cx68_)
      have ce9_ := cx68_
      have bx69_ : (-2147483648) ≤ S0_.1 9 0 1 ∧ S0_.1 9 0 1 ≤ 2147483647 := hI_.1 9 0 1 rfl
      have bx70_ : (-2147483648) ≤ S0_.1 2 cc_ 19 ∧ S0_.1 2 cc_ 19 ≤ 2147483647 := hI_.1 2 cc_ 19 rfl
      refine sm_T_go 4 (c1 := (16, [some (.inr (.inr (some (9, 0)))), some (.inr (.inr (some (2, cc_)))), none, none, none], [.inl (S0_.1 2 cc_ 19), .inl (S0_.1 9 0 1)], S0_)) rfl ?_
      refine sm_T_br (a := 1) (z := 4) rfl (fun cx71_ => ?_) (fun cx71_ => ?_)
      · have cx71_ : (S0_.1 9 0 1) ≠ (S0_.1 2 cc_ 19) := of_decide_eq_true cx71_
        have hIx72_ : gi (sm_pR S0_ 9 0 0 (some cc_)) := gi_pR hI_
        have hFx73_ : ai_fr (sx_W vw_168f) S0_ (sm_pR S0_ 9 0 0 (some cc_)) := ai_fr_tr hF_ (ai_fr_pR rfl)
        have tx74_ : (sm_pR S0_ 9 0 0 (some cc_)).2.1 9 0 0 = some cc_ := (sm_up_self (f := S0_.2.1) (t := 9) (i := 0) (k := 0) (v := some cc_))
        have hIx75_ : gi (sm_pI (sm_pR S0_ 9 0 0 (some cc_)) 9 0 1 (S0_.1 2 cc_ 19)) := gi_pI hIx72_ (show (-2147483648) ≤ (S0_.1 2 cc_ 19) ∧ (S0_.1 2 cc_ 19) ≤ 2147483647 from ⟨by omega, by omega⟩)
        have hFx76_ : ai_fr (sx_W vw_168f) S0_ (sm_pI (sm_pR S0_ 9 0 0 (some cc_)) 9 0 1 (S0_.1 2 cc_ 19)) := ai_fr_tr hFx73_ (ai_fr_pI rfl)
        refine sm_T_go 8 (c1 := (34, [some (.inr (.inr (some (9, 0)))), some (.inr (.inr (some (2, cc_)))), none, none, none], [.inr (.inr (some (2, cc_)))], sm_pI (sm_pR S0_ 9 0 0 (some cc_)) 9 0 1 (S0_.1 2 cc_ 19))) rfl ?_
        refine sm_T_cal (d1 := 0) (Q1 := vq_54 cc_ (sm_pI (sm_pR S0_ 9 0 0 (some cc_)) 9 0 1 (S0_.1 2 cc_ 19))) rfl rfl (by decide) (vc_54 cc_ (sm_pI (sm_pR S0_ 9 0 0 (some cc_)) 9 0 1 (S0_.1 2 cc_ 19)) hIx75_ ) (fun u_ Sx77_ px80_ => ?_)
        obtain ⟨rfl, vx82_, rfl, px80_⟩ := px80_
        have g34_ : vx82_ = S0_.1 2 cc_ 1 + S0_.1 2 cc_ 2 := px80_.2
        refine sm_T_go 4 (c1 := (42, [some (.inr (.inr (some (9, 0)))), some (.inr (.inr (some (2, cc_)))), some (.inl vx82_), none, none], [.inl 6, .inl vx82_, .inr (.inr (some (9, 0)))], sm_pI (sm_pR S0_ 9 0 0 (some cc_)) 9 0 1 (S0_.1 2 cc_ 19))) rfl ?_
        refine sm_T_br (a := 4) (z := 7) rfl (fun cx83_ => ?_) (fun cx83_ => ?_)
        · have cx83_ : 6 < vx82_ := of_decide_eq_true cx83_
          refine sm_T_go 3 (c1 := (53, [some (.inr (.inr (some (9, 0)))), some (.inr (.inr (some (2, cc_)))), some (.inl vx82_), none, none], [.inl 6, .inl vx82_, .inl 1, .inr (.inr (some (9, 0)))], sm_pI (sm_pR S0_ 9 0 0 (some cc_)) 9 0 1 (S0_.1 2 cc_ 19))) rfl ?_
          refine sm_T_bin (w := vx82_ - 6) rfl (bi_sub (by omega) (by omega) (by omega)) ?_ -- pc_ 53
          refine sm_T_bin (w := (i_shl 1 (vx82_ - 6))) rfl rfl ?_ -- pc_ 54
          have bx84_ := i_shl1 (e := (vx82_ - 6)) (by omega) (by omega)
          have p5_ := pw_le (n := ((vx82_ - 6)).toNat) (m := 6) (by omega)
          have p6_ := pw_pos ((vx82_ - 6)).toNat
          have hIx87_ : gi (sm_pI (sm_pI (sm_pR S0_ 9 0 0 (some cc_)) 9 0 1 (S0_.1 2 cc_ 19)) 9 0 2 (i_shl 1 (vx82_ - 6))) := gi_pI hIx75_ (show 0 ≤ (i_shl 1 (vx82_ - 6)) ∧ (i_shl 1 (vx82_ - 6)) ≤ 64 from ⟨by omega, by omega⟩)
          have hFx88_ : ai_fr (sx_W vw_168f) S0_ (sm_pI (sm_pI (sm_pR S0_ 9 0 0 (some cc_)) 9 0 1 (S0_.1 2 cc_ 19)) 9 0 2 (i_shl 1 (vx82_ - 6))) := ai_fr_tr hFx76_ (ai_fr_pI rfl)
          refine sm_T_go 4 (c1 := (62, [some (.inr (.inr (some (9, 0)))), some (.inr (.inr (some (2, cc_)))), some (.inl vx82_), none, none], [.inl 6, .inl vx82_, .inr (.inr (some (9, 0)))], sm_pI (sm_pI (sm_pR S0_ 9 0 0 (some cc_)) 9 0 1 (S0_.1 2 cc_ 19)) 9 0 2 (i_shl 1 (vx82_ - 6)))) rfl ?_
          refine sm_T_br (a := 2) (z := 9) rfl (fun cx89_ => ?_) (fun cx89_ => ?_)
          · have cx89_ : vx82_ < 6 := of_decide_eq_true cx89_
            exfalso; omega
          · have cx89_ : ¬ (vx82_ < 6) := of_decide_eq_false cx89_
            refine sm_T_nt (u := some (.inr (.inl (-1)))) (S1 := sm_pI (sm_pI (sm_pR S0_ 9 0 0 (some cc_)) 9 0 1 (S0_.1 2 cc_ 19)) 9 0 2 (i_shl 1 (vx82_ - 6))) rfl rfl rfl ?_
            have hIx90_ : gi (sm_pI (sm_pI (sm_pI (sm_pR S0_ 9 0 0 (some cc_)) 9 0 1 (S0_.1 2 cc_ 19)) 9 0 2 (i_shl 1 (vx82_ - 6))) 9 0 3 (-1)) := gi_pJ hIx87_ rfl
            have hFx91_ : ai_fr (sx_W vw_168f) S0_ (sm_pI (sm_pI (sm_pI (sm_pR S0_ 9 0 0 (some cc_)) 9 0 1 (S0_.1 2 cc_ 19)) 9 0 2 (i_shl 1 (vx82_ - 6))) 9 0 3 (-1)) := ai_fr_tr hFx88_ (ai_fr_pI rfl)
            refine sm_T_go 5 (c1 := (86, [some (.inr (.inr (some (9, 0)))), some (.inr (.inr (some (2, cc_)))), some (.inl vx82_), none, none], [.inl 0, .inr (.inr (some (96, 0)))], sm_pI (sm_pI (sm_pI (sm_pR S0_ 9 0 0 (some cc_)) 9 0 1 (S0_.1 2 cc_ 19)) 9 0 2 (i_shl 1 (vx82_ - 6))) 9 0 3 (-1))) rfl ?_
            refine sm_T_cal (d1 := 0) (Q1 := vq_2t6 0 (sm_pI (sm_pI (sm_pI (sm_pR S0_ 9 0 0 (some cc_)) 9 0 1 (S0_.1 2 cc_ 19)) 9 0 2 (i_shl 1 (vx82_ - 6))) 9 0 3 (-1))) rfl rfl (by decide) (vc_2t6 0 (sm_pI (sm_pI (sm_pI (sm_pR S0_ 9 0 0 (some cc_)) 9 0 1 (S0_.1 2 cc_ 19)) 9 0 2 (i_shl 1 (vx82_ - 6))) 9 0 3 (-1)) hIx90_ (by decide)) (fun u_ Sx92_ px95_ => ?_)
            obtain ⟨rfl, hIx93_, hFx94_, px95_⟩ := px95_
            have hFx96_ : ai_fr (sx_W vw_168f) S0_ Sx92_ := ai_fr_tr hFx91_ (fr_le hFx94_ rfl)
            have tx97_ : Sx92_.2.1 9 0 0 = some cc_ := (hFx94_.2.1 9 0 0 rfl).trans tx74_
            have e86_ := px95_
            have m86_ := hFx94_.1 9 0 3 rfl
            have w86_ := hFx94_.1 9 0 2 rfl
            have s86_ := hFx94_.1 9 0 1 rfl
            refine sm_T_go 3 (c1 := (94, [some (.inr (.inr (some (9, 0)))), some (.inr (.inr (some (2, cc_)))), some (.inl vx82_), none, none], [.inl 0, .inr (.inr (some (94, 0)))], Sx92_)) rfl ?_
            refine sm_T_cal (d1 := 0) (Q1 := vq_2t4 0 Sx92_) rfl rfl (by decide) (vc_2t4 0 Sx92_ hIx93_ (by decide)) (fun u_ Sx98_ px101_ => ?_)
            obtain ⟨rfl, hIx99_, hFx100_, px101_⟩ := px101_
            have hFx102_ : ai_fr (sx_W vw_168f) S0_ Sx98_ := ai_fr_tr hFx96_ (fr_le hFx100_ rfl)
            have tx103_ : Sx98_.2.1 9 0 0 = some cc_ := (hFx100_.2.1 9 0 0 rfl).trans tx97_
            have e94_ := px101_
            have F94h := hFx100_
            have m94_ := hFx100_.1 9 0 3 rfl
            have w94_ := hFx100_.1 9 0 2 rfl
            have s94_ := hFx100_.1 9 0 1 rfl
            refine sm_T_go 2 (c1 := (99, [some (.inr (.inr (some (9, 0)))), some (.inr (.inr (some (2, cc_)))), some (.inl vx82_), some (.inl 0), none], [], Sx98_)) rfl ?_
            refine (vl_168f cc_ S0_ hs_ hn_ _).1 vx82_ 0 Sx98_ hIx99_ hFx102_ ⟨?_, ?_, ?_, ?_, ?_, ?_, ?_, ?_, ?_, trivial⟩ (Nat.lt_succ_self _)
            · omega
            · exact tx103_
            · have w9_ := w94_.trans w86_
              simp only [rf_eq, rf_nt, rf_nk, rd_fa, rd_af, ne_eq, Nat.reduceEqDiff, not_false_eq_true] at w9_
              rw [w9_]
              first | (refine ⟨by omega, ?_⟩; rw [pkw (by omega)]; omega) | (rw [g34_]; refine ⟨by decide, ?_⟩; have l9_ := pw_le (n := (S0_.1 2 cc_ 1 + S0_.1 2 cc_ 2).toNat) (m := 6) (by omega); exact l9_)
            · have w9_ := s94_.trans s86_
              simp only [rf_eq, rf_nt, rf_nk, rd_fa, rd_af, ne_eq, Nat.reduceEqDiff, not_false_eq_true] at w9_
              exact w9_
            · exact fun n9_ hn9_ => e94_ n9_ hn9_
            · have w9_ := w94_.trans w86_
              simp only [rf_eq, rf_nt, rf_nk, rd_fa, rd_af, ne_eq, Nat.reduceEqDiff, not_false_eq_true] at w9_
              have m9_ := m94_.trans m86_
              simp only [rf_eq, rf_nt, rf_nk, rd_fa, rd_af, ne_eq, Nat.reduceEqDiff, not_false_eq_true] at m9_
              subst g34_
              rw [w9_, m9_]
              first | (have c9_ : 6 ≤ S0_.1 2 cc_ 1 + S0_.1 2 cc_ 2 := (by omega); refine ⟨fun i9_ hi9_ => ?_, fun _ => ?_, fun z9_ => absurd z9_ (by omega)⟩; (rw [lbt_m hi9_, decide_eq_true (Or.inr c9_)]); (first | (rw [pkw c9_]; omega) | (rw [show S0_.1 2 cc_ 1 + S0_.1 2 cc_ 2 = 6 by omega]; decide))) | (obtain ⟨b9_, e9_⟩ : ∃ b9_ : Nat, S0_.1 2 cc_ 1 + S0_.1 2 cc_ 2 = (b9_ : Int) := ⟨(S0_.1 2 cc_ 1 + S0_.1 2 cc_ 2).toNat, by omega⟩; have p9_ := pw_nn (k_ := b9_); refine ⟨fun i9_ hi9_ => ?_, fun z9_ => absurd z9_ (by omega), fun _ => (by first | rfl | omega)⟩; (rw [e9_, Int.toNat_natCast, lbt_k (by omega) hi9_]; exact decide_eq_decide.mpr (by omega)))
            · intro f9_ hf9_
              have r9_ := congrFun (fr_arr (t := 96) (i := 0) F94h rfl) f9_
              rw [r9_]
              exact e86_ f9_ (by omega)
            · (intro e8_ e9_; first | omega | (rw [qx1_] at e8_; cases e8_; done) | (rw [qx1_] at e8_; cases e8_; contradiction))
            · (intro m9_ hm9_; exfalso; omega)
        · have cx83_ : ¬ (6 < vx82_) := of_decide_eq_false cx83_
          have hIx104_ : gi (sm_pI (sm_pI (sm_pR S0_ 9 0 0 (some cc_)) 9 0 1 (S0_.1 2 cc_ 19)) 9 0 2 1) := gi_pI hIx75_ (show 0 ≤ 1 ∧ 1 ≤ 64 from ⟨by omega, by omega⟩)
          have hFx105_ : ai_fr (sx_W vw_168f) S0_ (sm_pI (sm_pI (sm_pR S0_ 9 0 0 (some cc_)) 9 0 1 (S0_.1 2 cc_ 19)) 9 0 2 1) := ai_fr_tr hFx76_ (ai_fr_pI rfl)
          refine sm_T_go 6 (c1 := (62, [some (.inr (.inr (some (9, 0)))), some (.inr (.inr (some (2, cc_)))), some (.inl vx82_), none, none], [.inl 6, .inl vx82_, .inr (.inr (some (9, 0)))], sm_pI (sm_pI (sm_pR S0_ 9 0 0 (some cc_)) 9 0 1 (S0_.1 2 cc_ 19)) 9 0 2 1)) rfl ?_
          refine sm_T_br (a := 2) (z := 9) rfl (fun cx106_ => ?_) (fun cx106_ => ?_)
          · have cx106_ : vx82_ < 6 := of_decide_eq_true cx106_
            refine sm_T_go 3 (c1 := (74, [some (.inr (.inr (some (9, 0)))), some (.inr (.inr (some (2, cc_)))), some (.inl vx82_), none, none], [.inl vx82_, .inl 1, .inr (.inl 1), .inr (.inr (some (9, 0)))], sm_pI (sm_pI (sm_pR S0_ 9 0 0 (some cc_)) 9 0 1 (S0_.1 2 cc_ 19)) 9 0 2 1)) rfl ?_
            refine sm_T_bin (w := (i_shl 1 vx82_)) rfl rfl ?_ -- pc_ 74
            have hIx107_ : gi (sm_pI (sm_pI (sm_pI (sm_pR S0_ 9 0 0 (some cc_)) 9 0 1 (S0_.1 2 cc_ 19)) 9 0 2 1) 9 0 3 ((l_1 ((l_s0 1 (i_shl 1 vx82_))) 1))) := gi_pJ hIx104_ rfl
            have hFx108_ : ai_fr (sx_W vw_168f) S0_ (sm_pI (sm_pI (sm_pI (sm_pR S0_ 9 0 0 (some cc_)) 9 0 1 (S0_.1 2 cc_ 19)) 9 0 2 1) 9 0 3 ((l_1 ((l_s0 1 (i_shl 1 vx82_))) 1))) := ai_fr_tr hFx105_ (ai_fr_pI rfl)
            refine sm_T_go 7 (c1 := (86, [some (.inr (.inr (some (9, 0)))), some (.inr (.inr (some (2, cc_)))), some (.inl vx82_), none, none], [.inl 0, .inr (.inr (some (96, 0)))], sm_pI (sm_pI (sm_pI (sm_pR S0_ 9 0 0 (some cc_)) 9 0 1 (S0_.1 2 cc_ 19)) 9 0 2 1) 9 0 3 ((l_1 ((l_s0 1 (i_shl 1 vx82_))) 1)))) rfl ?_
            refine sm_T_cal (d1 := 0) (Q1 := vq_2t6 0 (sm_pI (sm_pI (sm_pI (sm_pR S0_ 9 0 0 (some cc_)) 9 0 1 (S0_.1 2 cc_ 19)) 9 0 2 1) 9 0 3 ((l_1 ((l_s0 1 (i_shl 1 vx82_))) 1)))) rfl rfl (by decide) (vc_2t6 0 (sm_pI (sm_pI (sm_pI (sm_pR S0_ 9 0 0 (some cc_)) 9 0 1 (S0_.1 2 cc_ 19)) 9 0 2 1) 9 0 3 ((l_1 ((l_s0 1 (i_shl 1 vx82_))) 1))) hIx107_ (by decide)) (fun u_ Sx109_ px112_ => ?_)
            obtain ⟨rfl, hIx110_, hFx111_, px112_⟩ := px112_
            have hFx113_ : ai_fr (sx_W vw_168f) S0_ Sx109_ := ai_fr_tr hFx108_ (fr_le hFx111_ rfl)
            have tx114_ : Sx109_.2.1 9 0 0 = some cc_ := (hFx111_.2.1 9 0 0 rfl).trans tx74_
            have e86_ := px112_
            have m86_ := hFx111_.1 9 0 3 rfl
            have w86_ := hFx111_.1 9 0 2 rfl
            have s86_ := hFx111_.1 9 0 1 rfl
            refine sm_T_go 3 (c1 := (94, [some (.inr (.inr (some (9, 0)))), some (.inr (.inr (some (2, cc_)))), some (.inl vx82_), none, none], [.inl 0, .inr (.inr (some (94, 0)))], Sx109_)) rfl ?_
            refine sm_T_cal (d1 := 0) (Q1 := vq_2t4 0 Sx109_) rfl rfl (by decide) (vc_2t4 0 Sx109_ hIx110_ (by decide)) (fun u_ Sx115_ px118_ => ?_)
            obtain ⟨rfl, hIx116_, hFx117_, px118_⟩ := px118_
            have hFx119_ : ai_fr (sx_W vw_168f) S0_ Sx115_ := ai_fr_tr hFx113_ (fr_le hFx117_ rfl)
            have tx120_ : Sx115_.2.1 9 0 0 = some cc_ := (hFx117_.2.1 9 0 0 rfl).trans tx114_
            have e94_ := px118_
            have F94h := hFx117_
            have m94_ := hFx117_.1 9 0 3 rfl
            have w94_ := hFx117_.1 9 0 2 rfl
            have s94_ := hFx117_.1 9 0 1 rfl
            refine sm_T_go 2 (c1 := (99, [some (.inr (.inr (some (9, 0)))), some (.inr (.inr (some (2, cc_)))), some (.inl vx82_), some (.inl 0), none], [], Sx115_)) rfl ?_
            refine (vl_168f cc_ S0_ hs_ hn_ _).1 vx82_ 0 Sx115_ hIx116_ hFx119_ ⟨?_, ?_, ?_, ?_, ?_, ?_, ?_, ?_, ?_, trivial⟩ (Nat.lt_succ_self _)
            · omega
            · exact tx120_
            · have w9_ := w94_.trans w86_
              simp only [rf_eq, rf_nt, rf_nk, rd_fa, rd_af, ne_eq, Nat.reduceEqDiff, not_false_eq_true] at w9_
              rw [w9_]
              first | (refine ⟨by omega, ?_⟩; rw [pkw (by omega)]; omega) | (rw [g34_]; refine ⟨by decide, ?_⟩; have l9_ := pw_le (n := (S0_.1 2 cc_ 1 + S0_.1 2 cc_ 2).toNat) (m := 6) (by omega); exact l9_)
            · have w9_ := s94_.trans s86_
              simp only [rf_eq, rf_nt, rf_nk, rd_fa, rd_af, ne_eq, Nat.reduceEqDiff, not_false_eq_true] at w9_
              exact w9_
            · exact fun n9_ hn9_ => e94_ n9_ hn9_
            · have w9_ := w94_.trans w86_
              simp only [rf_eq, rf_nt, rf_nk, rd_fa, rd_af, ne_eq, Nat.reduceEqDiff, not_false_eq_true] at w9_
              have m9_ := m94_.trans m86_
              simp only [rf_eq, rf_nt, rf_nk, rd_fa, rd_af, ne_eq, Nat.reduceEqDiff, not_false_eq_true] at m9_
              subst g34_
              rw [w9_, m9_]
              first | (have c9_ : 6 ≤ S0_.1 2 cc_ 1 + S0_.1 2 cc_ 2 := (by omega); refine ⟨fun i9_ hi9_ => ?_, fun _ => ?_, fun z9_ => absurd z9_ (by omega)⟩; (rw [lbt_m hi9_, decide_eq_true (Or.inr c9_)]); (first | (rw [pkw c9_]; omega) | (rw [show S0_.1 2 cc_ 1 + S0_.1 2 cc_ 2 = 6 by omega]; decide))) | (obtain ⟨b9_, e9_⟩ : ∃ b9_ : Nat, S0_.1 2 cc_ 1 + S0_.1 2 cc_ 2 = (b9_ : Int) := ⟨(S0_.1 2 cc_ 1 + S0_.1 2 cc_ 2).toNat, by omega⟩; have p9_ := pw_nn (k_ := b9_); refine ⟨fun i9_ hi9_ => ?_, fun z9_ => absurd z9_ (by omega), fun _ => (by first | rfl | omega)⟩; (rw [e9_, Int.toNat_natCast, lbt_k (by omega) hi9_]; exact decide_eq_decide.mpr (by omega)))
            · intro f9_ hf9_
              have r9_ := congrFun (fr_arr (t := 96) (i := 0) F94h rfl) f9_
              rw [r9_]
              exact e86_ f9_ (by omega)
            · (intro e8_ e9_; first | omega | (rw [qx1_] at e8_; cases e8_; done) | (rw [qx1_] at e8_; cases e8_; contradiction))
            · (intro m9_ hm9_; exfalso; omega)
          · have cx106_ : ¬ (vx82_ < 6) := of_decide_eq_false cx106_
            refine sm_T_nt (u := some (.inr (.inl (-1)))) (S1 := sm_pI (sm_pI (sm_pR S0_ 9 0 0 (some cc_)) 9 0 1 (S0_.1 2 cc_ 19)) 9 0 2 1) rfl rfl rfl ?_
            have hIx121_ : gi (sm_pI (sm_pI (sm_pI (sm_pR S0_ 9 0 0 (some cc_)) 9 0 1 (S0_.1 2 cc_ 19)) 9 0 2 1) 9 0 3 (-1)) := gi_pJ hIx104_ rfl
            have hFx122_ : ai_fr (sx_W vw_168f) S0_ (sm_pI (sm_pI (sm_pI (sm_pR S0_ 9 0 0 (some cc_)) 9 0 1 (S0_.1 2 cc_ 19)) 9 0 2 1) 9 0 3 (-1)) := ai_fr_tr hFx105_ (ai_fr_pI rfl)
            refine sm_T_go 5 (c1 := (86, [some (.inr (.inr (some (9, 0)))), some (.inr (.inr (some (2, cc_)))), some (.inl vx82_), none, none], [.inl 0, .inr (.inr (some (96, 0)))], sm_pI (sm_pI (sm_pI (sm_pR S0_ 9 0 0 (some cc_)) 9 0 1 (S0_.1 2 cc_ 19)) 9 0 2 1) 9 0 3 (-1))) rfl ?_
            refine sm_T_cal (d1 := 0) (Q1 := vq_2t6 0 (sm_pI (sm_pI (sm_pI (sm_pR S0_ 9 0 0 (some cc_)) 9 0 1 (S0_.1 2 cc_ 19)) 9 0 2 1) 9 0 3 (-1))) rfl rfl (by decide) (vc_2t6 0 (sm_pI (sm_pI (sm_pI (sm_pR S0_ 9 0 0 (some cc_)) 9 0 1 (S0_.1 2 cc_ 19)) 9 0 2 1) 9 0 3 (-1)) hIx121_ (by decide)) (fun u_ Sx123_ px126_ => ?_)
            obtain ⟨rfl, hIx124_, hFx125_, px126_⟩ := px126_
            have hFx127_ : ai_fr (sx_W vw_168f) S0_ Sx123_ := ai_fr_tr hFx122_ (fr_le hFx125_ rfl)
            have tx128_ : Sx123_.2.1 9 0 0 = some cc_ := (hFx125_.2.1 9 0 0 rfl).trans tx74_
            have e86_ := px126_
            have m86_ := hFx125_.1 9 0 3 rfl
            have w86_ := hFx125_.1 9 0 2 rfl
            have s86_ := hFx125_.1 9 0 1 rfl
            refine sm_T_go 3 (c1 := (94, [some (.inr (.inr (some (9, 0)))), some (.inr (.inr (some (2, cc_)))), some (.inl vx82_), none, none], [.inl 0, .inr (.inr (some (94, 0)))], Sx123_)) rfl ?_
            refine sm_T_cal (d1 := 0) (Q1 := vq_2t4 0 Sx123_) rfl rfl (by decide) (vc_2t4 0 Sx123_ hIx124_ (by decide)) (fun u_ Sx129_ px132_ => ?_)
            obtain ⟨rfl, hIx130_, hFx131_, px132_⟩ := px132_
            have hFx133_ : ai_fr (sx_W vw_168f) S0_ Sx129_ := ai_fr_tr hFx127_ (fr_le hFx131_ rfl)
            have tx134_ : Sx129_.2.1 9 0 0 = some cc_ := (hFx131_.2.1 9 0 0 rfl).trans tx128_
            have e94_ := px132_
            have F94h := hFx131_
            have m94_ := hFx131_.1 9 0 3 rfl
            have w94_ := hFx131_.1 9 0 2 rfl
            have s94_ := hFx131_.1 9 0 1 rfl
            refine sm_T_go 2 (c1 := (99, [some (.inr (.inr (some (9, 0)))), some (.inr (.inr (some (2, cc_)))), some (.inl vx82_), some (.inl 0), none], [], Sx129_)) rfl ?_
            refine (vl_168f cc_ S0_ hs_ hn_ _).1 vx82_ 0 Sx129_ hIx130_ hFx133_ ⟨?_, ?_, ?_, ?_, ?_, ?_, ?_, ?_, ?_, trivial⟩ (Nat.lt_succ_self _)
            · omega
            · exact tx134_
            · have w9_ := w94_.trans w86_
              simp only [rf_eq, rf_nt, rf_nk, rd_fa, rd_af, ne_eq, Nat.reduceEqDiff, not_false_eq_true] at w9_
              rw [w9_]
              first | (refine ⟨by omega, ?_⟩; rw [pkw (by omega)]; omega) | (rw [g34_]; refine ⟨by decide, ?_⟩; have l9_ := pw_le (n := (S0_.1 2 cc_ 1 + S0_.1 2 cc_ 2).toNat) (m := 6) (by omega); exact l9_)
            · have w9_ := s94_.trans s86_
              simp only [rf_eq, rf_nt, rf_nk, rd_fa, rd_af, ne_eq, Nat.reduceEqDiff, not_false_eq_true] at w9_
              exact w9_
            · exact fun n9_ hn9_ => e94_ n9_ hn9_
            · have w9_ := w94_.trans w86_
              simp only [rf_eq, rf_nt, rf_nk, rd_fa, rd_af, ne_eq, Nat.reduceEqDiff, not_false_eq_true] at w9_
              have m9_ := m94_.trans m86_
              simp only [rf_eq, rf_nt, rf_nk, rd_fa, rd_af, ne_eq, Nat.reduceEqDiff, not_false_eq_true] at m9_
              subst g34_
              rw [w9_, m9_]
              first | (have c9_ : 6 ≤ S0_.1 2 cc_ 1 + S0_.1 2 cc_ 2 := (by omega); refine ⟨fun i9_ hi9_ => ?_, fun _ => ?_, fun z9_ => absurd z9_ (by omega)⟩; (rw [lbt_m hi9_, decide_eq_true (Or.inr c9_)]); (first | (rw [pkw c9_]; omega) | (rw [show S0_.1 2 cc_ 1 + S0_.1 2 cc_ 2 = 6 by omega]; decide))) | (obtain ⟨b9_, e9_⟩ : ∃ b9_ : Nat, S0_.1 2 cc_ 1 + S0_.1 2 cc_ 2 = (b9_ : Int) := ⟨(S0_.1 2 cc_ 1 + S0_.1 2 cc_ 2).toNat, by omega⟩; have p9_ := pw_nn (k_ := b9_); refine ⟨fun i9_ hi9_ => ?_, fun z9_ => absurd z9_ (by omega), fun _ => (by first | rfl | omega)⟩; (rw [e9_, Int.toNat_natCast, lbt_k (by omega) hi9_]; exact decide_eq_decide.mpr (by omega)))
            · intro f9_ hf9_
              have r9_ := congrFun (fr_arr (t := 96) (i := 0) F94h rfl) f9_
              rw [r9_]
              exact e86_ f9_ (by omega)
            · (intro e8_ e9_; first | omega | (rw [qx1_] at e8_; cases e8_; done) | (rw [qx1_] at e8_; cases e8_; contradiction))
            · (intro m9_ hm9_; exfalso; omega)
      · have cx71_ : ¬ ((S0_.1 9 0 1) ≠ (S0_.1 2 cc_ 19)) := of_decide_eq_false cx71_
        refine sm_T_rv rfl ⟨_, _, rfl, rfl, hI_, hF_, ?_⟩
        have c9_ : S0_.2.1 9 0 0 = some cc_ := by (rw [← ce9_]; exact qx1_)
        exact ⟨fun _ _ => rfl, c9_, by omega, hn_ c9_ (by omega)⟩
    · skip
      have hIx135_ : gi (sm_pR S0_ 9 0 0 (some cc_)) := gi_pR hI_
      have hFx136_ : ai_fr (sx_W vw_168f) S0_ (sm_pR S0_ 9 0 0 (some cc_)) := ai_fr_tr hF_ (ai_fr_pR rfl)
      have tx137_ : (sm_pR S0_ 9 0 0 (some cc_)).2.1 9 0 0 = some cc_ := (sm_up_self (f := S0_.2.1) (t := 9) (i := 0) (k := 0) (v := some cc_))
      have bx138_ : (-2147483648) ≤ S0_.1 2 cc_ 19 ∧ S0_.1 2 cc_ 19 ≤ 2147483647 := hI_.1 2 cc_ 19 rfl
      have hIx139_ : gi (sm_pI (sm_pR S0_ 9 0 0 (some cc_)) 9 0 1 (S0_.1 2 cc_ 19)) := gi_pI hIx135_ (show (-2147483648) ≤ (S0_.1 2 cc_ 19) ∧ (S0_.1 2 cc_ 19) ≤ 2147483647 from ⟨by omega, by omega⟩)
      have hFx140_ : ai_fr (sx_W vw_168f) S0_ (sm_pI (sm_pR S0_ 9 0 0 (some cc_)) 9 0 1 (S0_.1 2 cc_ 19)) := ai_fr_tr hFx136_ (ai_fr_pI rfl)
      refine sm_T_go 8 (c1 := (34, [some (.inr (.inr (some (9, 0)))), some (.inr (.inr (some (2, cc_)))), none, none, none], [.inr (.inr (some (2, cc_)))], sm_pI (sm_pR S0_ 9 0 0 (some cc_)) 9 0 1 (S0_.1 2 cc_ 19))) rfl ?_
      refine sm_T_cal (d1 := 0) (Q1 := vq_54 cc_ (sm_pI (sm_pR S0_ 9 0 0 (some cc_)) 9 0 1 (S0_.1 2 cc_ 19))) rfl rfl (by decide) (vc_54 cc_ (sm_pI (sm_pR S0_ 9 0 0 (some cc_)) 9 0 1 (S0_.1 2 cc_ 19)) hIx139_ ) (fun u_ Sx141_ px144_ => ?_)
      obtain ⟨rfl, vx146_, rfl, px144_⟩ := px144_
      have g34_ : vx146_ = S0_.1 2 cc_ 1 + S0_.1 2 cc_ 2 := px144_.2
      refine sm_T_go 4 (c1 := (42, [some (.inr (.inr (some (9, 0)))), some (.inr (.inr (some (2, cc_)))), some (.inl vx146_), none, none], [.inl 6, .inl vx146_, .inr (.inr (some (9, 0)))], sm_pI (sm_pR S0_ 9 0 0 (some cc_)) 9 0 1 (S0_.1 2 cc_ 19))) rfl ?_
      refine sm_T_br (a := 4) (z := 7) rfl (fun cx147_ => ?_) (fun cx147_ => ?_)
      · have cx147_ : 6 < vx146_ := of_decide_eq_true cx147_
        refine sm_T_go 3 (c1 := (53, [some (.inr (.inr (some (9, 0)))), some (.inr (.inr (some (2, cc_)))), some (.inl vx146_), none, none], [.inl 6, .inl vx146_, .inl 1, .inr (.inr (some (9, 0)))], sm_pI (sm_pR S0_ 9 0 0 (some cc_)) 9 0 1 (S0_.1 2 cc_ 19))) rfl ?_
        refine sm_T_bin (w := vx146_ - 6) rfl (bi_sub (by omega) (by omega) (by omega)) ?_ -- pc_ 53
        refine sm_T_bin (w := (i_shl 1 (vx146_ - 6))) rfl rfl ?_ -- pc_ 54
        have bx148_ := i_shl1 (e := (vx146_ - 6)) (by omega) (by omega)
        have p5_ := pw_le (n := ((vx146_ - 6)).toNat) (m := 6) (by omega)
        have p6_ := pw_pos ((vx146_ - 6)).toNat
        have hIx151_ : gi (sm_pI (sm_pI (sm_pR S0_ 9 0 0 (some cc_)) 9 0 1 (S0_.1 2 cc_ 19)) 9 0 2 (i_shl 1 (vx146_ - 6))) := gi_pI hIx139_ (show 0 ≤ (i_shl 1 (vx146_ - 6)) ∧ (i_shl 1 (vx146_ - 6)) ≤ 64 from ⟨by omega, by omega⟩)
        have hFx152_ : ai_fr (sx_W vw_168f) S0_ (sm_pI (sm_pI (sm_pR S0_ 9 0 0 (some cc_)) 9 0 1 (S0_.1 2 cc_ 19)) 9 0 2 (i_shl 1 (vx146_ - 6))) := ai_fr_tr hFx140_ (ai_fr_pI rfl)
        refine sm_T_go 4 (c1 := (62, [some (.inr (.inr (some (9, 0)))), some (.inr (.inr (some (2, cc_)))), some (.inl vx146_), none, none], [.inl 6, .inl vx146_, .inr (.inr (some (9, 0)))], sm_pI (sm_pI (sm_pR S0_ 9 0 0 (some cc_)) 9 0 1 (S0_.1 2 cc_ 19)) 9 0 2 (i_shl 1 (vx146_ - 6)))) rfl ?_
        refine sm_T_br (a := 2) (z := 9) rfl (fun cx153_ => ?_) (fun cx153_ => ?_)
        · have cx153_ : vx146_ < 6 := of_decide_eq_true cx153_
          exfalso; omega
        · have cx153_ : ¬ (vx146_ < 6) := of_decide_eq_false cx153_
          refine sm_T_nt (u := some (.inr (.inl (-1)))) (S1 := sm_pI (sm_pI (sm_pR S0_ 9 0 0 (some cc_)) 9 0 1 (S0_.1 2 cc_ 19)) 9 0 2 (i_shl 1 (vx146_ - 6))) rfl rfl rfl ?_
          have hIx154_ : gi (sm_pI (sm_pI (sm_pI (sm_pR S0_ 9 0 0 (some cc_)) 9 0 1 (S0_.1 2 cc_ 19)) 9 0 2 (i_shl 1 (vx146_ - 6))) 9 0 3 (-1)) := gi_pJ hIx151_ rfl
          have hFx155_ : ai_fr (sx_W vw_168f) S0_ (sm_pI (sm_pI (sm_pI (sm_pR S0_ 9 0 0 (some cc_)) 9 0 1 (S0_.1 2 cc_ 19)) 9 0 2 (i_shl 1 (vx146_ - 6))) 9 0 3 (-1)) := ai_fr_tr hFx152_ (ai_fr_pI rfl)
          refine sm_T_go 5 (c1 := (86, [some (.inr (.inr (some (9, 0)))), some (.inr (.inr (some (2, cc_)))), some (.inl vx146_), none, none], [.inl 0, .inr (.inr (some (96, 0)))], sm_pI (sm_pI (sm_pI (sm_pR S0_ 9 0 0 (some cc_)) 9 0 1 (S0_.1 2 cc_ 19)) 9 0 2 (i_shl 1 (vx146_ - 6))) 9 0 3 (-1))) rfl ?_
          refine sm_T_cal (d1 := 0) (Q1 := vq_2t6 0 (sm_pI (sm_pI (sm_pI (sm_pR S0_ 9 0 0 (some cc_)) 9 0 1 (S0_.1 2 cc_ 19)) 9 0 2 (i_shl 1 (vx146_ - 6))) 9 0 3 (-1))) rfl rfl (by decide) (vc_2t6 0 (sm_pI (sm_pI (sm_pI (sm_pR S0_ 9 0 0 (some cc_)) 9 0 1 (S0_.1 2 cc_ 19)) 9 0 2 (i_shl 1 (vx146_ - 6))) 9 0 3 (-1)) hIx154_ (by decide)) (fun u_ Sx156_ px159_ => ?_)
          obtain ⟨rfl, hIx157_, hFx158_, px159_⟩ := px159_
          have hFx160_ : ai_fr (sx_W vw_168f) S0_ Sx156_ := ai_fr_tr hFx155_ (fr_le hFx158_ rfl)
          have tx161_ : Sx156_.2.1 9 0 0 = some cc_ := (hFx158_.2.1 9 0 0 rfl).trans tx137_
          have e86_ := px159_
          have m86_ := hFx158_.1 9 0 3 rfl
          have w86_ := hFx158_.1 9 0 2 rfl
          have s86_ := hFx158_.1 9 0 1 rfl
          refine sm_T_go 3 (c1 := (94, [some (.inr (.inr (some (9, 0)))), some (.inr (.inr (some (2, cc_)))), some (.inl vx146_), none, none], [.inl 0, .inr (.inr (some (94, 0)))], Sx156_)) rfl ?_
          refine sm_T_cal (d1 := 0) (Q1 := vq_2t4 0 Sx156_) rfl rfl (by decide) (vc_2t4 0 Sx156_ hIx157_ (by decide)) (fun u_ Sx162_ px165_ => ?_)
          obtain ⟨rfl, hIx163_, hFx164_, px165_⟩ := px165_
          have hFx166_ : ai_fr (sx_W vw_168f) S0_ Sx162_ := ai_fr_tr hFx160_ (fr_le hFx164_ rfl)
          have tx167_ : Sx162_.2.1 9 0 0 = some cc_ := (hFx164_.2.1 9 0 0 rfl).trans tx161_
          have e94_ := px165_
          have F94h := hFx164_
          have m94_ := hFx164_.1 9 0 3 rfl
          have w94_ := hFx164_.1 9 0 2 rfl
          have s94_ := hFx164_.1 9 0 1 rfl
          refine sm_T_go 2 (c1 := (99, [some (.inr (.inr (some (9, 0)))), some (.inr (.inr (some (2, cc_)))), some (.inl vx146_), some (.inl 0), none], [], Sx162_)) rfl ?_
          refine (vl_168f cc_ S0_ hs_ hn_ _).1 vx146_ 0 Sx162_ hIx163_ hFx166_ ⟨?_, ?_, ?_, ?_, ?_, ?_, ?_, ?_, ?_, trivial⟩ (Nat.lt_succ_self _)
          · omega
          · exact tx167_
          · have w9_ := w94_.trans w86_
            simp only [rf_eq, rf_nt, rf_nk, rd_fa, rd_af, ne_eq, Nat.reduceEqDiff, not_false_eq_true] at w9_
            rw [w9_]
            first | (refine ⟨by omega, ?_⟩; rw [pkw (by omega)]; omega) | (rw [g34_]; refine ⟨by decide, ?_⟩; have l9_ := pw_le (n := (S0_.1 2 cc_ 1 + S0_.1 2 cc_ 2).toNat) (m := 6) (by omega); exact l9_)
          · have w9_ := s94_.trans s86_
            simp only [rf_eq, rf_nt, rf_nk, rd_fa, rd_af, ne_eq, Nat.reduceEqDiff, not_false_eq_true] at w9_
            exact w9_
          · exact fun n9_ hn9_ => e94_ n9_ hn9_
          · have w9_ := w94_.trans w86_
            simp only [rf_eq, rf_nt, rf_nk, rd_fa, rd_af, ne_eq, Nat.reduceEqDiff, not_false_eq_true] at w9_
            have m9_ := m94_.trans m86_
            simp only [rf_eq, rf_nt, rf_nk, rd_fa, rd_af, ne_eq, Nat.reduceEqDiff, not_false_eq_true] at m9_
            subst g34_
            rw [w9_, m9_]
            first | (have c9_ : 6 ≤ S0_.1 2 cc_ 1 + S0_.1 2 cc_ 2 := (by omega); refine ⟨fun i9_ hi9_ => ?_, fun _ => ?_, fun z9_ => absurd z9_ (by omega)⟩; (rw [lbt_m hi9_, decide_eq_true (Or.inr c9_)]); (first | (rw [pkw c9_]; omega) | (rw [show S0_.1 2 cc_ 1 + S0_.1 2 cc_ 2 = 6 by omega]; decide))) | (obtain ⟨b9_, e9_⟩ : ∃ b9_ : Nat, S0_.1 2 cc_ 1 + S0_.1 2 cc_ 2 = (b9_ : Int) := ⟨(S0_.1 2 cc_ 1 + S0_.1 2 cc_ 2).toNat, by omega⟩; have p9_ := pw_nn (k_ := b9_); refine ⟨fun i9_ hi9_ => ?_, fun z9_ => absurd z9_ (by omega), fun _ => (by first | rfl | omega)⟩; (rw [e9_, Int.toNat_natCast, lbt_k (by omega) hi9_]; exact decide_eq_decide.mpr (by omega)))
          · intro f9_ hf9_
            have r9_ := congrFun (fr_arr (t := 96) (i := 0) F94h rfl) f9_
            rw [r9_]
            exact e86_ f9_ (by omega)
          · (intro e8_ e9_; first | omega | (rw [qx1_] at e8_; cases e8_; done) | (rw [qx1_] at e8_; cases e8_; contradiction))
          · (intro m9_ hm9_; exfalso; omega)
      · have cx147_ : ¬ (6 < vx146_) := of_decide_eq_false cx147_
        have hIx168_ : gi (sm_pI (sm_pI (sm_pR S0_ 9 0 0 (some cc_)) 9 0 1 (S0_.1 2 cc_ 19)) 9 0 2 1) := gi_pI hIx139_ (show 0 ≤ 1 ∧ 1 ≤ 64 from ⟨by omega, by omega⟩)
        have hFx169_ : ai_fr (sx_W vw_168f) S0_ (sm_pI (sm_pI (sm_pR S0_ 9 0 0 (some cc_)) 9 0 1 (S0_.1 2 cc_ 19)) 9 0 2 1) := ai_fr_tr hFx140_ (ai_fr_pI rfl)
        refine sm_T_go 6 (c1 := (62, [some (.inr (.inr (some (9, 0)))), some (.inr (.inr (some (2, cc_)))), some (.inl vx146_), none, none], [.inl 6, .inl vx146_, .inr (.inr (some (9, 0)))], sm_pI (sm_pI (sm_pR S0_ 9 0 0 (some cc_)) 9 0 1 (S0_.1 2 cc_ 19)) 9 0 2 1)) rfl ?_
        refine sm_T_br (a := 2) (z := 9) rfl (fun cx170_ => ?_) (fun cx170_ => ?_)
        · have cx170_ : vx146_ < 6 := of_decide_eq_true cx170_
          refine sm_T_go 3 (c1 := (74, [some (.inr (.inr (some (9, 0)))), some (.inr (.inr (some (2, cc_)))), some (.inl vx146_), none, none], [.inl vx146_, .inl 1, .inr (.inl 1), .inr (.inr (some (9, 0)))], sm_pI (sm_pI (sm_pR S0_ 9 0 0 (some cc_)) 9 0 1 (S0_.1 2 cc_ 19)) 9 0 2 1)) rfl ?_
          refine sm_T_bin (w := (i_shl 1 vx146_)) rfl rfl ?_ -- pc_ 74
          have hIx171_ : gi (sm_pI (sm_pI (sm_pI (sm_pR S0_ 9 0 0 (some cc_)) 9 0 1 (S0_.1 2 cc_ 19)) 9 0 2 1) 9 0 3 ((l_1 ((l_s0 1 (i_shl 1 vx146_))) 1))) := gi_pJ hIx168_ rfl
          have hFx172_ : ai_fr (sx_W vw_168f) S0_ (sm_pI (sm_pI (sm_pI (sm_pR S0_ 9 0 0 (some cc_)) 9 0 1 (S0_.1 2 cc_ 19)) 9 0 2 1) 9 0 3 ((l_1 ((l_s0 1 (i_shl 1 vx146_))) 1))) := ai_fr_tr hFx169_ (ai_fr_pI rfl)
          refine sm_T_go 7 (c1 := (86, [some (.inr (.inr (some (9, 0)))), some (.inr (.inr (some (2, cc_)))), some (.inl vx146_), none, none], [.inl 0, .inr (.inr (some (96, 0)))], sm_pI (sm_pI (sm_pI (sm_pR S0_ 9 0 0 (some cc_)) 9 0 1 (S0_.1 2 cc_ 19)) 9 0 2 1) 9 0 3 ((l_1 ((l_s0 1 (i_shl 1 vx146_))) 1)))) rfl ?_
          refine sm_T_cal (d1 := 0) (Q1 := vq_2t6 0 (sm_pI (sm_pI (sm_pI (sm_pR S0_ 9 0 0 (some cc_)) 9 0 1 (S0_.1 2 cc_ 19)) 9 0 2 1) 9 0 3 ((l_1 ((l_s0 1 (i_shl 1 vx146_))) 1)))) rfl rfl (by decide) (vc_2t6 0 (sm_pI (sm_pI (sm_pI (sm_pR S0_ 9 0 0 (some cc_)) 9 0 1 (S0_.1 2 cc_ 19)) 9 0 2 1) 9 0 3 ((l_1 ((l_s0 1 (i_shl 1 vx146_))) 1))) hIx171_ (by decide)) (fun u_ Sx173_ px176_ => ?_)
          obtain ⟨rfl, hIx174_, hFx175_, px176_⟩ := px176_
          have hFx177_ : ai_fr (sx_W vw_168f) S0_ Sx173_ := ai_fr_tr hFx172_ (fr_le hFx175_ rfl)
          have tx178_ : Sx173_.2.1 9 0 0 = some cc_ := (hFx175_.2.1 9 0 0 rfl).trans tx137_
          have e86_ := px176_
          have m86_ := hFx175_.1 9 0 3 rfl
          have w86_ := hFx175_.1 9 0 2 rfl
          have s86_ := hFx175_.1 9 0 1 rfl
          refine sm_T_go 3 (c1 := (94, [some (.inr (.inr (some (9, 0)))), some (.inr (.inr (some (2, cc_)))), some (.inl vx146_), none, none], [.inl 0, .inr (.inr (some (94, 0)))], Sx173_)) rfl ?_
          refine sm_T_cal (d1 := 0) (Q1 := vq_2t4 0 Sx173_) rfl rfl (by decide) (vc_2t4 0 Sx173_ hIx174_ (by decide)) (fun u_ Sx179_ px182_ => ?_)
          obtain ⟨rfl, hIx180_, hFx181_, px182_⟩ := px182_
          have hFx183_ : ai_fr (sx_W vw_168f) S0_ Sx179_ := ai_fr_tr hFx177_ (fr_le hFx181_ rfl)
          have tx184_ : Sx179_.2.1 9 0 0 = some cc_ := (hFx181_.2.1 9 0 0 rfl).trans tx178_
          have e94_ := px182_
          have F94h := hFx181_
          have m94_ := hFx181_.1 9 0 3 rfl
          have w94_ := hFx181_.1 9 0 2 rfl
          have s94_ := hFx181_.1 9 0 1 rfl
          refine sm_T_go 2 (c1 := (99, [some (.inr (.inr (some (9, 0)))), some (.inr (.inr (some (2, cc_)))), some (.inl vx146_), some (.inl 0), none], [], Sx179_)) rfl ?_
          refine (vl_168f cc_ S0_ hs_ hn_ _).1 vx146_ 0 Sx179_ hIx180_ hFx183_ ⟨?_, ?_, ?_, ?_, ?_, ?_, ?_, ?_, ?_, trivial⟩ (Nat.lt_succ_self _)
          · omega
          · exact tx184_
          · have w9_ := w94_.trans w86_
            simp only [rf_eq, rf_nt, rf_nk, rd_fa, rd_af, ne_eq, Nat.reduceEqDiff, not_false_eq_true] at w9_
            rw [w9_]
            first | (refine ⟨by omega, ?_⟩; rw [pkw (by omega)]; omega) | (rw [g34_]; refine ⟨by decide, ?_⟩; have l9_ := pw_le (n := (S0_.1 2 cc_ 1 + S0_.1 2 cc_ 2).toNat) (m := 6) (by omega); exact l9_)
          · have w9_ := s94_.trans s86_
            simp only [rf_eq, rf_nt, rf_nk, rd_fa, rd_af, ne_eq, Nat.reduceEqDiff, not_false_eq_true] at w9_
            exact w9_
          · exact fun n9_ hn9_ => e94_ n9_ hn9_
          · have w9_ := w94_.trans w86_
            simp only [rf_eq, rf_nt, rf_nk, rd_fa, rd_af, ne_eq, Nat.reduceEqDiff, not_false_eq_true] at w9_
            have m9_ := m94_.trans m86_
            simp only [rf_eq, rf_nt, rf_nk, rd_fa, rd_af, ne_eq, Nat.reduceEqDiff, not_false_eq_true] at m9_
            subst g34_
            rw [w9_, m9_]
            first | (have c9_ : 6 ≤ S0_.1 2 cc_ 1 + S0_.1 2 cc_ 2 := (by omega); refine ⟨fun i9_ hi9_ => ?_, fun _ => ?_, fun z9_ => absurd z9_ (by omega)⟩; (rw [lbt_m hi9_, decide_eq_true (Or.inr c9_)]); (first | (rw [pkw c9_]; omega) | (rw [show S0_.1 2 cc_ 1 + S0_.1 2 cc_ 2 = 6 by omega]; decide))) | (obtain ⟨b9_, e9_⟩ : ∃ b9_ : Nat, S0_.1 2 cc_ 1 + S0_.1 2 cc_ 2 = (b9_ : Int) := ⟨(S0_.1 2 cc_ 1 + S0_.1 2 cc_ 2).toNat, by omega⟩; have p9_ := pw_nn (k_ := b9_); refine ⟨fun i9_ hi9_ => ?_, fun z9_ => absurd z9_ (by omega), fun _ => (by first | rfl | omega)⟩; (rw [e9_, Int.toNat_natCast, lbt_k (by omega) hi9_]; exact decide_eq_decide.mpr (by omega)))
          · intro f9_ hf9_
            have r9_ := congrFun (fr_arr (t := 96) (i := 0) F94h rfl) f9_
            rw [r9_]
            exact e86_ f9_ (by omega)
          · (intro e8_ e9_; first | omega | (rw [qx1_] at e8_; cases e8_; done) | (rw [qx1_] at e8_; cases e8_; contradiction))
          · (intro m9_ hm9_; exfalso; omega)
        · have cx170_ : ¬ (vx146_ < 6) := of_decide_eq_false cx170_
          refine sm_T_nt (u := some (.inr (.inl (-1)))) (S1 := sm_pI (sm_pI (sm_pR S0_ 9 0 0 (some cc_)) 9 0 1 (S0_.1 2 cc_ 19)) 9 0 2 1) rfl rfl rfl ?_
          have hIx185_ : gi (sm_pI (sm_pI (sm_pI (sm_pR S0_ 9 0 0 (some cc_)) 9 0 1 (S0_.1 2 cc_ 19)) 9 0 2 1) 9 0 3 (-1)) := gi_pJ hIx168_ rfl
          have hFx186_ : ai_fr (sx_W vw_168f) S0_ (sm_pI (sm_pI (sm_pI (sm_pR S0_ 9 0 0 (some cc_)) 9 0 1 (S0_.1 2 cc_ 19)) 9 0 2 1) 9 0 3 (-1)) := ai_fr_tr hFx169_ (ai_fr_pI rfl)
          refine sm_T_go 5 (c1 := (86, [some (.inr (.inr (some (9, 0)))), some (.inr (.inr (some (2, cc_)))), some (.inl vx146_), none, none], [.inl 0, .inr (.inr (some (96, 0)))], sm_pI (sm_pI (sm_pI (sm_pR S0_ 9 0 0 (some cc_)) 9 0 1 (S0_.1 2 cc_ 19)) 9 0 2 1) 9 0 3 (-1))) rfl ?_
          refine sm_T_cal (d1 := 0) (Q1 := vq_2t6 0 (sm_pI (sm_pI (sm_pI (sm_pR S0_ 9 0 0 (some cc_)) 9 0 1 (S0_.1 2 cc_ 19)) 9 0 2 1) 9 0 3 (-1))) rfl rfl (by decide) (vc_2t6 0 (sm_pI (sm_pI (sm_pI (sm_pR S0_ 9 0 0 (some cc_)) 9 0 1 (S0_.1 2 cc_ 19)) 9 0 2 1) 9 0 3 (-1)) hIx185_ (by decide)) (fun u_ Sx187_ px190_ => ?_)
          obtain ⟨rfl, hIx188_, hFx189_, px190_⟩ := px190_
          have hFx191_ : ai_fr (sx_W vw_168f) S0_ Sx187_ := ai_fr_tr hFx186_ (fr_le hFx189_ rfl)
          have tx192_ : Sx187_.2.1 9 0 0 = some cc_ := (hFx189_.2.1 9 0 0 rfl).trans tx137_
          have e86_ := px190_
          have m86_ := hFx189_.1 9 0 3 rfl
          have w86_ := hFx189_.1 9 0 2 rfl
          have s86_ := hFx189_.1 9 0 1 rfl
          refine sm_T_go 3 (c1 := (94, [some (.inr (.inr (some (9, 0)))), some (.inr (.inr (some (2, cc_)))), some (.inl vx146_), none, none], [.inl 0, .inr (.inr (some (94, 0)))], Sx187_)) rfl ?_
          refine sm_T_cal (d1 := 0) (Q1 := vq_2t4 0 Sx187_) rfl rfl (by decide) (vc_2t4 0 Sx187_ hIx188_ (by decide)) (fun u_ Sx193_ px196_ => ?_)
          obtain ⟨rfl, hIx194_, hFx195_, px196_⟩ := px196_
          have hFx197_ : ai_fr (sx_W vw_168f) S0_ Sx193_ := ai_fr_tr hFx191_ (fr_le hFx195_ rfl)
          have tx198_ : Sx193_.2.1 9 0 0 = some cc_ := (hFx195_.2.1 9 0 0 rfl).trans tx192_
          have e94_ := px196_
          have F94h := hFx195_
          have m94_ := hFx195_.1 9 0 3 rfl
          have w94_ := hFx195_.1 9 0 2 rfl
          have s94_ := hFx195_.1 9 0 1 rfl
          refine sm_T_go 2 (c1 := (99, [some (.inr (.inr (some (9, 0)))), some (.inr (.inr (some (2, cc_)))), some (.inl vx146_), some (.inl 0), none], [], Sx193_)) rfl ?_
          refine (vl_168f cc_ S0_ hs_ hn_ _).1 vx146_ 0 Sx193_ hIx194_ hFx197_ ⟨?_, ?_, ?_, ?_, ?_, ?_, ?_, ?_, ?_, trivial⟩ (Nat.lt_succ_self _)
          · omega
          · exact tx198_
          · have w9_ := w94_.trans w86_
            simp only [rf_eq, rf_nt, rf_nk, rd_fa, rd_af, ne_eq, Nat.reduceEqDiff, not_false_eq_true] at w9_
            rw [w9_]
            first | (refine ⟨by omega, ?_⟩; rw [pkw (by omega)]; omega) | (rw [g34_]; refine ⟨by decide, ?_⟩; have l9_ := pw_le (n := (S0_.1 2 cc_ 1 + S0_.1 2 cc_ 2).toNat) (m := 6) (by omega); exact l9_)
          · have w9_ := s94_.trans s86_
            simp only [rf_eq, rf_nt, rf_nk, rd_fa, rd_af, ne_eq, Nat.reduceEqDiff, not_false_eq_true] at w9_
            exact w9_
          · exact fun n9_ hn9_ => e94_ n9_ hn9_
          · have w9_ := w94_.trans w86_
            simp only [rf_eq, rf_nt, rf_nk, rd_fa, rd_af, ne_eq, Nat.reduceEqDiff, not_false_eq_true] at w9_
            have m9_ := m94_.trans m86_
            simp only [rf_eq, rf_nt, rf_nk, rd_fa, rd_af, ne_eq, Nat.reduceEqDiff, not_false_eq_true] at m9_
            subst g34_
            rw [w9_, m9_]
            first | (have c9_ : 6 ≤ S0_.1 2 cc_ 1 + S0_.1 2 cc_ 2 := (by omega); refine ⟨fun i9_ hi9_ => ?_, fun _ => ?_, fun z9_ => absurd z9_ (by omega)⟩; (rw [lbt_m hi9_, decide_eq_true (Or.inr c9_)]); (first | (rw [pkw c9_]; omega) | (rw [show S0_.1 2 cc_ 1 + S0_.1 2 cc_ 2 = 6 by omega]; decide))) | (obtain ⟨b9_, e9_⟩ : ∃ b9_ : Nat, S0_.1 2 cc_ 1 + S0_.1 2 cc_ 2 = (b9_ : Int) := ⟨(S0_.1 2 cc_ 1 + S0_.1 2 cc_ 2).toNat, by omega⟩; have p9_ := pw_nn (k_ := b9_); refine ⟨fun i9_ hi9_ => ?_, fun z9_ => absurd z9_ (by omega), fun _ => (by first | rfl | omega)⟩; (rw [e9_, Int.toNat_natCast, lbt_k (by omega) hi9_]; exact decide_eq_decide.mpr (by omega)))
          · intro f9_ hf9_
            have r9_ := congrFun (fr_arr (t := 96) (i := 0) F94h rfl) f9_
            rw [r9_]
            exact e86_ f9_ (by omega)
          · (intro e8_ e9_; first | omega | (rw [qx1_] at e8_; cases e8_; done) | (rw [qx1_] at e8_; cases e8_; contradiction))
          · (intro m9_ hm9_; exfalso; omega)
