/-! the tester is not newer than its chip; written by wip/p55/gen/vg -/

/-! what the_ tester holds isn't newer than its_ chip -/
def tsa (S_ : sm_S) : Prop := ∀ c_ : Nat, S_.2.1 9 0 0 = some c_ → S_.1 9 0 1 ≤ S_.1 2 c_ 19
def shq (S_ : sm_S) : Prop := shn S_ ∧ tsa S_
theorem tsa_fr {w_ : sx_Wl} {S_ S'_ : sm_S} (h_ : tsa S_) (g_ : ai_fr (sx_W w_) S_ S'_) (b_ : (sx_W w_).2.2 9 0 = false := by rfl) (c_ : (sx_W w_).1 9 1 = false := by rfl) (d_ : (sx_W w_).1 2 19 = false := by rfl) : tsa S'_ := fun k_ q_ => by
  rw [g_.1 9 0 1 c_, g_.1 2 k_ 19 d_]
  rw [g_.2.1 9 0 0 b_] at q_
  exact h_ k_ q_
theorem shq_fr {w_ : sx_Wl} {S_ S'_ : sm_S} (h_ : shq S_) (g_ : ai_fr (sx_W w_) S_ S'_) (a_ : (sx_W w_).2.1 95 = false := by rfl) (b_ : (sx_W w_).2.2 9 0 = false := by rfl) (c_ : (sx_W w_).1 9 1 = false := by rfl) (d_ : (sx_W w_).1 2 19 = false := by rfl) : shq S'_ := ⟨shn_fr h_.1 g_ a_, tsa_fr h_.2 g_ b_ c_ d_⟩
theorem tsa_of {cc_ : Nat} {S_ : sm_S} (h1_ : S_.2.1 9 0 0 = some cc_) (h2_ : S_.1 9 0 1 = S_.1 2 cc_ 19) : tsa S_ := fun c_ q_ => by
  have e_ : cc_ = c_ := Option.some.inj (h1_.symm.trans q_)
  rw [← e_, h2_]
  exact Int.le_refl _
/-! Tester.prepare -/
def vw_168p : sx_Wl := ([(9, 1), (9, 2), (9, 3)], [92, 93, 94, 96], [(9, 0)])
def vq_168p (cc_ : Nat) (S0_ : sm_S) (u_ : Option sm_V) (S1_ : sm_S) : Prop := u_ = none ∧ gi S1_ ∧ ai_fr (sx_W vw_168p) S0_ S1_ ∧ (S1_.2.1 9 0 0 = some cc_ ∧ S1_.1 9 0 1 = S0_.1 2 cc_ 19)
set_option maxHeartbeats 400000 in
set_option maxRecDepth 20000 in
theorem vl_168p {sc_ : Nat × (Nat → Int)} (cc_ : Nat) (S0_ : sm_S) (hs_ : S0_.1 2 cc_ 1 + S0_.1 2 cc_ 2 ≤ 12) : ∀ nn_ : Nat, (∀ (bt_ : Int) (n_ : Int) (S_ : sm_S), gi S_ → ai_fr (sx_W vw_168p) S0_ S_ → ((0 ≤ bt_ ∧ bt_ ≤ 12 ∧ bt_ = S0_.1 2 cc_ 1 + S0_.1 2 cc_ 2 ∧ 0 ≤ n_ ∧ n_ ≤ bt_) ∧ (S_.2.1 9 0 0 = some cc_) ∧ (S_.1 9 0 1 = S0_.1 2 cc_ 19) ∧ True) → ((100000 + 100 * (100 - n_) + 90).toNat) < nn_ → sm_T (mt_P sc_) 3 168 (99, [some (.inr (.inr (some (9, 0)))), some (.inr (.inr (some (2, cc_)))), some (.inl bt_), some (.inl n_), none], [], S_) (fun ro9_ => ∃ u_ S1_, ro9_ = (.inl u_, S1_, 0) ∧ vq_168p cc_ S0_ u_ S1_)) ∧ (∀ (bt_ : Int) (n_ : Int) (w_ : Int) (S_ : sm_S), gi S_ → ai_fr (sx_W vw_168p) S0_ S_ → ((0 ≤ bt_ ∧ bt_ ≤ 12 ∧ bt_ = S0_.1 2 cc_ 1 + S0_.1 2 cc_ 2 ∧ 0 ≤ n_ ∧ n_ < bt_ ∧ 0 ≤ w_ ∧ w_ ≤ 64) ∧ (S_.2.1 9 0 0 = some cc_) ∧ (S_.1 9 0 1 = S0_.1 2 cc_ 19) ∧ True) → ((100000 + 100 * (100 - n_) + 80 - w_).toNat) < nn_ → sm_T (mt_P sc_) 3 168 (107, [some (.inr (.inr (some (9, 0)))), some (.inr (.inr (some (2, cc_)))), some (.inl bt_), some (.inl n_), some (.inl w_)], [], S_) (fun ro9_ => ∃ u_ S1_, ro9_ = (.inl u_, S1_, 0) ∧ vq_168p cc_ S0_ u_ S1_)) ∧ (∀ (bt_ : Int) (g_ : Int) (S_ : sm_S), gi S_ → ai_fr (sx_W vw_168p) S0_ S_ → ((0 ≤ bt_ ∧ bt_ ≤ 12 ∧ bt_ = S0_.1 2 cc_ 1 + S0_.1 2 cc_ 2 ∧ 0 ≤ g_ ∧ g_ ≤ 150) ∧ (S_.2.1 9 0 0 = some cc_) ∧ (S_.1 9 0 1 = S0_.1 2 cc_ 19) ∧ True) → ((10000 - g_).toNat) < nn_ → sm_T (mt_P sc_) 3 168 (148, [some (.inr (.inr (some (9, 0)))), some (.inr (.inr (some (2, cc_)))), some (.inl bt_), some (.inl g_), none], [], S_) (fun ro9_ => ∃ u_ S1_, ro9_ = (.inl u_, S1_, 0) ∧ vq_168p cc_ S0_ u_ S1_)) := by
  intro nn_
  induction nn_ with
  | zero => exact ⟨fun _ _ _ _ _ _ h_ => absurd h_ (Nat.not_lt_zero _), fun _ _ _ _ _ _ _ h_ => absurd h_ (Nat.not_lt_zero _), fun _ _ _ _ _ _ h_ => absurd h_ (Nat.not_lt_zero _)⟩
  | succ nn_ ih_ =>
    refine ⟨?_, ?_, ?_⟩
    · rintro bt_ n_ S_ hI_ hF_ ⟨h0_, htk_, hst_, -⟩ hm_
      have z1_ : S_.1 2 cc_ 1 = S0_.1 2 cc_ 1 := hF_.1 2 cc_ 1 rfl
      have z2_ : S_.1 2 cc_ 2 = S0_.1 2 cc_ 2 := hF_.1 2 cc_ 2 rfl
      have cw : 0 ≤ S_.1 9 0 2 ∧ S_.1 9 0 2 ≤ 64 := hI_.1 9 0 2 rfl
      have cg9_ : 0 ≤ S_.1 2 cc_ 8 ∧ S_.1 2 cc_ 8 ≤ 150 := hI_.1 2 cc_ 8 rfl
      refine sm_T_go 2 (c1 := (101, [some (.inr (.inr (some (9, 0)))), some (.inr (.inr (some (2, cc_)))), some (.inl bt_), some (.inl n_), none], [.inl bt_, .inl n_], S_)) rfl ?_
      refine sm_T_br (a := 3) (z := 45) rfl (fun cx1_ => ?_) (fun cx1_ => ?_)
      · have cx1_ : bt_ ≤ n_ := of_decide_eq_true cx1_
        refine sm_T_go 2 (c1 := (148, [some (.inr (.inr (some (9, 0)))), some (.inr (.inr (some (2, cc_)))), some (.inl bt_), some (.inl 0), none], [], S_)) rfl ?_
        refine ih_.2.2 bt_ 0 S_ hI_ hF_ ⟨?_, ?_, ?_, trivial⟩ ?_
        · omega
        · exact htk_
        · exact hst_
        · omega
      · have cx1_ : ¬ (bt_ ≤ n_) := of_decide_eq_false cx1_
        refine sm_T_go 2 (c1 := (107, [some (.inr (.inr (some (9, 0)))), some (.inr (.inr (some (2, cc_)))), some (.inl bt_), some (.inl n_), some (.inl 0)], [], S_)) rfl ?_
        refine ih_.2.1 bt_ n_ 0 S_ hI_ hF_ ⟨?_, ?_, ?_, trivial⟩ ?_
        · omega
        · exact htk_
        · exact hst_
        · omega
    · rintro bt_ n_ w_ S_ hI_ hF_ ⟨h0_, htk_, hst_, -⟩ hm_
      have z1_ : S_.1 2 cc_ 1 = S0_.1 2 cc_ 1 := hF_.1 2 cc_ 1 rfl
      have z2_ : S_.1 2 cc_ 2 = S0_.1 2 cc_ 2 := hF_.1 2 cc_ 2 rfl
      have cw : 0 ≤ S_.1 9 0 2 ∧ S_.1 9 0 2 ≤ 64 := hI_.1 9 0 2 rfl
      have cg9_ : 0 ≤ S_.1 2 cc_ 8 ∧ S_.1 2 cc_ 8 ≤ 150 := hI_.1 2 cc_ 8 rfl
      have bx1_ : 0 ≤ S_.1 9 0 2 ∧ S_.1 9 0 2 ≤ 64 := hI_.1 9 0 2 rfl
      refine sm_T_go 3 (c1 := (113, [some (.inr (.inr (some (9, 0)))), some (.inr (.inr (some (2, cc_)))), some (.inl bt_), some (.inl n_), some (.inl w_)], [.inl (S_.1 9 0 2), .inl w_], S_)) rfl ?_
      refine sm_T_br (a := 3) (z := 27) rfl (fun cx2_ => ?_) (fun cx2_ => ?_)
      · have cx2_ : (S_.1 9 0 2) ≤ w_ := of_decide_eq_true cx2_
        refine sm_T_inc (a := 3) (z := 1) (v := n_) (w := n_ + 1) rfl rfl (by omega) (by omega) (by omega) ?_ -- pc_ 140
        refine sm_T_go 1 (c1 := (99, [some (.inr (.inr (some (9, 0)))), some (.inr (.inr (some (2, cc_)))), some (.inl bt_), some (.inl (n_ + 1)), some (.inl w_)], [], S_)) rfl ?_
        refine sm_T_wk [some (.inr (.inr (some (9, 0)))), some (.inr (.inr (some (2, cc_)))), some (.inl bt_), some (.inl (n_ + 1)), none] (by exact ⟨rfl, rfl, rfl, rfl, trivial⟩) ?_
        refine ih_.1 bt_ (n_ + 1) S_ hI_ hF_ ⟨?_, ?_, ?_, trivial⟩ ?_
        · omega
        · exact htk_
        · exact hst_
        · omega
      · have cx2_ : ¬ ((S_.1 9 0 2) ≤ w_) := of_decide_eq_false cx2_
        refine sm_T_go 4 (c1 := (123, [some (.inr (.inr (some (9, 0)))), some (.inr (.inr (some (2, cc_)))), some (.inl bt_), some (.inl n_), some (.inl w_)], [.inl 64, .inl n_, .inr (.inr (some (92, 0)))], S_)) rfl ?_
        refine sm_T_bin (w := 64 * n_) rfl (bi_mul (by omega) (by omega) (by omega)) ?_ -- pc_ 123
        refine sm_T_go 1 (c1 := (126, [some (.inr (.inr (some (9, 0)))), some (.inr (.inr (some (2, cc_)))), some (.inl bt_), some (.inl n_), some (.inl w_)], [.inl w_, .inl (64 * n_), .inr (.inr (some (92, 0)))], S_)) rfl ?_
        refine sm_T_bin (w := 64 * n_ + w_) rfl (bi_add (by omega) (by omega) (by omega)) ?_ -- pc_ 126
        refine sm_T_go 2 (c1 := (130, [some (.inr (.inr (some (9, 0)))), some (.inr (.inr (some (2, cc_)))), some (.inl bt_), some (.inl n_), some (.inl w_)], [.inl w_, .inl n_, .inl (64 * n_ + w_), .inr (.inr (some (92, 0)))], S_)) rfl ?_
        refine sm_T_cal (d1 := 0) (Q1 := vq_49 n_ w_ S_) rfl rfl (by decide) (vc_49 n_ w_ S_ hI_ (by omega) (by omega)) (fun u_ Sx3_ px6_ => ?_)
        obtain ⟨rfl, vx8_, rfl, px6_⟩ := px6_
        refine sm_T_last (n := 10368) rfl rfl (by omega) (by omega) ?_
        have hIx9_ : gi (sm_aL S_ 92 0 (64 * n_ + w_).toNat vx8_) := gi_aL hI_
        have hFx10_ : ai_fr (sx_W vw_168p) S0_ (sm_aL S_ 92 0 (64 * n_ + w_).toNat vx8_) := ai_fr_tr hF_ (ai_fr_aL rfl)
        refine sm_T_inc (a := 4) (z := 1) (v := w_) (w := w_ + 1) rfl rfl (by omega) (by omega) (by omega) ?_ -- pc_ 134
        refine sm_T_go 1 (c1 := (107, [some (.inr (.inr (some (9, 0)))), some (.inr (.inr (some (2, cc_)))), some (.inl bt_), some (.inl n_), some (.inl (w_ + 1))], [], sm_aL S_ 92 0 (64 * n_ + w_).toNat vx8_)) rfl ?_
        refine ih_.2.1 bt_ n_ (w_ + 1) (sm_aL S_ 92 0 (64 * n_ + w_).toNat vx8_) hIx9_ hFx10_ ⟨?_, ?_, ?_, trivial⟩ ?_
        · omega
        · exact htk_
        · exact hst_
        · omega
    · rintro bt_ g_ S_ hI_ hF_ ⟨h0_, htk_, hst_, -⟩ hm_
      have z1_ : S_.1 2 cc_ 1 = S0_.1 2 cc_ 1 := hF_.1 2 cc_ 1 rfl
      have z2_ : S_.1 2 cc_ 2 = S0_.1 2 cc_ 2 := hF_.1 2 cc_ 2 rfl
      have cw : 0 ≤ S_.1 9 0 2 ∧ S_.1 9 0 2 ≤ 64 := hI_.1 9 0 2 rfl
      have cg9_ : 0 ≤ S_.1 2 cc_ 8 ∧ S_.1 2 cc_ 8 ≤ 150 := hI_.1 2 cc_ 8 rfl
      have bx1_ : 0 ≤ S_.1 2 cc_ 8 ∧ S_.1 2 cc_ 8 ≤ 150 := hI_.1 2 cc_ 8 rfl
      refine sm_T_go 3 (c1 := (153, [some (.inr (.inr (some (9, 0)))), some (.inr (.inr (some (2, cc_)))), some (.inl bt_), some (.inl g_), none], [.inl (S_.1 2 cc_ 8), .inl g_], S_)) rfl ?_
      refine sm_T_br (a := 3) (z := 47) rfl (fun cx2_ => ?_) (fun cx2_ => ?_)
      · have cx2_ : (S_.1 2 cc_ 8) ≤ g_ := of_decide_eq_true cx2_
        refine sm_T_rv rfl ⟨_, _, rfl, rfl, hI_, hF_, ?_⟩
        exact ⟨htk_, hst_⟩
      · have cx2_ : ¬ ((S_.1 2 cc_ 8) ≤ g_) := of_decide_eq_false cx2_
        refine sm_T_go 2 (c1 := (158, [some (.inr (.inr (some (9, 0)))), some (.inr (.inr (some (2, cc_)))), some (.inl bt_), some (.inl g_), none], [.inl g_, .inl bt_], S_)) rfl ?_
        refine sm_T_bin (w := bt_ + g_) rfl (bi_add (by omega) (by omega) (by omega)) ?_ -- pc_ 158
        refine sm_T_go 5 (c1 := (165, [some (.inr (.inr (some (9, 0)))), some (.inr (.inr (some (2, cc_)))), some (.inl bt_), some (.inl g_), some (.inl (bt_ + g_))], [.inr (.inl 0), .inl (-1), .inl g_, .inr (.inr (some (9, 0)))], S_)) rfl ?_
        refine sm_T_cal (d1 := 2) (Q1 := vq_173 g_ (-1) 0 cc_ S_) rfl rfl (by decide) (vc_173 g_ (-1) 0 cc_ S_ hI_ (by exact htk_) (by omega) (by omega)) (fun u_ Sx3_ px6_ => ?_)
        obtain ⟨vx8_, rfl, hIx4_, hFx5_, px6_⟩ := px6_
        have hFx7_ : ai_fr (sx_W vw_168p) S0_ Sx3_ := ai_fr_tr hF_ (fr_le hFx5_ rfl)
        have tx9_ : Sx3_.2.1 9 0 0 = some cc_ := (hFx5_.2.1 9 0 0 rfl).trans htk_
        have ex10_ : Sx3_.1 2 cc_ 8 = S_.1 2 cc_ 8 := hFx5_.1 2 cc_ 8 rfl
        have s165_ := hFx5_.1 9 0 1 rfl
        refine sm_T_go 5 (c1 := (177, [some (.inr (.inr (some (9, 0)))), some (.inr (.inr (some (2, cc_)))), some (.inl bt_), some (.inl g_), some (.inl (bt_ + g_))], [.inl 64, .inl (bt_ + g_), .inr (.inr (some (93, 0)))], Sx3_)) rfl ?_
        refine sm_T_bin (w := 64 * bt_ + 64 * g_) rfl (bi_mul (by omega) (by omega) (by omega)) ?_ -- pc_ 177
        refine sm_T_go 4 (c1 := (186, [some (.inr (.inr (some (9, 0)))), some (.inr (.inr (some (2, cc_)))), some (.inl bt_), some (.inl g_), some (.inl (bt_ + g_))], [.inl 64, .inl (bt_ + g_), .inr (.inr (some (92, 0))), .inl (64 * bt_ + 64 * g_), .inr (.inr (some (93, 0)))], Sx3_)) rfl ?_
        refine sm_T_bin (w := 64 * bt_ + 64 * g_) rfl (bi_mul (by omega) (by omega) (by omega)) ?_ -- pc_ 186
        have bx11_ : 0 ≤ Sx3_.1 9 0 2 ∧ Sx3_.1 9 0 2 ≤ 64 := hIx4_.1 9 0 2 rfl
        refine sm_T_go 2 (c1 := (191, [some (.inr (.inr (some (9, 0)))), some (.inr (.inr (some (2, cc_)))), some (.inl bt_), some (.inl g_), some (.inl (bt_ + g_))], [.inl (Sx3_.1 9 0 2), .inl (64 * bt_ + 64 * g_), .inr (.inr (some (92, 0))), .inl (64 * bt_ + 64 * g_), .inr (.inr (some (93, 0)))], Sx3_)) rfl ?_
        refine sm_T_nt (u := none) (S1 := sm_acL Sx3_ 93 0 92 0 (64 * bt_ + 64 * g_).toNat (64 * bt_ + 64 * g_).toNat (Sx3_.1 9 0 2).toNat) rfl rfl (nt_acL (sc := sc_) (t := 93) (i := 0) (t' := 92) (i' := 0) (x := 64 * bt_ + 64 * g_) (y := 64 * bt_ + 64 * g_) (m := (Sx3_.1 9 0 2)) (n := 10368) (n1 := 10368) rfl rfl (by omega) (by omega) (by omega) (by omega) (by omega)) ?_
        have hIx12_ : gi (sm_acL Sx3_ 93 0 92 0 (64 * bt_ + 64 * g_).toNat (64 * bt_ + 64 * g_).toNat (Sx3_.1 9 0 2).toNat) := hIx4_
        have hFx13_ : ai_fr (sx_W vw_168p) S0_ (sm_acL Sx3_ 93 0 92 0 (64 * bt_ + 64 * g_).toNat (64 * bt_ + 64 * g_).toNat (Sx3_.1 9 0 2).toNat) := ai_fr_tr hFx7_ (fr_acL rfl)
        refine sm_T_inc (a := 3) (z := 1) (v := g_) (w := g_ + 1) rfl rfl (by omega) (by omega) (by omega) ?_ -- pc_ 194
        refine sm_T_go 1 (c1 := (148, [some (.inr (.inr (some (9, 0)))), some (.inr (.inr (some (2, cc_)))), some (.inl bt_), some (.inl (g_ + 1)), some (.inl (bt_ + g_))], [], sm_acL Sx3_ 93 0 92 0 (64 * bt_ + 64 * g_).toNat (64 * bt_ + 64 * g_).toNat (Sx3_.1 9 0 2).toNat)) rfl ?_
        refine sm_T_wk [some (.inr (.inr (some (9, 0)))), some (.inr (.inr (some (2, cc_)))), some (.inl bt_), some (.inl (g_ + 1)), none] (by exact ⟨rfl, rfl, rfl, rfl, trivial⟩) ?_
        refine ih_.2.2 bt_ (g_ + 1) (sm_acL Sx3_ 93 0 92 0 (64 * bt_ + 64 * g_).toNat (64 * bt_ + 64 * g_).toNat (Sx3_.1 9 0 2).toNat) hIx12_ hFx13_ ⟨?_, ?_, ?_, trivial⟩ ?_
        · omega
        · exact tx9_
        · exact s165_.trans hst_
        · omega
set_option maxHeartbeats 400000 in
set_option maxRecDepth 20000 in
theorem vc_168p {sc_ : Nat × (Nat → Int)} (cc_ : Nat) (S0_ : sm_S) (hI_ : gi S0_) (hs_ : S0_.1 2 cc_ 1 + S0_.1 2 cc_ 2 ≤ 12) : sm_T (mt_P sc_) 3 168 (0, [some (.inr (.inr (some (9, 0)))), some (.inr (.inr (some (2, cc_)))), none, none, none], [], S0_) (fun ro9_ => ∃ u_ S1_, ro9_ = (.inl u_, S1_, 0) ∧ vq_168p cc_ S0_ u_ S1_) := by
  have hF_ : ai_fr (sx_W vw_168p) S0_ S0_ := ai_fr_rf
  have k1_ : 0 ≤ S0_.1 2 cc_ 1 ∧ S0_.1 2 cc_ 1 ≤ 12 := hI_.1 2 cc_ 1 rfl
  have k2_ : 0 ≤ S0_.1 2 cc_ 2 ∧ S0_.1 2 cc_ 2 ≤ 6 := hI_.1 2 cc_ 2 rfl
  refine sm_T_go 1 (c1 := (1, [some (.inr (.inr (some (9, 0)))), some (.inr (.inr (some (2, cc_)))), none, none, none], [.inr (.inr (some (9, 0)))], S0_)) rfl ?_
  cases qx1_ : S0_.2.1 9 0 0 with
  | none =>
    refine sm_T_gr rfl rfl qx1_ ?_
    refine sm_T_go 1 (c1 := (5, [some (.inr (.inr (some (9, 0)))), some (.inr (.inr (some (2, cc_)))), none, none, none], [.inr (.inr (some (2, cc_))), .inr (.inr none)], S0_)) rfl ?_
    refine sm_T_acn (x_ := none) (y_ := some (2, cc_)) rfl rfl (fun cx3_ => ?_) (fun cx3_ => ?_)
    · cases cx3_
    · skip
      have hIx4_ : gi (sm_pR S0_ 9 0 0 (some cc_)) := gi_pR hI_
      have hFx5_ : ai_fr (sx_W vw_168p) S0_ (sm_pR S0_ 9 0 0 (some cc_)) := ai_fr_tr hF_ (ai_fr_pR rfl)
      have tx6_ : (sm_pR S0_ 9 0 0 (some cc_)).2.1 9 0 0 = some cc_ := (sm_up_self (f := S0_.2.1) (t := 9) (i := 0) (k := 0) (v := some cc_))
      have bx7_ : (-2147483648) ≤ S0_.1 2 cc_ 19 ∧ S0_.1 2 cc_ 19 ≤ 2147483647 := hI_.1 2 cc_ 19 rfl
      have hIx8_ : gi (sm_pI (sm_pR S0_ 9 0 0 (some cc_)) 9 0 1 (S0_.1 2 cc_ 19)) := gi_pI hIx4_ (show (-2147483648) ≤ (S0_.1 2 cc_ 19) ∧ (S0_.1 2 cc_ 19) ≤ 2147483647 from ⟨by omega, by omega⟩)
      have hFx9_ : ai_fr (sx_W vw_168p) S0_ (sm_pI (sm_pR S0_ 9 0 0 (some cc_)) 9 0 1 (S0_.1 2 cc_ 19)) := ai_fr_tr hFx5_ (ai_fr_pI rfl)
      refine sm_T_go 8 (c1 := (34, [some (.inr (.inr (some (9, 0)))), some (.inr (.inr (some (2, cc_)))), none, none, none], [.inr (.inr (some (2, cc_)))], sm_pI (sm_pR S0_ 9 0 0 (some cc_)) 9 0 1 (S0_.1 2 cc_ 19))) rfl ?_
      refine sm_T_cal (d1 := 0) (Q1 := vq_54 cc_ (sm_pI (sm_pR S0_ 9 0 0 (some cc_)) 9 0 1 (S0_.1 2 cc_ 19))) rfl rfl (by decide) (vc_54 cc_ (sm_pI (sm_pR S0_ 9 0 0 (some cc_)) 9 0 1 (S0_.1 2 cc_ 19)) hIx8_ ) (fun u_ Sx10_ px13_ => ?_)
      obtain ⟨rfl, vx15_, rfl, px13_⟩ := px13_
      have g34_ : vx15_ = S0_.1 2 cc_ 1 + S0_.1 2 cc_ 2 := px13_.2
      refine sm_T_go 4 (c1 := (42, [some (.inr (.inr (some (9, 0)))), some (.inr (.inr (some (2, cc_)))), some (.inl vx15_), none, none], [.inl 6, .inl vx15_, .inr (.inr (some (9, 0)))], sm_pI (sm_pR S0_ 9 0 0 (some cc_)) 9 0 1 (S0_.1 2 cc_ 19))) rfl ?_
      refine sm_T_br (a := 4) (z := 7) rfl (fun cx16_ => ?_) (fun cx16_ => ?_)
      · have cx16_ : 6 < vx15_ := of_decide_eq_true cx16_
        refine sm_T_go 3 (c1 := (53, [some (.inr (.inr (some (9, 0)))), some (.inr (.inr (some (2, cc_)))), some (.inl vx15_), none, none], [.inl 6, .inl vx15_, .inl 1, .inr (.inr (some (9, 0)))], sm_pI (sm_pR S0_ 9 0 0 (some cc_)) 9 0 1 (S0_.1 2 cc_ 19))) rfl ?_
        refine sm_T_bin (w := vx15_ - 6) rfl (bi_sub (by omega) (by omega) (by omega)) ?_ -- pc_ 53
        refine sm_T_bin (w := (i_shl 1 (vx15_ - 6))) rfl rfl ?_ -- pc_ 54
        have bx17_ := i_shl1 (e := (vx15_ - 6)) (by omega) (by omega)
        have p5_ := pw_le (n := ((vx15_ - 6)).toNat) (m := 6) (by omega)
        have p6_ := pw_pos ((vx15_ - 6)).toNat
        have hIx20_ : gi (sm_pI (sm_pI (sm_pR S0_ 9 0 0 (some cc_)) 9 0 1 (S0_.1 2 cc_ 19)) 9 0 2 (i_shl 1 (vx15_ - 6))) := gi_pI hIx8_ (show 0 ≤ (i_shl 1 (vx15_ - 6)) ∧ (i_shl 1 (vx15_ - 6)) ≤ 64 from ⟨by omega, by omega⟩)
        have hFx21_ : ai_fr (sx_W vw_168p) S0_ (sm_pI (sm_pI (sm_pR S0_ 9 0 0 (some cc_)) 9 0 1 (S0_.1 2 cc_ 19)) 9 0 2 (i_shl 1 (vx15_ - 6))) := ai_fr_tr hFx9_ (ai_fr_pI rfl)
        refine sm_T_go 4 (c1 := (62, [some (.inr (.inr (some (9, 0)))), some (.inr (.inr (some (2, cc_)))), some (.inl vx15_), none, none], [.inl 6, .inl vx15_, .inr (.inr (some (9, 0)))], sm_pI (sm_pI (sm_pR S0_ 9 0 0 (some cc_)) 9 0 1 (S0_.1 2 cc_ 19)) 9 0 2 (i_shl 1 (vx15_ - 6)))) rfl ?_
        refine sm_T_br (a := 2) (z := 9) rfl (fun cx22_ => ?_) (fun cx22_ => ?_)
        · have cx22_ : vx15_ < 6 := of_decide_eq_true cx22_
          exfalso; omega
        · have cx22_ : ¬ (vx15_ < 6) := of_decide_eq_false cx22_
          refine sm_T_nt (u := some (.inr (.inl (-1)))) (S1 := sm_pI (sm_pI (sm_pR S0_ 9 0 0 (some cc_)) 9 0 1 (S0_.1 2 cc_ 19)) 9 0 2 (i_shl 1 (vx15_ - 6))) rfl rfl rfl ?_
          have hIx23_ : gi (sm_pI (sm_pI (sm_pI (sm_pR S0_ 9 0 0 (some cc_)) 9 0 1 (S0_.1 2 cc_ 19)) 9 0 2 (i_shl 1 (vx15_ - 6))) 9 0 3 (-1)) := gi_pJ hIx20_ rfl
          have hFx24_ : ai_fr (sx_W vw_168p) S0_ (sm_pI (sm_pI (sm_pI (sm_pR S0_ 9 0 0 (some cc_)) 9 0 1 (S0_.1 2 cc_ 19)) 9 0 2 (i_shl 1 (vx15_ - 6))) 9 0 3 (-1)) := ai_fr_tr hFx21_ (ai_fr_pI rfl)
          refine sm_T_go 5 (c1 := (86, [some (.inr (.inr (some (9, 0)))), some (.inr (.inr (some (2, cc_)))), some (.inl vx15_), none, none], [.inl 0, .inr (.inr (some (96, 0)))], sm_pI (sm_pI (sm_pI (sm_pR S0_ 9 0 0 (some cc_)) 9 0 1 (S0_.1 2 cc_ 19)) 9 0 2 (i_shl 1 (vx15_ - 6))) 9 0 3 (-1))) rfl ?_
          refine sm_T_cal (d1 := 0) (Q1 := vq_2t6 0 (sm_pI (sm_pI (sm_pI (sm_pR S0_ 9 0 0 (some cc_)) 9 0 1 (S0_.1 2 cc_ 19)) 9 0 2 (i_shl 1 (vx15_ - 6))) 9 0 3 (-1))) rfl rfl (by decide) (vc_2t6 0 (sm_pI (sm_pI (sm_pI (sm_pR S0_ 9 0 0 (some cc_)) 9 0 1 (S0_.1 2 cc_ 19)) 9 0 2 (i_shl 1 (vx15_ - 6))) 9 0 3 (-1)) hIx23_ (by decide)) (fun u_ Sx25_ px28_ => ?_)
          obtain ⟨rfl, hIx26_, hFx27_, px28_⟩ := px28_
          have hFx29_ : ai_fr (sx_W vw_168p) S0_ Sx25_ := ai_fr_tr hFx24_ (fr_le hFx27_ rfl)
          have tx30_ : Sx25_.2.1 9 0 0 = some cc_ := (hFx27_.2.1 9 0 0 rfl).trans tx6_
          have s86_ := hFx27_.1 9 0 1 rfl
          refine sm_T_go 3 (c1 := (94, [some (.inr (.inr (some (9, 0)))), some (.inr (.inr (some (2, cc_)))), some (.inl vx15_), none, none], [.inl 0, .inr (.inr (some (94, 0)))], Sx25_)) rfl ?_
          refine sm_T_cal (d1 := 0) (Q1 := vq_2t4 0 Sx25_) rfl rfl (by decide) (vc_2t4 0 Sx25_ hIx26_ (by decide)) (fun u_ Sx31_ px34_ => ?_)
          obtain ⟨rfl, hIx32_, hFx33_, px34_⟩ := px34_
          have hFx35_ : ai_fr (sx_W vw_168p) S0_ Sx31_ := ai_fr_tr hFx29_ (fr_le hFx33_ rfl)
          have tx36_ : Sx31_.2.1 9 0 0 = some cc_ := (hFx33_.2.1 9 0 0 rfl).trans tx30_
          have s94_ := hFx33_.1 9 0 1 rfl
          refine sm_T_go 2 (c1 := (99, [some (.inr (.inr (some (9, 0)))), some (.inr (.inr (some (2, cc_)))), some (.inl vx15_), some (.inl 0), none], [], Sx31_)) rfl ?_
          refine (vl_168p cc_ S0_ hs_ _).1 vx15_ 0 Sx31_ hIx32_ hFx35_ ⟨?_, ?_, ?_, trivial⟩ (Nat.lt_succ_self _)
          · omega
          · exact tx36_
          · have w9_ := s94_.trans s86_
            simp only [rf_eq, rf_nt, rf_nk, rd_fa, rd_af, ne_eq, Nat.reduceEqDiff, not_false_eq_true] at w9_
            exact w9_
      · have cx16_ : ¬ (6 < vx15_) := of_decide_eq_false cx16_
        have hIx37_ : gi (sm_pI (sm_pI (sm_pR S0_ 9 0 0 (some cc_)) 9 0 1 (S0_.1 2 cc_ 19)) 9 0 2 1) := gi_pI hIx8_ (show 0 ≤ 1 ∧ 1 ≤ 64 from ⟨by omega, by omega⟩)
        have hFx38_ : ai_fr (sx_W vw_168p) S0_ (sm_pI (sm_pI (sm_pR S0_ 9 0 0 (some cc_)) 9 0 1 (S0_.1 2 cc_ 19)) 9 0 2 1) := ai_fr_tr hFx9_ (ai_fr_pI rfl)
        refine sm_T_go 6 (c1 := (62, [some (.inr (.inr (some (9, 0)))), some (.inr (.inr (some (2, cc_)))), some (.inl vx15_), none, none], [.inl 6, .inl vx15_, .inr (.inr (some (9, 0)))], sm_pI (sm_pI (sm_pR S0_ 9 0 0 (some cc_)) 9 0 1 (S0_.1 2 cc_ 19)) 9 0 2 1)) rfl ?_
        refine sm_T_br (a := 2) (z := 9) rfl (fun cx39_ => ?_) (fun cx39_ => ?_)
        · have cx39_ : vx15_ < 6 := of_decide_eq_true cx39_
          refine sm_T_go 3 (c1 := (74, [some (.inr (.inr (some (9, 0)))), some (.inr (.inr (some (2, cc_)))), some (.inl vx15_), none, none], [.inl vx15_, .inl 1, .inr (.inl 1), .inr (.inr (some (9, 0)))], sm_pI (sm_pI (sm_pR S0_ 9 0 0 (some cc_)) 9 0 1 (S0_.1 2 cc_ 19)) 9 0 2 1)) rfl ?_
          refine sm_T_bin (w := (i_shl 1 vx15_)) rfl rfl ?_ -- pc_ 74
          have hIx40_ : gi (sm_pI (sm_pI (sm_pI (sm_pR S0_ 9 0 0 (some cc_)) 9 0 1 (S0_.1 2 cc_ 19)) 9 0 2 1) 9 0 3 ((l_1 ((l_s0 1 (i_shl 1 vx15_))) 1))) := gi_pJ hIx37_ rfl
          have hFx41_ : ai_fr (sx_W vw_168p) S0_ (sm_pI (sm_pI (sm_pI (sm_pR S0_ 9 0 0 (some cc_)) 9 0 1 (S0_.1 2 cc_ 19)) 9 0 2 1) 9 0 3 ((l_1 ((l_s0 1 (i_shl 1 vx15_))) 1))) := ai_fr_tr hFx38_ (ai_fr_pI rfl)
          refine sm_T_go 7 (c1 := (86, [some (.inr (.inr (some (9, 0)))), some (.inr (.inr (some (2, cc_)))), some (.inl vx15_), none, none], [.inl 0, .inr (.inr (some (96, 0)))], sm_pI (sm_pI (sm_pI (sm_pR S0_ 9 0 0 (some cc_)) 9 0 1 (S0_.1 2 cc_ 19)) 9 0 2 1) 9 0 3 ((l_1 ((l_s0 1 (i_shl 1 vx15_))) 1)))) rfl ?_
          refine sm_T_cal (d1 := 0) (Q1 := vq_2t6 0 (sm_pI (sm_pI (sm_pI (sm_pR S0_ 9 0 0 (some cc_)) 9 0 1 (S0_.1 2 cc_ 19)) 9 0 2 1) 9 0 3 ((l_1 ((l_s0 1 (i_shl 1 vx15_))) 1)))) rfl rfl (by decide) (vc_2t6 0 (sm_pI (sm_pI (sm_pI (sm_pR S0_ 9 0 0 (some cc_)) 9 0 1 (S0_.1 2 cc_ 19)) 9 0 2 1) 9 0 3 ((l_1 ((l_s0 1 (i_shl 1 vx15_))) 1))) hIx40_ (by decide)) (fun u_ Sx42_ px45_ => ?_)
          obtain ⟨rfl, hIx43_, hFx44_, px45_⟩ := px45_
          have hFx46_ : ai_fr (sx_W vw_168p) S0_ Sx42_ := ai_fr_tr hFx41_ (fr_le hFx44_ rfl)
          have tx47_ : Sx42_.2.1 9 0 0 = some cc_ := (hFx44_.2.1 9 0 0 rfl).trans tx6_
          have s86_ := hFx44_.1 9 0 1 rfl
          refine sm_T_go 3 (c1 := (94, [some (.inr (.inr (some (9, 0)))), some (.inr (.inr (some (2, cc_)))), some (.inl vx15_), none, none], [.inl 0, .inr (.inr (some (94, 0)))], Sx42_)) rfl ?_
          refine sm_T_cal (d1 := 0) (Q1 := vq_2t4 0 Sx42_) rfl rfl (by decide) (vc_2t4 0 Sx42_ hIx43_ (by decide)) (fun u_ Sx48_ px51_ => ?_)
          obtain ⟨rfl, hIx49_, hFx50_, px51_⟩ := px51_
          have hFx52_ : ai_fr (sx_W vw_168p) S0_ Sx48_ := ai_fr_tr hFx46_ (fr_le hFx50_ rfl)
          have tx53_ : Sx48_.2.1 9 0 0 = some cc_ := (hFx50_.2.1 9 0 0 rfl).trans tx47_
          have s94_ := hFx50_.1 9 0 1 rfl
          refine sm_T_go 2 (c1 := (99, [some (.inr (.inr (some (9, 0)))), some (.inr (.inr (some (2, cc_)))), some (.inl vx15_), some (.inl 0), none], [], Sx48_)) rfl ?_
          refine (vl_168p cc_ S0_ hs_ _).1 vx15_ 0 Sx48_ hIx49_ hFx52_ ⟨?_, ?_, ?_, trivial⟩ (Nat.lt_succ_self _)
          · omega
          · exact tx53_
          · have w9_ := s94_.trans s86_
            simp only [rf_eq, rf_nt, rf_nk, rd_fa, rd_af, ne_eq, Nat.reduceEqDiff, not_false_eq_true] at w9_
            exact w9_
        · have cx39_ : ¬ (vx15_ < 6) := of_decide_eq_false cx39_
          refine sm_T_nt (u := some (.inr (.inl (-1)))) (S1 := sm_pI (sm_pI (sm_pR S0_ 9 0 0 (some cc_)) 9 0 1 (S0_.1 2 cc_ 19)) 9 0 2 1) rfl rfl rfl ?_
          have hIx54_ : gi (sm_pI (sm_pI (sm_pI (sm_pR S0_ 9 0 0 (some cc_)) 9 0 1 (S0_.1 2 cc_ 19)) 9 0 2 1) 9 0 3 (-1)) := gi_pJ hIx37_ rfl
          have hFx55_ : ai_fr (sx_W vw_168p) S0_ (sm_pI (sm_pI (sm_pI (sm_pR S0_ 9 0 0 (some cc_)) 9 0 1 (S0_.1 2 cc_ 19)) 9 0 2 1) 9 0 3 (-1)) := ai_fr_tr hFx38_ (ai_fr_pI rfl)
          refine sm_T_go 5 (c1 := (86, [some (.inr (.inr (some (9, 0)))), some (.inr (.inr (some (2, cc_)))), some (.inl vx15_), none, none], [.inl 0, .inr (.inr (some (96, 0)))], sm_pI (sm_pI (sm_pI (sm_pR S0_ 9 0 0 (some cc_)) 9 0 1 (S0_.1 2 cc_ 19)) 9 0 2 1) 9 0 3 (-1))) rfl ?_
          refine sm_T_cal (d1 := 0) (Q1 := vq_2t6 0 (sm_pI (sm_pI (sm_pI (sm_pR S0_ 9 0 0 (some cc_)) 9 0 1 (S0_.1 2 cc_ 19)) 9 0 2 1) 9 0 3 (-1))) rfl rfl (by decide) (vc_2t6 0 (sm_pI (sm_pI (sm_pI (sm_pR S0_ 9 0 0 (some cc_)) 9 0 1 (S0_.1 2 cc_ 19)) 9 0 2 1) 9 0 3 (-1)) hIx54_ (by decide)) (fun u_ Sx56_ px59_ => ?_)
          obtain ⟨rfl, hIx57_, hFx58_, px59_⟩ := px59_
          have hFx60_ : ai_fr (sx_W vw_168p) S0_ Sx56_ := ai_fr_tr hFx55_ (fr_le hFx58_ rfl)
          have tx61_ : Sx56_.2.1 9 0 0 = some cc_ := (hFx58_.2.1 9 0 0 rfl).trans tx6_
          have s86_ := hFx58_.1 9 0 1 rfl
          refine sm_T_go 3 (c1 := (94, [some (.inr (.inr (some (9, 0)))), some (.inr (.inr (some (2, cc_)))), some (.inl vx15_), none, none], [.inl 0, .inr (.inr (some (94, 0)))], Sx56_)) rfl ?_
          refine sm_T_cal (d1 := 0) (Q1 := vq_2t4 0 Sx56_) rfl rfl (by decide) (vc_2t4 0 Sx56_ hIx57_ (by decide)) (fun u_ Sx62_ px65_ => ?_)
          obtain ⟨rfl, hIx63_, hFx64_, px65_⟩ := px65_
          have hFx66_ : ai_fr (sx_W vw_168p) S0_ Sx62_ := ai_fr_tr hFx60_ (fr_le hFx64_ rfl)
          have tx67_ : Sx62_.2.1 9 0 0 = some cc_ := (hFx64_.2.1 9 0 0 rfl).trans tx61_
          have s94_ := hFx64_.1 9 0 1 rfl
          refine sm_T_go 2 (c1 := (99, [some (.inr (.inr (some (9, 0)))), some (.inr (.inr (some (2, cc_)))), some (.inl vx15_), some (.inl 0), none], [], Sx62_)) rfl ?_
          refine (vl_168p cc_ S0_ hs_ _).1 vx15_ 0 Sx62_ hIx63_ hFx66_ ⟨?_, ?_, ?_, trivial⟩ (Nat.lt_succ_self _)
          · omega
          · exact tx67_
          · have w9_ := s94_.trans s86_
            simp only [rf_eq, rf_nt, rf_nk, rd_fa, rd_af, ne_eq, Nat.reduceEqDiff, not_false_eq_true] at w9_
            exact w9_
  | some jx2_ =>
    refine sm_T_gr rfl rfl qx1_ ?_
    refine sm_T_go 1 (c1 := (5, [some (.inr (.inr (some (9, 0)))), some (.inr (.inr (some (2, cc_)))), none, none, none], [.inr (.inr (some (2, cc_))), .inr (.inr (some (2, jx2_)))], S0_)) rfl ?_
    refine sm_T_acn (x_ := some (2, jx2_)) (y_ := some (2, cc_)) rfl rfl (fun cx68_ => ?_) (fun cx68_ => ?_)
    · have cx68_ : jx2_ = cc_ := congrArg Prod.snd (Option.some.inj cx68_)
      have ce9_ := cx68_
      have bx69_ : (-2147483648) ≤ S0_.1 9 0 1 ∧ S0_.1 9 0 1 ≤ 2147483647 := hI_.1 9 0 1 rfl
      have bx70_ : (-2147483648) ≤ S0_.1 2 cc_ 19 ∧ S0_.1 2 cc_ 19 ≤ 2147483647 := hI_.1 2 cc_ 19 rfl
      refine sm_T_go 4 (c1 := (16, [some (.inr (.inr (some (9, 0)))), some (.inr (.inr (some (2, cc_)))), none, none, none], [.inl (S0_.1 2 cc_ 19), .inl (S0_.1 9 0 1)], S0_)) rfl ?_
      refine sm_T_br (a := 1) (z := 4) rfl (fun cx71_ => ?_) (fun cx71_ => ?_)
      · have cx71_ : (S0_.1 9 0 1) ≠ (S0_.1 2 cc_ 19) := of_decide_eq_true cx71_
        have hIx72_ : gi (sm_pR S0_ 9 0 0 (some cc_)) := gi_pR hI_
        have hFx73_ : ai_fr (sx_W vw_168p) S0_ (sm_pR S0_ 9 0 0 (some cc_)) := ai_fr_tr hF_ (ai_fr_pR rfl)
        have tx74_ : (sm_pR S0_ 9 0 0 (some cc_)).2.1 9 0 0 = some cc_ := (sm_up_self (f := S0_.2.1) (t := 9) (i := 0) (k := 0) (v := some cc_))
        have hIx75_ : gi (sm_pI (sm_pR S0_ 9 0 0 (some cc_)) 9 0 1 (S0_.1 2 cc_ 19)) := gi_pI hIx72_ (show (-2147483648) ≤ (S0_.1 2 cc_ 19) ∧ (S0_.1 2 cc_ 19) ≤ 2147483647 from ⟨by omega, by omega⟩)
        have hFx76_ : ai_fr (sx_W vw_168p) S0_ (sm_pI (sm_pR S0_ 9 0 0 (some cc_)) 9 0 1 (S0_.1 2 cc_ 19)) := ai_fr_tr hFx73_ (ai_fr_pI rfl)
        refine sm_T_go 8 (c1 := (34, [some (.inr (.inr (some (9, 0)))), some (.inr (.inr (some (2, cc_)))), none, none, none], [.inr (.inr (some (2, cc_)))], sm_pI (sm_pR S0_ 9 0 0 (some cc_)) 9 0 1 (S0_.1 2 cc_ 19))) rfl ?_
        refine sm_T_cal (d1 := 0) (Q1 := vq_54 cc_ (sm_pI (sm_pR S0_ 9 0 0 (some cc_)) 9 0 1 (S0_.1 2 cc_ 19))) rfl rfl (by decide) (vc_54 cc_ (sm_pI (sm_pR S0_ 9 0 0 (some cc_)) 9 0 1 (S0_.1 2 cc_ 19)) hIx75_ ) (fun u_ Sx77_ px80_ => ?_)
        obtain ⟨rfl, vx82_, rfl, px80_⟩ := px80_
        have g34_ : vx82_ = S0_.1 2 cc_ 1 + S0_.1 2 cc_ 2 := px80_.2
        refine sm_T_go 4 (c1 := (42, [some (.inr (.inr (some (9, 0)))), some (.inr (.inr (some (2, cc_)))), some (.inl vx82_), none, none], [.inl 6, .inl vx82_, .inr (.inr (some (9, 0)))], sm_pI (sm_pR S0_ 9 0 0 (some cc_)) 9 0 1 (S0_.1 2 cc_ 19))) rfl ?_
        refine sm_T_br (a := 4) (z := 7) rfl (fun cx83_ => ?_) (fun cx83_ => ?_)
        · have cx83_ : 6 < vx82_ := of_decide_eq_true cx83_
          refine sm_T_go 3 (c1 := (53, [some (.inr (.inr (some (9, 0)))), some (.inr (.inr (some (2, cc_)))), some (.inl vx82_), none, none], [.inl 6, .inl vx82_, .inl 1, .inr (.inr (some (9, 0)))], sm_pI (sm_pR S0_ 9 0 0 (some cc_)) 9 0 1 (S0_.1 2 cc_ 19))) rfl ?_
          refine sm_T_bin (w := vx82_ - 6) rfl (bi_sub (by omega) (by omega) (by omega)) ?_ -- pc_ 53
          refine sm_T_bin (w := (i_shl 1 (vx82_ - 6))) rfl rfl ?_ -- pc_ 54
          have bx84_ := i_shl1 (e := (vx82_ - 6)) (by omega) (by omega)
          have p5_ := pw_le (n := ((vx82_ - 6)).toNat) (m := 6) (by omega)
          have p6_ := pw_pos ((vx82_ - 6)).toNat
          have hIx87_ : gi (sm_pI (sm_pI (sm_pR S0_ 9 0 0 (some cc_)) 9 0 1 (S0_.1 2 cc_ 19)) 9 0 2 (i_shl 1 (vx82_ - 6))) := gi_pI hIx75_ (show 0 ≤ (i_shl 1 (vx82_ - 6)) ∧ (i_shl 1 (vx82_ - 6)) ≤ 64 from ⟨by omega, by omega⟩)
          have hFx88_ : ai_fr (sx_W vw_168p) S0_ (sm_pI (sm_pI (sm_pR S0_ 9 0 0 (some cc_)) 9 0 1 (S0_.1 2 cc_ 19)) 9 0 2 (i_shl 1 (vx82_ - 6))) := ai_fr_tr hFx76_ (ai_fr_pI rfl)
          refine sm_T_go 4 (c1 := (62, [some (.inr (.inr (some (9, 0)))), some (.inr (.inr (some (2, cc_)))), some (.inl vx82_), none, none], [.inl 6, .inl vx82_, .inr (.inr (some (9, 0)))], sm_pI (sm_pI (sm_pR S0_ 9 0 0 (some cc_)) 9 0 1 (S0_.1 2 cc_ 19)) 9 0 2 (i_shl 1 (vx82_ - 6)))) rfl ?_
          refine sm_T_br (a := 2) (z := 9) rfl (fun cx89_ => ?_) (fun cx89_ => ?_)
          · have cx89_ : vx82_ < 6 := of_decide_eq_true cx89_
            exfalso; omega
          · have cx89_ : ¬ (vx82_ < 6) := of_decide_eq_false cx89_
            refine sm_T_nt (u := some (.inr (.inl (-1)))) (S1 := sm_pI (sm_pI (sm_pR S0_ 9 0 0 (some cc_)) 9 0 1 (S0_.1 2 cc_ 19)) 9 0 2 (i_shl 1 (vx82_ - 6))) rfl rfl rfl ?_
            have hIx90_ : gi (sm_pI (sm_pI (sm_pI (sm_pR S0_ 9 0 0 (some cc_)) 9 0 1 (S0_.1 2 cc_ 19)) 9 0 2 (i_shl 1 (vx82_ - 6))) 9 0 3 (-1)) := gi_pJ hIx87_ rfl
            have hFx91_ : ai_fr (sx_W vw_168p) S0_ (sm_pI (sm_pI (sm_pI (sm_pR S0_ 9 0 0 (some cc_)) 9 0 1 (S0_.1 2 cc_ 19)) 9 0 2 (i_shl 1 (vx82_ - 6))) 9 0 3 (-1)) := ai_fr_tr hFx88_ (ai_fr_pI rfl)
            refine sm_T_go 5 (c1 := (86, [some (.inr (.inr (some (9, 0)))), some (.inr (.inr (some (2, cc_)))), some (.inl vx82_), none, none], [.inl 0, .inr (.inr (some (96, 0)))], sm_pI (sm_pI (sm_pI (sm_pR S0_ 9 0 0 (some cc_)) 9 0 1 (S0_.1 2 cc_ 19)) 9 0 2 (i_shl 1 (vx82_ - 6))) 9 0 3 (-1))) rfl ?_
            refine sm_T_cal (d1 := 0) (Q1 := vq_2t6 0 (sm_pI (sm_pI (sm_pI (sm_pR S0_ 9 0 0 (some cc_)) 9 0 1 (S0_.1 2 cc_ 19)) 9 0 2 (i_shl 1 (vx82_ - 6))) 9 0 3 (-1))) rfl rfl (by decide) (vc_2t6 0 (sm_pI (sm_pI (sm_pI (sm_pR S0_ 9 0 0 (some cc_)) 9 0 1 (S0_.1 2 cc_ 19)) 9 0 2 (i_shl 1 (vx82_ - 6))) 9 0 3 (-1)) hIx90_ (by decide)) (fun u_ Sx92_ px95_ => ?_)
            obtain ⟨rfl, hIx93_, hFx94_, px95_⟩ := px95_
            have hFx96_ : ai_fr (sx_W vw_168p) S0_ Sx92_ := ai_fr_tr hFx91_ (fr_le hFx94_ rfl)
            have tx97_ : Sx92_.2.1 9 0 0 = some cc_ := (hFx94_.2.1 9 0 0 rfl).trans tx74_
            have s86_ := hFx94_.1 9 0 1 rfl
            refine sm_T_go 3 (c1 := (94, [some (.inr (.inr (some (9, 0)))), some (.inr (.inr (some (2, cc_)))), some (.inl vx82_), none, none], [.inl 0, .inr (.inr (some (94, 0)))], Sx92_)) rfl ?_
            refine sm_T_cal (d1 := 0) (Q1 := vq_2t4 0 Sx92_) rfl rfl (by decide) (vc_2t4 0 Sx92_ hIx93_ (by decide)) (fun u_ Sx98_ px101_ => ?_)
            obtain ⟨rfl, hIx99_, hFx100_, px101_⟩ := px101_
            have hFx102_ : ai_fr (sx_W vw_168p) S0_ Sx98_ := ai_fr_tr hFx96_ (fr_le hFx100_ rfl)
            have tx103_ : Sx98_.2.1 9 0 0 = some cc_ := (hFx100_.2.1 9 0 0 rfl).trans tx97_
            have s94_ := hFx100_.1 9 0 1 rfl
            refine sm_T_go 2 (c1 := (99, [some (.inr (.inr (some (9, 0)))), some (.inr (.inr (some (2, cc_)))), some (.inl vx82_), some (.inl 0), none], [], Sx98_)) rfl ?_
            refine (vl_168p cc_ S0_ hs_ _).1 vx82_ 0 Sx98_ hIx99_ hFx102_ ⟨?_, ?_, ?_, trivial⟩ (Nat.lt_succ_self _)
            · omega
            · exact tx103_
            · have w9_ := s94_.trans s86_
              simp only [rf_eq, rf_nt, rf_nk, rd_fa, rd_af, ne_eq, Nat.reduceEqDiff, not_false_eq_true] at w9_
              exact w9_
        · have cx83_ : ¬ (6 < vx82_) := of_decide_eq_false cx83_
          have hIx104_ : gi (sm_pI (sm_pI (sm_pR S0_ 9 0 0 (some cc_)) 9 0 1 (S0_.1 2 cc_ 19)) 9 0 2 1) := gi_pI hIx75_ (show 0 ≤ 1 ∧ 1 ≤ 64 from ⟨by omega, by omega⟩)
          have hFx105_ : ai_fr (sx_W vw_168p) S0_ (sm_pI (sm_pI (sm_pR S0_ 9 0 0 (some cc_)) 9 0 1 (S0_.1 2 cc_ 19)) 9 0 2 1) := ai_fr_tr hFx76_ (ai_fr_pI rfl)
          refine sm_T_go 6 (c1 := (62, [some (.inr (.inr (some (9, 0)))), some (.inr (.inr (some (2, cc_)))), some (.inl vx82_), none, none], [.inl 6, .inl vx82_, .inr (.inr (some (9, 0)))], sm_pI (sm_pI (sm_pR S0_ 9 0 0 (some cc_)) 9 0 1 (S0_.1 2 cc_ 19)) 9 0 2 1)) rfl ?_
          refine sm_T_br (a := 2) (z := 9) rfl (fun cx106_ => ?_) (fun cx106_ => ?_)
          · have cx106_ : vx82_ < 6 := of_decide_eq_true cx106_
            refine sm_T_go 3 (c1 := (74, [some (.inr (.inr (some (9, 0)))), some (.inr (.inr (some (2, cc_)))), some (.inl vx82_), none, none], [.inl vx82_, .inl 1, .inr (.inl 1), .inr (.inr (some (9, 0)))], sm_pI (sm_pI (sm_pR S0_ 9 0 0 (some cc_)) 9 0 1 (S0_.1 2 cc_ 19)) 9 0 2 1)) rfl ?_
            refine sm_T_bin (w := (i_shl 1 vx82_)) rfl rfl ?_ -- pc_ 74
            have hIx107_ : gi (sm_pI (sm_pI (sm_pI (sm_pR S0_ 9 0 0 (some cc_)) 9 0 1 (S0_.1 2 cc_ 19)) 9 0 2 1) 9 0 3 ((l_1 ((l_s0 1 (i_shl 1 vx82_))) 1))) := gi_pJ hIx104_ rfl
            have hFx108_ : ai_fr (sx_W vw_168p) S0_ (sm_pI (sm_pI (sm_pI (sm_pR S0_ 9 0 0 (some cc_)) 9 0 1 (S0_.1 2 cc_ 19)) 9 0 2 1) 9 0 3 ((l_1 ((l_s0 1 (i_shl 1 vx82_))) 1))) := ai_fr_tr hFx105_ (ai_fr_pI rfl)
            refine sm_T_go 7 (c1 := (86, [some (.inr (.inr (some (9, 0)))), some (.inr (.inr (some (2, cc_)))), some (.inl vx82_), none, none], [.inl 0, .inr (.inr (some (96, 0)))], sm_pI (sm_pI (sm_pI (sm_pR S0_ 9 0 0 (some cc_)) 9 0 1 (S0_.1 2 cc_ 19)) 9 0 2 1) 9 0 3 ((l_1 ((l_s0 1 (i_shl 1 vx82_))) 1)))) rfl ?_
            refine sm_T_cal (d1 := 0) (Q1 := vq_2t6 0 (sm_pI (sm_pI (sm_pI (sm_pR S0_ 9 0 0 (some cc_)) 9 0 1 (S0_.1 2 cc_ 19)) 9 0 2 1) 9 0 3 ((l_1 ((l_s0 1 (i_shl 1 vx82_))) 1)))) rfl rfl (by decide) (vc_2t6 0 (sm_pI (sm_pI (sm_pI (sm_pR S0_ 9 0 0 (some cc_)) 9 0 1 (S0_.1 2 cc_ 19)) 9 0 2 1) 9 0 3 ((l_1 ((l_s0 1 (i_shl 1 vx82_))) 1))) hIx107_ (by decide)) (fun u_ Sx109_ px112_ => ?_)
            obtain ⟨rfl, hIx110_, hFx111_, px112_⟩ := px112_
            have hFx113_ : ai_fr (sx_W vw_168p) S0_ Sx109_ := ai_fr_tr hFx108_ (fr_le hFx111_ rfl)
            have tx114_ : Sx109_.2.1 9 0 0 = some cc_ := (hFx111_.2.1 9 0 0 rfl).trans tx74_
            have s86_ := hFx111_.1 9 0 1 rfl
            refine sm_T_go 3 (c1 := (94, [some (.inr (.inr (some (9, 0)))), some (.inr (.inr (some (2, cc_)))), some (.inl vx82_), none, none], [.inl 0, .inr (.inr (some (94, 0)))], Sx109_)) rfl ?_
            refine sm_T_cal (d1 := 0) (Q1 := vq_2t4 0 Sx109_) rfl rfl (by decide) (vc_2t4 0 Sx109_ hIx110_ (by decide)) (fun u_ Sx115_ px118_ => ?_)
            obtain ⟨rfl, hIx116_, hFx117_, px118_⟩ := px118_
            have hFx119_ : ai_fr (sx_W vw_168p) S0_ Sx115_ := ai_fr_tr hFx113_ (fr_le hFx117_ rfl)
            have tx120_ : Sx115_.2.1 9 0 0 = some cc_ := (hFx117_.2.1 9 0 0 rfl).trans tx114_
            have s94_ := hFx117_.1 9 0 1 rfl
            refine sm_T_go 2 (c1 := (99, [some (.inr (.inr (some (9, 0)))), some (.inr (.inr (some (2, cc_)))), some (.inl vx82_), some (.inl 0), none], [], Sx115_)) rfl ?_
            refine (vl_168p cc_ S0_ hs_ _).1 vx82_ 0 Sx115_ hIx116_ hFx119_ ⟨?_, ?_, ?_, trivial⟩ (Nat.lt_succ_self _)
            · omega
            · exact tx120_
            · have w9_ := s94_.trans s86_
              simp only [rf_eq, rf_nt, rf_nk, rd_fa, rd_af, ne_eq, Nat.reduceEqDiff, not_false_eq_true] at w9_
              exact w9_
          · have cx106_ : ¬ (vx82_ < 6) := of_decide_eq_false cx106_
            refine sm_T_nt (u := some (.inr (.inl (-1)))) (S1 := sm_pI (sm_pI (sm_pR S0_ 9 0 0 (some cc_)) 9 0 1 (S0_.1 2 cc_ 19)) 9 0 2 1) rfl rfl rfl ?_
            have hIx121_ : gi (sm_pI (sm_pI (sm_pI (sm_pR S0_ 9 0 0 (some cc_)) 9 0 1 (S0_.1 2 cc_ 19)) 9 0 2 1) 9 0 3 (-1)) := gi_pJ hIx104_ rfl
            have hFx122_ : ai_fr (sx_W vw_168p) S0_ (sm_pI (sm_pI (sm_pI (sm_pR S0_ 9 0 0 (some cc_)) 9 0 1 (S0_.1 2 cc_ 19)) 9 0 2 1) 9 0 3 (-1)) := ai_fr_tr hFx105_ (ai_fr_pI rfl)
            refine sm_T_go 5 (c1 := (86, [some (.inr (.inr (some (9, 0)))), some (.inr (.inr (some (2, cc_)))), some (.inl vx82_), none, none], [.inl 0, .inr (.inr (some (96, 0)))], sm_pI (sm_pI (sm_pI (sm_pR S0_ 9 0 0 (some cc_)) 9 0 1 (S0_.1 2 cc_ 19)) 9 0 2 1) 9 0 3 (-1))) rfl ?_
            refine sm_T_cal (d1 := 0) (Q1 := vq_2t6 0 (sm_pI (sm_pI (sm_pI (sm_pR S0_ 9 0 0 (some cc_)) 9 0 1 (S0_.1 2 cc_ 19)) 9 0 2 1) 9 0 3 (-1))) rfl rfl (by decide) (vc_2t6 0 (sm_pI (sm_pI (sm_pI (sm_pR S0_ 9 0 0 (some cc_)) 9 0 1 (S0_.1 2 cc_ 19)) 9 0 2 1) 9 0 3 (-1)) hIx121_ (by decide)) (fun u_ Sx123_ px126_ => ?_)
            obtain ⟨rfl, hIx124_, hFx125_, px126_⟩ := px126_
            have hFx127_ : ai_fr (sx_W vw_168p) S0_ Sx123_ := ai_fr_tr hFx122_ (fr_le hFx125_ rfl)
            have tx128_ : Sx123_.2.1 9 0 0 = some cc_ := (hFx125_.2.1 9 0 0 rfl).trans tx74_
            have s86_ := hFx125_.1 9 0 1 rfl
            refine sm_T_go 3 (c1 := (94, [some (.inr (.inr (some (9, 0)))), some (.inr (.inr (some (2, cc_)))), some (.inl vx82_), none, none], [.inl 0, .inr (.inr (some (94, 0)))], Sx123_)) rfl ?_
            refine sm_T_cal (d1 := 0) (Q1 := vq_2t4 0 Sx123_) rfl rfl (by decide) (vc_2t4 0 Sx123_ hIx124_ (by decide)) (fun u_ Sx129_ px132_ => ?_)
            obtain ⟨rfl, hIx130_, hFx131_, px132_⟩ := px132_
            have hFx133_ : ai_fr (sx_W vw_168p) S0_ Sx129_ := ai_fr_tr hFx127_ (fr_le hFx131_ rfl)
            have tx134_ : Sx129_.2.1 9 0 0 = some cc_ := (hFx131_.2.1 9 0 0 rfl).trans tx128_
            have s94_ := hFx131_.1 9 0 1 rfl
            refine sm_T_go 2 (c1 := (99, [some (.inr (.inr (some (9, 0)))), some (.inr (.inr (some (2, cc_)))), some (.inl vx82_), some (.inl 0), none], [], Sx129_)) rfl ?_
            refine (vl_168p cc_ S0_ hs_ _).1 vx82_ 0 Sx129_ hIx130_ hFx133_ ⟨?_, ?_, ?_, trivial⟩ (Nat.lt_succ_self _)
            · omega
            · exact tx134_
            · have w9_ := s94_.trans s86_
              simp only [rf_eq, rf_nt, rf_nk, rd_fa, rd_af, ne_eq, Nat.reduceEqDiff, not_false_eq_true] at w9_
              exact w9_
      · have cx71_ : ¬ ((S0_.1 9 0 1) ≠ (S0_.1 2 cc_ 19)) := of_decide_eq_false cx71_
        refine sm_T_rv rfl ⟨_, _, rfl, rfl, hI_, hF_, ?_⟩
        refine ⟨?_, by omega⟩
        rw [← ce9_]
        exact qx1_
    · skip
      have hIx135_ : gi (sm_pR S0_ 9 0 0 (some cc_)) := gi_pR hI_
      have hFx136_ : ai_fr (sx_W vw_168p) S0_ (sm_pR S0_ 9 0 0 (some cc_)) := ai_fr_tr hF_ (ai_fr_pR rfl)
      have tx137_ : (sm_pR S0_ 9 0 0 (some cc_)).2.1 9 0 0 = some cc_ := (sm_up_self (f := S0_.2.1) (t := 9) (i := 0) (k := 0) (v := some cc_))
      have bx138_ : (-2147483648) ≤ S0_.1 2 cc_ 19 ∧ S0_.1 2 cc_ 19 ≤ 2147483647 := hI_.1 2 cc_ 19 rfl
      have hIx139_ : gi (sm_pI (sm_pR S0_ 9 0 0 (some cc_)) 9 0 1 (S0_.1 2 cc_ 19)) := gi_pI hIx135_ (show (-2147483648) ≤ (S0_.1 2 cc_ 19) ∧ (S0_.1 2 cc_ 19) ≤ 2147483647 from ⟨by omega, by omega⟩)
      have hFx140_ : ai_fr (sx_W vw_168p) S0_ (sm_pI (sm_pR S0_ 9 0 0 (some cc_)) 9 0 1 (S0_.1 2 cc_ 19)) := ai_fr_tr hFx136_ (ai_fr_pI rfl)
      refine sm_T_go 8 (c1 := (34, [some (.inr (.inr (some (9, 0)))), some (.inr (.inr (some (2, cc_)))), none, none, none], [.inr (.inr (some (2, cc_)))], sm_pI (sm_pR S0_ 9 0 0 (some cc_)) 9 0 1 (S0_.1 2 cc_ 19))) rfl ?_
      refine sm_T_cal (d1 := 0) (Q1 := vq_54 cc_ (sm_pI (sm_pR S0_ 9 0 0 (some cc_)) 9 0 1 (S0_.1 2 cc_ 19))) rfl rfl (by decide) (vc_54 cc_ (sm_pI (sm_pR S0_ 9 0 0 (some cc_)) 9 0 1 (S0_.1 2 cc_ 19)) hIx139_ ) (fun u_ Sx141_ px144_ => ?_)
      obtain ⟨rfl, vx146_, rfl, px144_⟩ := px144_
      have g34_ : vx146_ = S0_.1 2 cc_ 1 + S0_.1 2 cc_ 2 := px144_.2
      refine sm_T_go 4 (c1 := (42, [some (.inr (.inr (some (9, 0)))), some (.inr (.inr (some (2, cc_)))), some (.inl vx146_), none, none], [.inl 6, .inl vx146_, .inr (.inr (some (9, 0)))], sm_pI (sm_pR S0_ 9 0 0 (some cc_)) 9 0 1 (S0_.1 2 cc_ 19))) rfl ?_
      refine sm_T_br (a := 4) (z := 7) rfl (fun cx147_ => ?_) (fun cx147_ => ?_)
      · have cx147_ : 6 < vx146_ := of_decide_eq_true cx147_
        refine sm_T_go 3 (c1 := (53, [some (.inr (.inr (some (9, 0)))), some (.inr (.inr (some (2, cc_)))), some (.inl vx146_), none, none], [.inl 6, .inl vx146_, .inl 1, .inr (.inr (some (9, 0)))], sm_pI (sm_pR S0_ 9 0 0 (some cc_)) 9 0 1 (S0_.1 2 cc_ 19))) rfl ?_
        refine sm_T_bin (w := vx146_ - 6) rfl (bi_sub (by omega) (by omega) (by omega)) ?_ -- pc_ 53
        refine sm_T_bin (w := (i_shl 1 (vx146_ - 6))) rfl rfl ?_ -- pc_ 54
        have bx148_ := i_shl1 (e := (vx146_ - 6)) (by omega) (by omega)
        have p5_ := pw_le (n := ((vx146_ - 6)).toNat) (m := 6) (by omega)
        have p6_ := pw_pos ((vx146_ - 6)).toNat
        have hIx151_ : gi (sm_pI (sm_pI (sm_pR S0_ 9 0 0 (some cc_)) 9 0 1 (S0_.1 2 cc_ 19)) 9 0 2 (i_shl 1 (vx146_ - 6))) := gi_pI hIx139_ (show 0 ≤ (i_shl 1 (vx146_ - 6)) ∧ (i_shl 1 (vx146_ - 6)) ≤ 64 from ⟨by omega, by omega⟩)
        have hFx152_ : ai_fr (sx_W vw_168p) S0_ (sm_pI (sm_pI (sm_pR S0_ 9 0 0 (some cc_)) 9 0 1 (S0_.1 2 cc_ 19)) 9 0 2 (i_shl 1 (vx146_ - 6))) := ai_fr_tr hFx140_ (ai_fr_pI rfl)
        refine sm_T_go 4 (c1 := (62, [some (.inr (.inr (some (9, 0)))), some (.inr (.inr (some (2, cc_)))), some (.inl vx146_), none, none], [.inl 6, .inl vx146_, .inr (.inr (some (9, 0)))], sm_pI (sm_pI (sm_pR S0_ 9 0 0 (some cc_)) 9 0 1 (S0_.1 2 cc_ 19)) 9 0 2 (i_shl 1 (vx146_ - 6)))) rfl ?_
        refine sm_T_br (a := 2) (z := 9) rfl (fun cx153_ => ?_) (fun cx153_ => ?_)
        · have cx153_ : vx146_ < 6 := of_decide_eq_true cx153_
          exfalso; omega
        · have cx153_ : ¬ (vx146_ < 6) := of_decide_eq_false cx153_
          refine sm_T_nt (u := some (.inr (.inl (-1)))) (S1 := sm_pI (sm_pI (sm_pR S0_ 9 0 0 (some cc_)) 9 0 1 (S0_.1 2 cc_ 19)) 9 0 2 (i_shl 1 (vx146_ - 6))) rfl rfl rfl ?_
          have hIx154_ : gi (sm_pI (sm_pI (sm_pI (sm_pR S0_ 9 0 0 (some cc_)) 9 0 1 (S0_.1 2 cc_ 19)) 9 0 2 (i_shl 1 (vx146_ - 6))) 9 0 3 (-1)) := gi_pJ hIx151_ rfl
          have hFx155_ : ai_fr (sx_W vw_168p) S0_ (sm_pI (sm_pI (sm_pI (sm_pR S0_ 9 0 0 (some cc_)) 9 0 1 (S0_.1 2 cc_ 19)) 9 0 2 (i_shl 1 (vx146_ - 6))) 9 0 3 (-1)) := ai_fr_tr hFx152_ (ai_fr_pI rfl)
          refine sm_T_go 5 (c1 := (86, [some (.inr (.inr (some (9, 0)))), some (.inr (.inr (some (2, cc_)))), some (.inl vx146_), none, none], [.inl 0, .inr (.inr (some (96, 0)))], sm_pI (sm_pI (sm_pI (sm_pR S0_ 9 0 0 (some cc_)) 9 0 1 (S0_.1 2 cc_ 19)) 9 0 2 (i_shl 1 (vx146_ - 6))) 9 0 3 (-1))) rfl ?_
          refine sm_T_cal (d1 := 0) (Q1 := vq_2t6 0 (sm_pI (sm_pI (sm_pI (sm_pR S0_ 9 0 0 (some cc_)) 9 0 1 (S0_.1 2 cc_ 19)) 9 0 2 (i_shl 1 (vx146_ - 6))) 9 0 3 (-1))) rfl rfl (by decide) (vc_2t6 0 (sm_pI (sm_pI (sm_pI (sm_pR S0_ 9 0 0 (some cc_)) 9 0 1 (S0_.1 2 cc_ 19)) 9 0 2 (i_shl 1 (vx146_ - 6))) 9 0 3 (-1)) hIx154_ (by decide)) (fun u_ Sx156_ px159_ => ?_)
          obtain ⟨rfl, hIx157_, hFx158_, px159_⟩ := px159_
          have hFx160_ : ai_fr (sx_W vw_168p) S0_ Sx156_ := ai_fr_tr hFx155_ (fr_le hFx158_ rfl)
          have tx161_ : Sx156_.2.1 9 0 0 = some cc_ := (hFx158_.2.1 9 0 0 rfl).trans tx137_
          have s86_ := hFx158_.1 9 0 1 rfl
          refine sm_T_go 3 (c1 := (94, [some (.inr (.inr (some (9, 0)))), some (.inr (.inr (some (2, cc_)))), some (.inl vx146_), none, none], [.inl 0, .inr (.inr (some (94, 0)))], Sx156_)) rfl ?_
          refine sm_T_cal (d1 := 0) (Q1 := vq_2t4 0 Sx156_) rfl rfl (by decide) (vc_2t4 0 Sx156_ hIx157_ (by decide)) (fun u_ Sx162_ px165_ => ?_)
          obtain ⟨rfl, hIx163_, hFx164_, px165_⟩ := px165_
          have hFx166_ : ai_fr (sx_W vw_168p) S0_ Sx162_ := ai_fr_tr hFx160_ (fr_le hFx164_ rfl)
          have tx167_ : Sx162_.2.1 9 0 0 = some cc_ := (hFx164_.2.1 9 0 0 rfl).trans tx161_
          have s94_ := hFx164_.1 9 0 1 rfl
          refine sm_T_go 2 (c1 := (99, [some (.inr (.inr (some (9, 0)))), some (.inr (.inr (some (2, cc_)))), some (.inl vx146_), some (.inl 0), none], [], Sx162_)) rfl ?_
          refine (vl_168p cc_ S0_ hs_ _).1 vx146_ 0 Sx162_ hIx163_ hFx166_ ⟨?_, ?_, ?_, trivial⟩ (Nat.lt_succ_self _)
          · omega
          · exact tx167_
          · have w9_ := s94_.trans s86_
            simp only [rf_eq, rf_nt, rf_nk, rd_fa, rd_af, ne_eq, Nat.reduceEqDiff, not_false_eq_true] at w9_
            exact w9_
      · have cx147_ : ¬ (6 < vx146_) := of_decide_eq_false cx147_
        have hIx168_ : gi (sm_pI (sm_pI (sm_pR S0_ 9 0 0 (some cc_)) 9 0 1 (S0_.1 2 cc_ 19)) 9 0 2 1) := gi_pI hIx139_ (show 0 ≤ 1 ∧ 1 ≤ 64 from ⟨by omega, by omega⟩)
        have hFx169_ : ai_fr (sx_W vw_168p) S0_ (sm_pI (sm_pI (sm_pR S0_ 9 0 0 (some cc_)) 9 0 1 (S0_.1 2 cc_ 19)) 9 0 2 1) := ai_fr_tr hFx140_ (ai_fr_pI rfl)
        refine sm_T_go 6 (c1 := (62, [some (.inr (.inr (some (9, 0)))), some (.inr (.inr (some (2, cc_)))), some (.inl vx146_), none, none], [.inl 6, .inl vx146_, .inr (.inr (some (9, 0)))], sm_pI (sm_pI (sm_pR S0_ 9 0 0 (some cc_)) 9 0 1 (S0_.1 2 cc_ 19)) 9 0 2 1)) rfl ?_
        refine sm_T_br (a := 2) (z := 9) rfl (fun cx170_ => ?_) (fun cx170_ => ?_)
        · have cx170_ : vx146_ < 6 := of_decide_eq_true cx170_
          refine sm_T_go 3 (c1 := (74, [some (.inr (.inr (some (9, 0)))), some (.inr (.inr (some (2, cc_)))), some (.inl vx146_), none, none], [.inl vx146_, .inl 1, .inr (.inl 1), .inr (.inr (some (9, 0)))], sm_pI (sm_pI (sm_pR S0_ 9 0 0 (some cc_)) 9 0 1 (S0_.1 2 cc_ 19)) 9 0 2 1)) rfl ?_
          refine sm_T_bin (w := (i_shl 1 vx146_)) rfl rfl ?_ -- pc_ 74
          have hIx171_ : gi (sm_pI (sm_pI (sm_pI (sm_pR S0_ 9 0 0 (some cc_)) 9 0 1 (S0_.1 2 cc_ 19)) 9 0 2 1) 9 0 3 ((l_1 ((l_s0 1 (i_shl 1 vx146_))) 1))) := gi_pJ hIx168_ rfl
          have hFx172_ : ai_fr (sx_W vw_168p) S0_ (sm_pI (sm_pI (sm_pI (sm_pR S0_ 9 0 0 (some cc_)) 9 0 1 (S0_.1 2 cc_ 19)) 9 0 2 1) 9 0 3 ((l_1 ((l_s0 1 (i_shl 1 vx146_))) 1))) := ai_fr_tr hFx169_ (ai_fr_pI rfl)
          refine sm_T_go 7 (c1 := (86, [some (.inr (.inr (some (9, 0)))), some (.inr (.inr (some (2, cc_)))), some (.inl vx146_), none, none], [.inl 0, .inr (.inr (some (96, 0)))], sm_pI (sm_pI (sm_pI (sm_pR S0_ 9 0 0 (some cc_)) 9 0 1 (S0_.1 2 cc_ 19)) 9 0 2 1) 9 0 3 ((l_1 ((l_s0 1 (i_shl 1 vx146_))) 1)))) rfl ?_
          refine sm_T_cal (d1 := 0) (Q1 := vq_2t6 0 (sm_pI (sm_pI (sm_pI (sm_pR S0_ 9 0 0 (some cc_)) 9 0 1 (S0_.1 2 cc_ 19)) 9 0 2 1) 9 0 3 ((l_1 ((l_s0 1 (i_shl 1 vx146_))) 1)))) rfl rfl (by decide) (vc_2t6 0 (sm_pI (sm_pI (sm_pI (sm_pR S0_ 9 0 0 (some cc_)) 9 0 1 (S0_.1 2 cc_ 19)) 9 0 2 1) 9 0 3 ((l_1 ((l_s0 1 (i_shl 1 vx146_))) 1))) hIx171_ (by decide)) (fun u_ Sx173_ px176_ => ?_)
          obtain ⟨rfl, hIx174_, hFx175_, px176_⟩ := px176_
          have hFx177_ : ai_fr (sx_W vw_168p) S0_ Sx173_ := ai_fr_tr hFx172_ (fr_le hFx175_ rfl)
          have tx178_ : Sx173_.2.1 9 0 0 = some cc_ := (hFx175_.2.1 9 0 0 rfl).trans tx137_
          have s86_ := hFx175_.1 9 0 1 rfl
          refine sm_T_go 3 (c1 := (94, [some (.inr (.inr (some (9, 0)))), some (.inr (.inr (some (2, cc_)))), some (.inl vx146_), none, none], [.inl 0, .inr (.inr (some (94, 0)))], Sx173_)) rfl ?_
          refine sm_T_cal (d1 := 0) (Q1 := vq_2t4 0 Sx173_) rfl rfl (by decide) (vc_2t4 0 Sx173_ hIx174_ (by decide)) (fun u_ Sx179_ px182_ => ?_)
          obtain ⟨rfl, hIx180_, hFx181_, px182_⟩ := px182_
          have hFx183_ : ai_fr (sx_W vw_168p) S0_ Sx179_ := ai_fr_tr hFx177_ (fr_le hFx181_ rfl)
          have tx184_ : Sx179_.2.1 9 0 0 = some cc_ := (hFx181_.2.1 9 0 0 rfl).trans tx178_
          have s94_ := hFx181_.1 9 0 1 rfl
          refine sm_T_go 2 (c1 := (99, [some (.inr (.inr (some (9, 0)))), some (.inr (.inr (some (2, cc_)))), some (.inl vx146_), some (.inl 0), none], [], Sx179_)) rfl ?_
          refine (vl_168p cc_ S0_ hs_ _).1 vx146_ 0 Sx179_ hIx180_ hFx183_ ⟨?_, ?_, ?_, trivial⟩ (Nat.lt_succ_self _)
          · omega
          · exact tx184_
          · have w9_ := s94_.trans s86_
            simp only [rf_eq, rf_nt, rf_nk, rd_fa, rd_af, ne_eq, Nat.reduceEqDiff, not_false_eq_true] at w9_
            exact w9_
        · have cx170_ : ¬ (vx146_ < 6) := of_decide_eq_false cx170_
          refine sm_T_nt (u := some (.inr (.inl (-1)))) (S1 := sm_pI (sm_pI (sm_pR S0_ 9 0 0 (some cc_)) 9 0 1 (S0_.1 2 cc_ 19)) 9 0 2 1) rfl rfl rfl ?_
          have hIx185_ : gi (sm_pI (sm_pI (sm_pI (sm_pR S0_ 9 0 0 (some cc_)) 9 0 1 (S0_.1 2 cc_ 19)) 9 0 2 1) 9 0 3 (-1)) := gi_pJ hIx168_ rfl
          have hFx186_ : ai_fr (sx_W vw_168p) S0_ (sm_pI (sm_pI (sm_pI (sm_pR S0_ 9 0 0 (some cc_)) 9 0 1 (S0_.1 2 cc_ 19)) 9 0 2 1) 9 0 3 (-1)) := ai_fr_tr hFx169_ (ai_fr_pI rfl)
          refine sm_T_go 5 (c1 := (86, [some (.inr (.inr (some (9, 0)))), some (.inr (.inr (some (2, cc_)))), some (.inl vx146_), none, none], [.inl 0, .inr (.inr (some (96, 0)))], sm_pI (sm_pI (sm_pI (sm_pR S0_ 9 0 0 (some cc_)) 9 0 1 (S0_.1 2 cc_ 19)) 9 0 2 1) 9 0 3 (-1))) rfl ?_
          refine sm_T_cal (d1 := 0) (Q1 := vq_2t6 0 (sm_pI (sm_pI (sm_pI (sm_pR S0_ 9 0 0 (some cc_)) 9 0 1 (S0_.1 2 cc_ 19)) 9 0 2 1) 9 0 3 (-1))) rfl rfl (by decide) (vc_2t6 0 (sm_pI (sm_pI (sm_pI (sm_pR S0_ 9 0 0 (some cc_)) 9 0 1 (S0_.1 2 cc_ 19)) 9 0 2 1) 9 0 3 (-1)) hIx185_ (by decide)) (fun u_ Sx187_ px190_ => ?_)
          obtain ⟨rfl, hIx188_, hFx189_, px190_⟩ := px190_
          have hFx191_ : ai_fr (sx_W vw_168p) S0_ Sx187_ := ai_fr_tr hFx186_ (fr_le hFx189_ rfl)
          have tx192_ : Sx187_.2.1 9 0 0 = some cc_ := (hFx189_.2.1 9 0 0 rfl).trans tx137_
          have s86_ := hFx189_.1 9 0 1 rfl
          refine sm_T_go 3 (c1 := (94, [some (.inr (.inr (some (9, 0)))), some (.inr (.inr (some (2, cc_)))), some (.inl vx146_), none, none], [.inl 0, .inr (.inr (some (94, 0)))], Sx187_)) rfl ?_
          refine sm_T_cal (d1 := 0) (Q1 := vq_2t4 0 Sx187_) rfl rfl (by decide) (vc_2t4 0 Sx187_ hIx188_ (by decide)) (fun u_ Sx193_ px196_ => ?_)
          obtain ⟨rfl, hIx194_, hFx195_, px196_⟩ := px196_
          have hFx197_ : ai_fr (sx_W vw_168p) S0_ Sx193_ := ai_fr_tr hFx191_ (fr_le hFx195_ rfl)
          have tx198_ : Sx193_.2.1 9 0 0 = some cc_ := (hFx195_.2.1 9 0 0 rfl).trans tx192_
          have s94_ := hFx195_.1 9 0 1 rfl
          refine sm_T_go 2 (c1 := (99, [some (.inr (.inr (some (9, 0)))), some (.inr (.inr (some (2, cc_)))), some (.inl vx146_), some (.inl 0), none], [], Sx193_)) rfl ?_
          refine (vl_168p cc_ S0_ hs_ _).1 vx146_ 0 Sx193_ hIx194_ hFx197_ ⟨?_, ?_, ?_, trivial⟩ (Nat.lt_succ_self _)
          · omega
          · exact tx198_
          · have w9_ := s94_.trans s86_
            simp only [rf_eq, rf_nt, rf_nk, rd_fa, rd_af, ne_eq, Nat.reduceEqDiff, not_false_eq_true] at w9_
            exact w9_
/-! Tester.workFault -/
def vw_174p : sx_Wl := ([(9, 1), (9, 2), (9, 3)], [92, 93, 94, 95, 96], [(9, 0)])
def vq_174p (a2_ : Int) (cc_ : Nat) (S0_ : sm_S) (u_ : Option sm_V) (S1_ : sm_S) : Prop := u_ = none ∧ gi S1_ ∧ ai_fr (sx_W vw_174p) S0_ S1_ ∧ (S1_.2.1 9 0 0 = some cc_ ∧ shq S1_)
set_option maxHeartbeats 2000000 in
set_option maxRecDepth 20000 in
theorem vl_174p {sc_ : Nat × (Nat → Int)} (a2_ : Int) (cc_ : Nat) (S0_ : sm_S) (hs_ : S0_.1 2 cc_ 1 + S0_.1 2 cc_ 2 ≤ 12) (h2_ : 0 ≤ a2_ ∧ a2_ ≤ 1223) (hn_ : shq S0_) : ∀ nn_ : Nat, (∀ (y3_ : Int) (ip_ : Int) (g_ : Int) (S_ : sm_S), gi S_ → ai_fr (sx_W vw_174p) S0_ S_ → ((0 ≤ g_ ∧ g_ ≤ 149 ∧ -2147483000 + 3 * (150 - g_) ≤ ip_ ∧ ip_ ≤ 2000) ∧ (S_.2.1 9 0 0 = some cc_) ∧ (shq S_) ∧ True) → ((90000 - g_).toNat) < nn_ → sm_T (mt_P sc_) 4 174 (121, [some (.inr (.inr (some (9, 0)))), some (.inr (.inr (some (2, cc_)))), some (.inl a2_), some (.inr (.inl y3_)), none, none, some (.inl ip_), some (.inl g_), none], [], S_) (fun ro9_ => ∃ u_ S1_, ro9_ = (.inl u_, S1_, 0) ∧ vq_174p a2_ cc_ S0_ u_ S1_)) ∧ (∀ (y3_ : Int) (fm_ : Int) (g_ : Int) (S_ : sm_S), gi S_ → ai_fr (sx_W vw_174p) S0_ S_ → ((0 ≤ g_ ∧ g_ ≤ 151) ∧ (S_.2.1 9 0 0 = some cc_) ∧ (shq S_) ∧ True) → ((100 * (200 - g_) + 90).toNat) < nn_ → sm_T (mt_P sc_) 4 174 (199, [some (.inr (.inr (some (9, 0)))), some (.inr (.inr (some (2, cc_)))), some (.inl a2_), some (.inr (.inl y3_)), none, some (.inl fm_), some (.inl g_), none, none], [], S_) (fun ro9_ => ∃ u_ S1_, ro9_ = (.inl u_, S1_, 0) ∧ vq_174p a2_ cc_ S0_ u_ S1_)) ∧ (∀ (y3_ : Int) (fm_ : Int) (g_ : Int) (rc_ : Int) (k_ : Int) (S_ : sm_S), gi S_ → ai_fr (sx_W vw_174p) S0_ S_ → ((0 ≤ g_ ∧ g_ < 150 ∧ 0 ≤ rc_ ∧ rc_ ≤ 1 ∧ 0 ≤ k_ ∧ k_ ≤ 3) ∧ (S_.2.1 9 0 0 = some cc_) ∧ (shq S_) ∧ True) → ((100 * (200 - g_) + 80 - k_).toNat) < nn_ → sm_T (mt_P sc_) 4 174 (214, [some (.inr (.inr (some (9, 0)))), some (.inr (.inr (some (2, cc_)))), some (.inl a2_), some (.inr (.inl y3_)), none, some (.inl fm_), some (.inl g_), some (.inl rc_), some (.inl k_)], [], S_) (fun ro9_ => ∃ u_ S1_, ro9_ = (.inl u_, S1_, 0) ∧ vq_174p a2_ cc_ S0_ u_ S1_)) := by
  intro nn_
  induction nn_ with
  | zero => exact ⟨fun _ _ _ _ _ _ _ h_ => absurd h_ (Nat.not_lt_zero _), fun _ _ _ _ _ _ _ h_ => absurd h_ (Nat.not_lt_zero _), fun _ _ _ _ _ _ _ _ _ h_ => absurd h_ (Nat.not_lt_zero _)⟩
  | succ nn_ ih_ =>
    refine ⟨?_, ?_, ?_⟩
    · rintro y3_ ip_ g_ S_ hI_ hF_ ⟨h0_, hck_, hn1_, -⟩ hm_
      have z1_ : S_.1 2 cc_ 1 = S0_.1 2 cc_ 1 := hF_.1 2 cc_ 1 rfl
      have z2_ : S_.1 2 cc_ 2 = S0_.1 2 cc_ 2 := hF_.1 2 cc_ 2 rfl
      have cw : 0 ≤ S_.1 9 0 2 ∧ S_.1 9 0 2 ≤ 64 := hI_.1 9 0 2 rfl
      have cg9_ : 0 ≤ S_.1 2 cc_ 8 ∧ S_.1 2 cc_ 8 ≤ 150 := hI_.1 2 cc_ 8 rfl
      have cq1_ : 0 ≤ S_.1 2 cc_ 1 ∧ S_.1 2 cc_ 1 ≤ 12 := hI_.1 2 cc_ 1 rfl
      have cq2_ : 0 ≤ S_.1 2 cc_ 2 ∧ S_.1 2 cc_ 2 ≤ 6 := hI_.1 2 cc_ 2 rfl
      have bx1_ : 0 ≤ S_.1 2 cc_ 8 ∧ S_.1 2 cc_ 8 ≤ 150 := hI_.1 2 cc_ 8 rfl
      refine sm_T_go 4 (c1 := (128, [some (.inr (.inr (some (9, 0)))), some (.inr (.inr (some (2, cc_)))), some (.inl a2_), some (.inr (.inl y3_)), none, none, some (.inl ip_), some (.inl g_), none], [.inl 1, .inl (S_.1 2 cc_ 8), .inl g_], S_)) rfl ?_
      refine sm_T_bin (w := (S_.1 2 cc_ 8) - 1) rfl (bi_sub (by omega) (by omega) (by omega)) ?_ -- pc_ 128
      refine sm_T_br (a := 3) (z := 31) rfl (fun cx2_ => ?_) (fun cx2_ => ?_)
      · have cx2_ : (S_.1 2 cc_ 8) - 1 ≤ g_ := of_decide_eq_true cx2_
        refine sm_T_go 3 (c1 := (165, [some (.inr (.inr (some (9, 0)))), some (.inr (.inr (some (2, cc_)))), some (.inl a2_), some (.inr (.inl y3_)), none, none, some (.inl ip_), some (.inl g_), none], [.inr (.inr (some (2, cc_))), .inr (.inr (some (94, 0)))], S_)) rfl ?_
        refine sm_T_cal (d1 := 0) (Q1 := vq_54 cc_ S_) rfl rfl (by decide) (vc_54 cc_ S_ hI_ ) (fun u_ Sx3_ px6_ => ?_)
        obtain ⟨rfl, vx8_, rfl, px6_⟩ := px6_
        have m165_ := px6_
        refine sm_T_go 1 (c1 := (170, [some (.inr (.inr (some (9, 0)))), some (.inr (.inr (some (2, cc_)))), some (.inl a2_), some (.inr (.inl y3_)), none, none, some (.inl ip_), some (.inl g_), none], [.inl g_, .inl vx8_, .inr (.inr (some (94, 0)))], S_)) rfl ?_
        refine sm_T_bin (w := vx8_ + g_) rfl (bi_add (by omega) (by omega) (by omega)) ?_ -- pc_ 170
        refine sm_T_go 4 (c1 := (177, [some (.inr (.inr (some (9, 0)))), some (.inr (.inr (some (2, cc_)))), some (.inl a2_), some (.inr (.inl y3_)), none, none, some (.inl ip_), some (.inl g_), none], [.inr (.inl y3_), .inl ip_, .inl g_, .inr (.inr (some (9, 0))), .inl (vx8_ + g_), .inr (.inr (some (94, 0)))], S_)) rfl ?_
        refine sm_T_cal (d1 := 2) (Q1 := vq_173 g_ ip_ y3_ cc_ S_) rfl rfl (by decide) (vc_173 g_ ip_ y3_ cc_ S_ hI_ (by exact hck_) (by omega) (by omega)) (fun u_ Sx9_ px12_ => ?_)
        obtain ⟨vx14_, rfl, hIx10_, hFx11_, px12_⟩ := px12_
        have hFx13_ : ai_fr (sx_W vw_174p) S0_ Sx9_ := ai_fr_tr hF_ (fr_le hFx11_ rfl)
        have ex15_ : Sx9_.1 2 cc_ 8 = S_.1 2 cc_ 8 := hFx11_.1 2 cc_ 8 rfl
        have w177_ := px12_
        have n177_ := shq_fr hn1_ hFx11_
        have tk177_ := (hFx11_.2.1 9 0 0 rfl).trans hck_
        refine sm_T_b0 (a := 0) (z := 7) rfl (fun cx16_ => ?_) (fun cx16_ => ?_)
        · have cx16_ : vx14_ = 0 := of_decide_eq_true cx16_
          refine sm_T_go 1 (c1 := (188, [some (.inr (.inr (some (9, 0)))), some (.inr (.inr (some (2, cc_)))), some (.inl a2_), some (.inr (.inl y3_)), none, none, some (.inl ip_), some (.inl g_), none], [.inl 0, .inl (vx8_ + g_), .inr (.inr (some (94, 0)))], Sx9_)) rfl ?_
          refine sm_T_iast (n := 162) rfl rfl (by omega) (by omega) ?_
          have hIx17_ : gi (sm_aI Sx9_ 94 0 (vx8_ + g_).toNat 0) := gi_aI hIx10_ (show 0 ≤ 0 ∧ 0 ≤ 1 from ⟨by omega, by omega⟩)
          have hFx18_ : ai_fr (sx_W vw_174p) S0_ (sm_aI Sx9_ 94 0 (vx8_ + g_).toNat 0) := ai_fr_tr hFx13_ (ai_fr_aI rfl)
          refine sm_T_go 2 (c1 := (192, [some (.inr (.inr (some (9, 0)))), some (.inr (.inr (some (2, cc_)))), some (.inl a2_), some (.inr (.inl y3_)), none, none, some (.inl ip_), some (.inl g_), none], [.inl 1, .inl g_], sm_aI Sx9_ 94 0 (vx8_ + g_).toNat 0)) rfl ?_
          refine sm_T_bin (w := g_ + 1) rfl (bi_add (by omega) (by omega) (by omega)) ?_ -- pc_ 192
          refine sm_T_go 3 (c1 := (199, [some (.inr (.inr (some (9, 0)))), some (.inr (.inr (some (2, cc_)))), some (.inl a2_), some (.inr (.inl y3_)), none, some (.inl (g_ + 1)), some (.inl (g_ + 1)), some (.inl g_), none], [], sm_aI Sx9_ 94 0 (vx8_ + g_).toNat 0)) rfl ?_
          refine sm_T_wk [some (.inr (.inr (some (9, 0)))), some (.inr (.inr (some (2, cc_)))), some (.inl a2_), some (.inr (.inl y3_)), none, some (.inl (g_ + 1)), some (.inl (g_ + 1)), none, none] (by exact ⟨rfl, rfl, rfl, rfl, rfl, rfl, trivial⟩) ?_
          refine ih_.2.1 y3_ (g_ + 1) (g_ + 1) (sm_aI Sx9_ 94 0 (vx8_ + g_).toNat 0) hIx17_ hFx18_ ⟨?_, ?_, ?_, trivial⟩ ?_
          · omega
          · exact tk177_
          · exact n177_
          · omega
        · have cx16_ : ¬ (vx14_ = 0) := of_decide_eq_false cx16_
          refine sm_T_go 2 (c1 := (188, [some (.inr (.inr (some (9, 0)))), some (.inr (.inr (some (2, cc_)))), some (.inl a2_), some (.inr (.inl y3_)), none, none, some (.inl ip_), some (.inl g_), none], [.inl 1, .inl (vx8_ + g_), .inr (.inr (some (94, 0)))], Sx9_)) rfl ?_
          refine sm_T_iast (n := 162) rfl rfl (by omega) (by omega) ?_
          have hIx19_ : gi (sm_aI Sx9_ 94 0 (vx8_ + g_).toNat 1) := gi_aI hIx10_ (show 0 ≤ 1 ∧ 1 ≤ 1 from ⟨by omega, by omega⟩)
          have hFx20_ : ai_fr (sx_W vw_174p) S0_ (sm_aI Sx9_ 94 0 (vx8_ + g_).toNat 1) := ai_fr_tr hFx13_ (ai_fr_aI rfl)
          refine sm_T_go 2 (c1 := (192, [some (.inr (.inr (some (9, 0)))), some (.inr (.inr (some (2, cc_)))), some (.inl a2_), some (.inr (.inl y3_)), none, none, some (.inl ip_), some (.inl g_), none], [.inl 1, .inl g_], sm_aI Sx9_ 94 0 (vx8_ + g_).toNat 1)) rfl ?_
          refine sm_T_bin (w := g_ + 1) rfl (bi_add (by omega) (by omega) (by omega)) ?_ -- pc_ 192
          refine sm_T_go 3 (c1 := (199, [some (.inr (.inr (some (9, 0)))), some (.inr (.inr (some (2, cc_)))), some (.inl a2_), some (.inr (.inl y3_)), none, some (.inl (g_ + 1)), some (.inl (g_ + 1)), some (.inl g_), none], [], sm_aI Sx9_ 94 0 (vx8_ + g_).toNat 1)) rfl ?_
          refine sm_T_wk [some (.inr (.inr (some (9, 0)))), some (.inr (.inr (some (2, cc_)))), some (.inl a2_), some (.inr (.inl y3_)), none, some (.inl (g_ + 1)), some (.inl (g_ + 1)), none, none] (by exact ⟨rfl, rfl, rfl, rfl, rfl, rfl, trivial⟩) ?_
          refine ih_.2.1 y3_ (g_ + 1) (g_ + 1) (sm_aI Sx9_ 94 0 (vx8_ + g_).toNat 1) hIx19_ hFx20_ ⟨?_, ?_, ?_, trivial⟩ ?_
          · omega
          · exact tk177_
          · exact n177_
          · omega
      · have cx2_ : ¬ ((S_.1 2 cc_ 8) - 1 ≤ g_) := of_decide_eq_false cx2_
        refine sm_T_go 3 (c1 := (137, [some (.inr (.inr (some (9, 0)))), some (.inr (.inr (some (2, cc_)))), some (.inl a2_), some (.inr (.inl y3_)), none, none, some (.inl ip_), some (.inl g_), none], [.inl g_, .inr (.inr (some (2, cc_))), .inl ip_], S_)) rfl ?_
        refine sm_T_cal (d1 := 0) (Q1 := vq_59 g_ cc_ S_) rfl rfl (by decide) (vc_59 g_ cc_ S_ hI_ (by omega)) (fun u_ Sx21_ px24_ => ?_)
        obtain ⟨rfl, vx26_, rfl, px24_⟩ := px24_
        have g137_ := px24_.1
        refine sm_T_br (a := 2) (z := 20) rfl (fun cx27_ => ?_) (fun cx27_ => ?_)
        · have cx27_ : ip_ < vx26_ := of_decide_eq_true cx27_
          refine sm_T_go 3 (c1 := (165, [some (.inr (.inr (some (9, 0)))), some (.inr (.inr (some (2, cc_)))), some (.inl a2_), some (.inr (.inl y3_)), none, none, some (.inl ip_), some (.inl g_), none], [.inr (.inr (some (2, cc_))), .inr (.inr (some (94, 0)))], S_)) rfl ?_
          refine sm_T_cal (d1 := 0) (Q1 := vq_54 cc_ S_) rfl rfl (by decide) (vc_54 cc_ S_ hI_ ) (fun u_ Sx28_ px31_ => ?_)
          obtain ⟨rfl, vx33_, rfl, px31_⟩ := px31_
          have m165_ := px31_
          refine sm_T_go 1 (c1 := (170, [some (.inr (.inr (some (9, 0)))), some (.inr (.inr (some (2, cc_)))), some (.inl a2_), some (.inr (.inl y3_)), none, none, some (.inl ip_), some (.inl g_), none], [.inl g_, .inl vx33_, .inr (.inr (some (94, 0)))], S_)) rfl ?_
          refine sm_T_bin (w := vx33_ + g_) rfl (bi_add (by omega) (by omega) (by omega)) ?_ -- pc_ 170
          refine sm_T_go 4 (c1 := (177, [some (.inr (.inr (some (9, 0)))), some (.inr (.inr (some (2, cc_)))), some (.inl a2_), some (.inr (.inl y3_)), none, none, some (.inl ip_), some (.inl g_), none], [.inr (.inl y3_), .inl ip_, .inl g_, .inr (.inr (some (9, 0))), .inl (vx33_ + g_), .inr (.inr (some (94, 0)))], S_)) rfl ?_
          refine sm_T_cal (d1 := 2) (Q1 := vq_173 g_ ip_ y3_ cc_ S_) rfl rfl (by decide) (vc_173 g_ ip_ y3_ cc_ S_ hI_ (by exact hck_) (by omega) (by omega)) (fun u_ Sx34_ px37_ => ?_)
          obtain ⟨vx39_, rfl, hIx35_, hFx36_, px37_⟩ := px37_
          have hFx38_ : ai_fr (sx_W vw_174p) S0_ Sx34_ := ai_fr_tr hF_ (fr_le hFx36_ rfl)
          have ex40_ : Sx34_.1 2 cc_ 8 = S_.1 2 cc_ 8 := hFx36_.1 2 cc_ 8 rfl
          have w177_ := px37_
          have n177_ := shq_fr hn1_ hFx36_
          have tk177_ := (hFx36_.2.1 9 0 0 rfl).trans hck_
          refine sm_T_b0 (a := 0) (z := 7) rfl (fun cx41_ => ?_) (fun cx41_ => ?_)
          · have cx41_ : vx39_ = 0 := of_decide_eq_true cx41_
            refine sm_T_go 1 (c1 := (188, [some (.inr (.inr (some (9, 0)))), some (.inr (.inr (some (2, cc_)))), some (.inl a2_), some (.inr (.inl y3_)), none, none, some (.inl ip_), some (.inl g_), none], [.inl 0, .inl (vx33_ + g_), .inr (.inr (some (94, 0)))], Sx34_)) rfl ?_
            refine sm_T_iast (n := 162) rfl rfl (by omega) (by omega) ?_
            have hIx42_ : gi (sm_aI Sx34_ 94 0 (vx33_ + g_).toNat 0) := gi_aI hIx35_ (show 0 ≤ 0 ∧ 0 ≤ 1 from ⟨by omega, by omega⟩)
            have hFx43_ : ai_fr (sx_W vw_174p) S0_ (sm_aI Sx34_ 94 0 (vx33_ + g_).toNat 0) := ai_fr_tr hFx38_ (ai_fr_aI rfl)
            refine sm_T_go 2 (c1 := (192, [some (.inr (.inr (some (9, 0)))), some (.inr (.inr (some (2, cc_)))), some (.inl a2_), some (.inr (.inl y3_)), none, none, some (.inl ip_), some (.inl g_), none], [.inl 1, .inl g_], sm_aI Sx34_ 94 0 (vx33_ + g_).toNat 0)) rfl ?_
            refine sm_T_bin (w := g_ + 1) rfl (bi_add (by omega) (by omega) (by omega)) ?_ -- pc_ 192
            refine sm_T_go 3 (c1 := (199, [some (.inr (.inr (some (9, 0)))), some (.inr (.inr (some (2, cc_)))), some (.inl a2_), some (.inr (.inl y3_)), none, some (.inl (g_ + 1)), some (.inl (g_ + 1)), some (.inl g_), none], [], sm_aI Sx34_ 94 0 (vx33_ + g_).toNat 0)) rfl ?_
            refine sm_T_wk [some (.inr (.inr (some (9, 0)))), some (.inr (.inr (some (2, cc_)))), some (.inl a2_), some (.inr (.inl y3_)), none, some (.inl (g_ + 1)), some (.inl (g_ + 1)), none, none] (by exact ⟨rfl, rfl, rfl, rfl, rfl, rfl, trivial⟩) ?_
            refine ih_.2.1 y3_ (g_ + 1) (g_ + 1) (sm_aI Sx34_ 94 0 (vx33_ + g_).toNat 0) hIx42_ hFx43_ ⟨?_, ?_, ?_, trivial⟩ ?_
            · omega
            · exact tk177_
            · exact n177_
            · omega
          · have cx41_ : ¬ (vx39_ = 0) := of_decide_eq_false cx41_
            refine sm_T_go 2 (c1 := (188, [some (.inr (.inr (some (9, 0)))), some (.inr (.inr (some (2, cc_)))), some (.inl a2_), some (.inr (.inl y3_)), none, none, some (.inl ip_), some (.inl g_), none], [.inl 1, .inl (vx33_ + g_), .inr (.inr (some (94, 0)))], Sx34_)) rfl ?_
            refine sm_T_iast (n := 162) rfl rfl (by omega) (by omega) ?_
            have hIx44_ : gi (sm_aI Sx34_ 94 0 (vx33_ + g_).toNat 1) := gi_aI hIx35_ (show 0 ≤ 1 ∧ 1 ≤ 1 from ⟨by omega, by omega⟩)
            have hFx45_ : ai_fr (sx_W vw_174p) S0_ (sm_aI Sx34_ 94 0 (vx33_ + g_).toNat 1) := ai_fr_tr hFx38_ (ai_fr_aI rfl)
            refine sm_T_go 2 (c1 := (192, [some (.inr (.inr (some (9, 0)))), some (.inr (.inr (some (2, cc_)))), some (.inl a2_), some (.inr (.inl y3_)), none, none, some (.inl ip_), some (.inl g_), none], [.inl 1, .inl g_], sm_aI Sx34_ 94 0 (vx33_ + g_).toNat 1)) rfl ?_
            refine sm_T_bin (w := g_ + 1) rfl (bi_add (by omega) (by omega) (by omega)) ?_ -- pc_ 192
            refine sm_T_go 3 (c1 := (199, [some (.inr (.inr (some (9, 0)))), some (.inr (.inr (some (2, cc_)))), some (.inl a2_), some (.inr (.inl y3_)), none, some (.inl (g_ + 1)), some (.inl (g_ + 1)), some (.inl g_), none], [], sm_aI Sx34_ 94 0 (vx33_ + g_).toNat 1)) rfl ?_
            refine sm_T_wk [some (.inr (.inr (some (9, 0)))), some (.inr (.inr (some (2, cc_)))), some (.inl a2_), some (.inr (.inl y3_)), none, some (.inl (g_ + 1)), some (.inl (g_ + 1)), none, none] (by exact ⟨rfl, rfl, rfl, rfl, rfl, rfl, trivial⟩) ?_
            refine ih_.2.1 y3_ (g_ + 1) (g_ + 1) (sm_aI Sx34_ 94 0 (vx33_ + g_).toNat 1) hIx44_ hFx45_ ⟨?_, ?_, ?_, trivial⟩ ?_
            · omega
            · exact tk177_
            · exact n177_
            · omega
        · have cx27_ : ¬ (ip_ < vx26_) := of_decide_eq_false cx27_
          refine sm_T_go 3 (c1 := (148, [some (.inr (.inr (some (9, 0)))), some (.inr (.inr (some (2, cc_)))), some (.inl a2_), some (.inr (.inl y3_)), none, none, some (.inl ip_), some (.inl g_), none], [.inl g_, .inr (.inr (some (2, cc_))), .inl ip_], S_)) rfl ?_
          refine sm_T_cal (d1 := 0) (Q1 := vq_59 g_ cc_ S_) rfl rfl (by decide) (vc_59 g_ cc_ S_ hI_ (by omega)) (fun u_ Sx46_ px49_ => ?_)
          obtain ⟨rfl, vx51_, rfl, px49_⟩ := px49_
          have g148_ := px49_.1
          refine sm_T_bin (w := ip_ - vx51_) rfl (bi_sub (by omega) (by omega) (by omega)) ?_ -- pc_ 151
          refine sm_T_go 1 (c1 := (154, [some (.inr (.inr (some (9, 0)))), some (.inr (.inr (some (2, cc_)))), some (.inl a2_), some (.inr (.inl y3_)), none, none, some (.inl (ip_ - vx51_)), some (.inl g_), none], [], S_)) rfl ?_
          refine sm_T_inc (a := 7) (z := 1) (v := g_) (w := g_ + 1) rfl rfl (by omega) (by omega) (by omega) ?_ -- pc_ 154
          refine sm_T_go 1 (c1 := (121, [some (.inr (.inr (some (9, 0)))), some (.inr (.inr (some (2, cc_)))), some (.inl a2_), some (.inr (.inl y3_)), none, none, some (.inl (ip_ - vx51_)), some (.inl (g_ + 1)), none], [], S_)) rfl ?_
          refine ih_.1 y3_ (ip_ - vx51_) (g_ + 1) S_ hI_ hF_ ⟨?_, ?_, ?_, trivial⟩ ?_
          · omega
          · exact hck_
          · exact hn1_
          · omega
    · rintro y3_ fm_ g_ S_ hI_ hF_ ⟨h0_, hck_, hn1_, -⟩ hm_
      have z1_ : S_.1 2 cc_ 1 = S0_.1 2 cc_ 1 := hF_.1 2 cc_ 1 rfl
      have z2_ : S_.1 2 cc_ 2 = S0_.1 2 cc_ 2 := hF_.1 2 cc_ 2 rfl
      have cw : 0 ≤ S_.1 9 0 2 ∧ S_.1 9 0 2 ≤ 64 := hI_.1 9 0 2 rfl
      have cg9_ : 0 ≤ S_.1 2 cc_ 8 ∧ S_.1 2 cc_ 8 ≤ 150 := hI_.1 2 cc_ 8 rfl
      have cq1_ : 0 ≤ S_.1 2 cc_ 1 ∧ S_.1 2 cc_ 1 ≤ 12 := hI_.1 2 cc_ 1 rfl
      have cq2_ : 0 ≤ S_.1 2 cc_ 2 ∧ S_.1 2 cc_ 2 ≤ 6 := hI_.1 2 cc_ 2 rfl
      have bx1_ : 0 ≤ S_.1 2 cc_ 8 ∧ S_.1 2 cc_ 8 ≤ 150 := hI_.1 2 cc_ 8 rfl
      refine sm_T_go 3 (c1 := (205, [some (.inr (.inr (some (9, 0)))), some (.inr (.inr (some (2, cc_)))), some (.inl a2_), some (.inr (.inl y3_)), none, some (.inl fm_), some (.inl g_), none, none], [.inl (S_.1 2 cc_ 8), .inl g_], S_)) rfl ?_
      refine sm_T_br (a := 3) (z := 93) rfl (fun cx2_ => ?_) (fun cx2_ => ?_)
      · have cx2_ : (S_.1 2 cc_ 8) ≤ g_ := of_decide_eq_true cx2_
        refine sm_T_go 2 (c1 := (300, [some (.inr (.inr (some (9, 0)))), some (.inr (.inr (some (2, cc_)))), some (.inl a2_), some (.inr (.inl y3_)), none, some (.inl fm_), some (.inl g_), none, none], [.inl a2_, .inr (.inr (some (9, 0)))], S_)) rfl ?_
        refine sm_T_cal (d1 := 2) (Q1 := vq_175 a2_ cc_ S_) rfl rfl (by decide) (vc_175 a2_ cc_ S_ hI_ (by exact hck_) (by omega) (by exact hn1_.1)) (fun u_ Sx3_ px6_ => ?_)
        obtain ⟨rfl, hIx4_, hFx5_, px6_⟩ := px6_
        have hFx7_ : ai_fr (sx_W vw_174p) S0_ Sx3_ := ai_fr_tr hF_ (fr_le hFx5_ rfl)
        have ex8_ : Sx3_.1 2 cc_ 8 = S_.1 2 cc_ 8 := hFx5_.1 2 cc_ 8 rfl
        have k300_ : shq Sx3_ := ⟨px6_, tsa_fr hn1_.2 hFx5_⟩
        have tk300_ := (hFx5_.2.1 9 0 0 rfl).trans hck_
        refine sm_T_rv rfl ⟨_, _, rfl, rfl, hIx4_, hFx7_, ?_⟩
        exact ⟨tk300_, k300_⟩
      · have cx2_ : ¬ ((S_.1 2 cc_ 8) ≤ g_) := of_decide_eq_false cx2_
        refine sm_T_go 4 (c1 := (214, [some (.inr (.inr (some (9, 0)))), some (.inr (.inr (some (2, cc_)))), some (.inl a2_), some (.inr (.inl y3_)), none, some (.inl fm_), some (.inl g_), some (.inl 0), some (.inl 0)], [], S_)) rfl ?_
        refine ih_.2.2 y3_ fm_ g_ 0 0 S_ hI_ hF_ ⟨?_, ?_, ?_, trivial⟩ ?_
        · omega
        · exact hck_
        · exact hn1_
        · omega
    · rintro y3_ fm_ g_ rc_ k_ S_ hI_ hF_ ⟨h0_, hck_, hn1_, -⟩ hm_
      have z1_ : S_.1 2 cc_ 1 = S0_.1 2 cc_ 1 := hF_.1 2 cc_ 1 rfl
      have z2_ : S_.1 2 cc_ 2 = S0_.1 2 cc_ 2 := hF_.1 2 cc_ 2 rfl
      have cw : 0 ≤ S_.1 9 0 2 ∧ S_.1 9 0 2 ≤ 64 := hI_.1 9 0 2 rfl
      have cg9_ : 0 ≤ S_.1 2 cc_ 8 ∧ S_.1 2 cc_ 8 ≤ 150 := hI_.1 2 cc_ 8 rfl
      have cq1_ : 0 ≤ S_.1 2 cc_ 1 ∧ S_.1 2 cc_ 1 ≤ 12 := hI_.1 2 cc_ 1 rfl
      have cq2_ : 0 ≤ S_.1 2 cc_ 2 ∧ S_.1 2 cc_ 2 ≤ 6 := hI_.1 2 cc_ 2 rfl
      refine sm_T_go 3 (c1 := (219, [some (.inr (.inr (some (9, 0)))), some (.inr (.inr (some (2, cc_)))), some (.inl a2_), some (.inr (.inl y3_)), none, some (.inl fm_), some (.inl g_), some (.inl rc_), some (.inl k_)], [.inl g_, .inr (.inr (some (2, cc_))), .inl k_], S_)) rfl ?_
      refine sm_T_cal (d1 := 0) (Q1 := vq_59 g_ cc_ S_) rfl rfl (by decide) (vc_59 g_ cc_ S_ hI_ (by omega)) (fun u_ Sx1_ px4_ => ?_)
      obtain ⟨rfl, vx6_, rfl, px4_⟩ := px4_
      have g219_ := px4_.1
      refine sm_T_br (a := 3) (z := 41) rfl (fun cx7_ => ?_) (fun cx7_ => ?_)
      · have cx7_ : vx6_ ≤ k_ := of_decide_eq_true cx7_
        refine sm_T_go 1 (c1 := (265, [some (.inr (.inr (some (9, 0)))), some (.inr (.inr (some (2, cc_)))), some (.inl a2_), some (.inr (.inl y3_)), none, some (.inl fm_), some (.inl g_), some (.inl rc_), some (.inl k_)], [.inl rc_], S_)) rfl ?_
        refine sm_T_b0 (a := 0) (z := 27) rfl (fun cx8_ => ?_) (fun cx8_ => ?_)
        · have cx8_ : rc_ = 0 := of_decide_eq_true cx8_
          refine sm_T_inc (a := 6) (z := 1) (v := g_) (w := g_ + 1) rfl rfl (by omega) (by omega) (by omega) ?_ -- pc_ 292
          refine sm_T_go 1 (c1 := (199, [some (.inr (.inr (some (9, 0)))), some (.inr (.inr (some (2, cc_)))), some (.inl a2_), some (.inr (.inl y3_)), none, some (.inl fm_), some (.inl (g_ + 1)), some (.inl rc_), some (.inl k_)], [], S_)) rfl ?_
          refine sm_T_wk [some (.inr (.inr (some (9, 0)))), some (.inr (.inr (some (2, cc_)))), some (.inl a2_), some (.inr (.inl y3_)), none, some (.inl fm_), some (.inl (g_ + 1)), none, none] (by exact ⟨rfl, rfl, rfl, rfl, rfl, rfl, trivial⟩) ?_
          refine ih_.2.1 y3_ fm_ (g_ + 1) S_ hI_ hF_ ⟨?_, ?_, ?_, trivial⟩ ?_
          · omega
          · first | exact hck_ | exact tk273_
          · first | exact hn1_ | exact n273_
          · omega
        · have cx8_ : ¬ (rc_ = 0) := of_decide_eq_false cx8_
          refine sm_T_go 4 (c1 := (273, [some (.inr (.inr (some (9, 0)))), some (.inr (.inr (some (2, cc_)))), some (.inl a2_), some (.inr (.inl y3_)), none, some (.inl fm_), some (.inl g_), some (.inl rc_), some (.inl k_)], [.inr (.inl 0), .inl (-1), .inl g_, .inr (.inr (some (9, 0)))], S_)) rfl ?_
          refine sm_T_cal (d1 := 2) (Q1 := vq_173 g_ (-1) 0 cc_ S_) rfl rfl (by decide) (vc_173 g_ (-1) 0 cc_ S_ hI_ (by exact hck_) (by omega) (by omega)) (fun u_ Sx9_ px12_ => ?_)
          obtain ⟨vx14_, rfl, hIx10_, hFx11_, px12_⟩ := px12_
          have hFx13_ : ai_fr (sx_W vw_174p) S0_ Sx9_ := ai_fr_tr hF_ (fr_le hFx11_ rfl)
          have w273_ := px12_
          have u1_ := hFx11_.1 2 cc_ 1 rfl
          have u2_ := hFx11_.1 2 cc_ 2 rfl
          have n273_ := shq_fr hn1_ hFx11_
          have tk273_ := (hFx11_.2.1 9 0 0 rfl).trans hck_
          refine sm_T_b0 (a := 0) (z := 16) rfl (fun cx15_ => ?_) (fun cx15_ => ?_)
          · have cx15_ : vx14_ = 0 := of_decide_eq_true cx15_
            refine sm_T_inc (a := 6) (z := 1) (v := g_) (w := g_ + 1) rfl rfl (by omega) (by omega) (by omega) ?_ -- pc_ 292
            refine sm_T_go 1 (c1 := (199, [some (.inr (.inr (some (9, 0)))), some (.inr (.inr (some (2, cc_)))), some (.inl a2_), some (.inr (.inl y3_)), none, some (.inl fm_), some (.inl (g_ + 1)), some (.inl rc_), some (.inl k_)], [], Sx9_)) rfl ?_
            refine sm_T_wk [some (.inr (.inr (some (9, 0)))), some (.inr (.inr (some (2, cc_)))), some (.inl a2_), some (.inr (.inl y3_)), none, some (.inl fm_), some (.inl (g_ + 1)), none, none] (by exact ⟨rfl, rfl, rfl, rfl, rfl, rfl, trivial⟩) ?_
            refine ih_.2.1 y3_ fm_ (g_ + 1) Sx9_ hIx10_ hFx13_ ⟨?_, ?_, ?_, trivial⟩ ?_
            · omega
            · first | exact hck_ | exact tk273_
            · first | exact hn1_ | exact n273_
            · omega
          · have cx15_ : ¬ (vx14_ = 0) := of_decide_eq_false cx15_
            refine sm_T_go 3 (c1 := (284, [some (.inr (.inr (some (9, 0)))), some (.inr (.inr (some (2, cc_)))), some (.inl a2_), some (.inr (.inl y3_)), none, some (.inl fm_), some (.inl g_), some (.inl rc_), some (.inl k_)], [.inr (.inr (some (2, cc_))), .inr (.inr (some (94, 0)))], Sx9_)) rfl ?_
            refine sm_T_cal (d1 := 0) (Q1 := vq_54 cc_ Sx9_) rfl rfl (by decide) (vc_54 cc_ Sx9_ hIx10_ ) (fun u_ Sx16_ px19_ => ?_)
            obtain ⟨rfl, vx21_, rfl, px19_⟩ := px19_
            have m284_ := px19_
            refine sm_T_go 1 (c1 := (289, [some (.inr (.inr (some (9, 0)))), some (.inr (.inr (some (2, cc_)))), some (.inl a2_), some (.inr (.inl y3_)), none, some (.inl fm_), some (.inl g_), some (.inl rc_), some (.inl k_)], [.inl g_, .inl vx21_, .inr (.inr (some (94, 0)))], Sx9_)) rfl ?_
            refine sm_T_bin (w := vx21_ + g_) rfl (bi_add (by omega) (by omega) (by omega)) ?_ -- pc_ 289
            refine sm_T_go 1 (c1 := (291, [some (.inr (.inr (some (9, 0)))), some (.inr (.inr (some (2, cc_)))), some (.inl a2_), some (.inr (.inl y3_)), none, some (.inl fm_), some (.inl g_), some (.inl rc_), some (.inl k_)], [.inl 1, .inl (vx21_ + g_), .inr (.inr (some (94, 0)))], Sx9_)) rfl ?_
            refine sm_T_iast (n := 162) rfl rfl (by omega) (by omega) ?_
            have hIx22_ : gi (sm_aI Sx9_ 94 0 (vx21_ + g_).toNat 1) := gi_aI hIx10_ (show 0 ≤ 1 ∧ 1 ≤ 1 from ⟨by omega, by omega⟩)
            have hFx23_ : ai_fr (sx_W vw_174p) S0_ (sm_aI Sx9_ 94 0 (vx21_ + g_).toNat 1) := ai_fr_tr hFx13_ (ai_fr_aI rfl)
            refine sm_T_inc (a := 6) (z := 1) (v := g_) (w := g_ + 1) rfl rfl (by omega) (by omega) (by omega) ?_ -- pc_ 292
            refine sm_T_go 1 (c1 := (199, [some (.inr (.inr (some (9, 0)))), some (.inr (.inr (some (2, cc_)))), some (.inl a2_), some (.inr (.inl y3_)), none, some (.inl fm_), some (.inl (g_ + 1)), some (.inl rc_), some (.inl k_)], [], sm_aI Sx9_ 94 0 (vx21_ + g_).toNat 1)) rfl ?_
            refine sm_T_wk [some (.inr (.inr (some (9, 0)))), some (.inr (.inr (some (2, cc_)))), some (.inl a2_), some (.inr (.inl y3_)), none, some (.inl fm_), some (.inl (g_ + 1)), none, none] (by exact ⟨rfl, rfl, rfl, rfl, rfl, rfl, trivial⟩) ?_
            refine ih_.2.1 y3_ fm_ (g_ + 1) (sm_aI Sx9_ 94 0 (vx21_ + g_).toNat 1) hIx22_ hFx23_ ⟨?_, ?_, ?_, trivial⟩ ?_
            · omega
            · first | exact hck_ | exact tk273_
            · first | exact hn1_ | exact n273_
            · omega
      · have cx7_ : ¬ (vx6_ ≤ k_) := of_decide_eq_false cx7_
        refine sm_T_go 1 (c1 := (227, [some (.inr (.inr (some (9, 0)))), some (.inr (.inr (some (2, cc_)))), some (.inl a2_), some (.inr (.inl y3_)), none, some (.inl fm_), some (.inl g_), some (.inl rc_), some (.inl k_)], [.inl rc_], S_)) rfl ?_
        refine sm_T_b0 (a := 1) (z := 23) rfl (fun cx24_ => ?_) (fun cx24_ => ?_)
        · have cx24_ : rc_ ≠ 0 := of_decide_eq_true cx24_
          refine sm_T_go 3 (c1 := (257, [some (.inr (.inr (some (9, 0)))), some (.inr (.inr (some (2, cc_)))), some (.inl a2_), some (.inr (.inl y3_)), none, some (.inl fm_), some (.inl g_), some (.inl 1), some (.inl k_)], [], S_)) rfl ?_
          refine sm_T_inc (a := 8) (z := 1) (v := k_) (w := k_ + 1) rfl rfl (by omega) (by omega) (by omega) ?_ -- pc_ 257
          refine sm_T_go 1 (c1 := (214, [some (.inr (.inr (some (9, 0)))), some (.inr (.inr (some (2, cc_)))), some (.inl a2_), some (.inr (.inl y3_)), none, some (.inl fm_), some (.inl g_), some (.inl 1), some (.inl (k_ + 1))], [], S_)) rfl ?_
          refine ih_.2.2 y3_ fm_ g_ 1 (k_ + 1) S_ hI_ hF_ ⟨?_, ?_, ?_, trivial⟩ ?_
          · omega
          · exact hck_
          · exact hn1_
          · omega
        · have cx24_ : ¬ (rc_ ≠ 0) := of_decide_eq_false cx24_
          refine sm_T_go 6 (c1 := (241, [some (.inr (.inr (some (9, 0)))), some (.inr (.inr (some (2, cc_)))), some (.inl a2_), some (.inr (.inl y3_)), none, some (.inl fm_), some (.inl g_), some (.inl rc_), some (.inl k_)], [.inl g_, .inl 3, .inr (.inr (some (36, (0 + cc_)))), .inr (.inr (some (94, 0)))], S_)) rfl ?_
          refine sm_T_bin (w := 3 * g_) rfl (bi_mul (by omega) (by omega) (by omega)) ?_ -- pc_ 241
          refine sm_T_go 1 (c1 := (244, [some (.inr (.inr (some (9, 0)))), some (.inr (.inr (some (2, cc_)))), some (.inl a2_), some (.inr (.inl y3_)), none, some (.inl fm_), some (.inl g_), some (.inl rc_), some (.inl k_)], [.inl k_, .inl (3 * g_), .inr (.inr (some (36, (0 + cc_)))), .inr (.inr (some (94, 0)))], S_)) rfl ?_
          refine sm_T_bin (w := 3 * g_ + k_) rfl (bi_add (by omega) (by omega) (by omega)) ?_ -- pc_ 244
          refine sm_T_iald (n := 450) rfl rfl (by omega) (by omega) ?_
          have bx25_ : 0 ≤ S_.2.2.1 36 (0 + cc_) (3 * g_ + k_).toNat ∧ S_.2.2.1 36 (0 + cc_) (3 * g_ + k_).toNat ≤ 161 := hI_.2 36 (0 + cc_) _
          refine sm_T_iald (n := 162) rfl rfl (by omega) (by omega) ?_
          have bx26_ : 0 ≤ S_.2.2.1 94 0 (S_.2.2.1 36 (0 + cc_) (3 * g_ + k_).toNat).toNat ∧ S_.2.2.1 94 0 (S_.2.2.1 36 (0 + cc_) (3 * g_ + k_).toNat).toNat ≤ 1 := hI_.2 94 0 _
          refine sm_T_b0 (a := 0) (z := 7) rfl (fun cx27_ => ?_) (fun cx27_ => ?_)
          · have cx27_ : (S_.2.2.1 94 0 (S_.2.2.1 36 (0 + cc_) (3 * g_ + k_).toNat).toNat) = 0 := of_decide_eq_true cx27_
            refine sm_T_go 2 (c1 := (257, [some (.inr (.inr (some (9, 0)))), some (.inr (.inr (some (2, cc_)))), some (.inl a2_), some (.inr (.inl y3_)), none, some (.inl fm_), some (.inl g_), some (.inl 0), some (.inl k_)], [], S_)) rfl ?_
            refine sm_T_inc (a := 8) (z := 1) (v := k_) (w := k_ + 1) rfl rfl (by omega) (by omega) (by omega) ?_ -- pc_ 257
            refine sm_T_go 1 (c1 := (214, [some (.inr (.inr (some (9, 0)))), some (.inr (.inr (some (2, cc_)))), some (.inl a2_), some (.inr (.inl y3_)), none, some (.inl fm_), some (.inl g_), some (.inl 0), some (.inl (k_ + 1))], [], S_)) rfl ?_
            refine ih_.2.2 y3_ fm_ g_ 0 (k_ + 1) S_ hI_ hF_ ⟨?_, ?_, ?_, trivial⟩ ?_
            · omega
            · exact hck_
            · exact hn1_
            · omega
          · have cx27_ : ¬ ((S_.2.2.1 94 0 (S_.2.2.1 36 (0 + cc_) (3 * g_ + k_).toNat).toNat) = 0) := of_decide_eq_false cx27_
            refine sm_T_go 3 (c1 := (257, [some (.inr (.inr (some (9, 0)))), some (.inr (.inr (some (2, cc_)))), some (.inl a2_), some (.inr (.inl y3_)), none, some (.inl fm_), some (.inl g_), some (.inl 1), some (.inl k_)], [], S_)) rfl ?_
            refine sm_T_inc (a := 8) (z := 1) (v := k_) (w := k_ + 1) rfl rfl (by omega) (by omega) (by omega) ?_ -- pc_ 257
            refine sm_T_go 1 (c1 := (214, [some (.inr (.inr (some (9, 0)))), some (.inr (.inr (some (2, cc_)))), some (.inl a2_), some (.inr (.inl y3_)), none, some (.inl fm_), some (.inl g_), some (.inl 1), some (.inl (k_ + 1))], [], S_)) rfl ?_
            refine ih_.2.2 y3_ fm_ g_ 1 (k_ + 1) S_ hI_ hF_ ⟨?_, ?_, ?_, trivial⟩ ?_
            · omega
            · exact hck_
            · exact hn1_
            · omega
set_option maxHeartbeats 2000000 in
set_option maxRecDepth 20000 in
theorem vc_174p {sc_ : Nat × (Nat → Int)} (a2_ : Int) (cc_ : Nat) (S0_ : sm_S) (hI_ : gi S0_) (hs_ : S0_.1 2 cc_ 1 + S0_.1 2 cc_ 2 ≤ 12) (h2_ : 0 ≤ a2_ ∧ a2_ ≤ 1223) (hn_ : shq S0_) : sm_T (mt_P sc_) 4 174 (0, [some (.inr (.inr (some (9, 0)))), some (.inr (.inr (some (2, cc_)))), some (.inl a2_), none, none, none, none, none, none], [], S0_) (fun ro9_ => ∃ u_ S1_, ro9_ = (.inl u_, S1_, 0) ∧ vq_174p a2_ cc_ S0_ u_ S1_) := by
  have hF_ : ai_fr (sx_W vw_174p) S0_ S0_ := ai_fr_rf
  refine sm_T_go 2 (c1 := (2, [some (.inr (.inr (some (9, 0)))), some (.inr (.inr (some (2, cc_)))), some (.inl a2_), none, none, none, none, none, none], [.inr (.inr (some (2, cc_))), .inr (.inr (some (9, 0)))], S0_)) rfl ?_
  refine sm_T_cal (d1 := 3) (Q1 := vq_168p cc_ S0_) rfl rfl (by decide) (vc_168p cc_ S0_ hI_ (by omega)) (fun u_ Sx1_ px4_ => ?_)
  obtain ⟨rfl, hIx2_, hFx3_, px4_⟩ := px4_
  have hFx5_ : ai_fr (sx_W vw_174p) S0_ Sx1_ := ai_fr_tr hF_ (fr_le hFx3_ rfl)
  have tk2 := (px4_).1
  have n2_ : shq Sx1_ := ⟨shn_fr hn_.1 hFx3_, tsa_of (px4_).1 ((px4_).2.trans (hFx3_.1 2 cc_ 19 rfl).symm)⟩
  have y1_ := hFx3_.1 2 cc_ 1 rfl
  have y2_ := hFx3_.1 2 cc_ 2 rfl
  have cw2_ : 0 ≤ Sx1_.1 9 0 2 ∧ Sx1_.1 9 0 2 ≤ 64 := hIx2_.1 9 0 2 rfl
  have cg2_ : 0 ≤ Sx1_.1 2 cc_ 8 ∧ Sx1_.1 2 cc_ 8 ≤ 150 := hIx2_.1 2 cc_ 8 rfl
  refine sm_T_go 3 (c1 := (10, [some (.inr (.inr (some (9, 0)))), some (.inr (.inr (some (2, cc_)))), some (.inl a2_), none, none, none, none, none, none], [.inl a2_, .inr (.inr (some (96, 0)))], Sx1_)) rfl ?_
  refine sm_T_iald (n := 1224) rfl rfl (by omega) (by omega) ?_
  have bx6_ : (-2147483648) ≤ Sx1_.2.2.1 96 0 a2_.toNat ∧ Sx1_.2.2.1 96 0 a2_.toNat ≤ 2147483647 := hIx2_.2 96 0 _
  refine sm_T_b0 (a := 0) (z := 4) rfl (fun cx7_ => ?_) (fun cx7_ => ?_)
  · have cx7_ : (Sx1_.2.2.1 96 0 a2_.toNat) = 0 := of_decide_eq_true cx7_
    refine sm_T_go 4 (c1 := (21, [some (.inr (.inr (some (9, 0)))), some (.inr (.inr (some (2, cc_)))), some (.inl a2_), none, none, none, none, none, none], [.inl 1, .inl a2_, .inr (.inr (some (96, 0)))], Sx1_)) rfl ?_
    refine sm_T_iast (n := 1224) rfl rfl (by omega) (by omega) ?_
    have hIx8_ : gi (sm_aI Sx1_ 96 0 a2_.toNat 1) := gi_aI hIx2_ (show (-2147483648) ≤ 1 ∧ 1 ≤ 2147483647 from ⟨by omega, by omega⟩)
    have hFx9_ : ai_fr (sx_W vw_174p) S0_ (sm_aI Sx1_ 96 0 a2_.toNat 1) := ai_fr_tr hFx5_ (ai_fr_aI rfl)
    refine sm_T_go 3 (c1 := (27, [some (.inr (.inr (some (9, 0)))), some (.inr (.inr (some (2, cc_)))), some (.inl a2_), none, none, none, none, none, none], [.inl 0, .inr (.inr (some (94, 0)))], sm_aI Sx1_ 96 0 a2_.toNat 1)) rfl ?_
    refine sm_T_cal (d1 := 0) (Q1 := vq_2t4 0 (sm_aI Sx1_ 96 0 a2_.toNat 1)) rfl rfl (by decide) (vc_2t4 0 (sm_aI Sx1_ 96 0 a2_.toNat 1) hIx8_ (by decide)) (fun u_ Sx10_ px13_ => ?_)
    obtain ⟨rfl, hIx11_, hFx12_, px13_⟩ := px13_
    have hFx14_ : ai_fr (sx_W vw_174p) S0_ Sx10_ := ai_fr_tr hFx9_ (fr_le hFx12_ rfl)
    have tk27_ := (hFx12_.2.1 9 0 0 rfl).trans tk2
    have n27_ := shq_fr (show shq (sm_aI Sx1_ 96 0 a2_.toNat 1) from n2_) hFx12_
    have x1_ : Sx10_.1 2 cc_ 1 = S0_.1 2 cc_ 1 := hFx14_.1 2 cc_ 1 rfl
    have x2_ : Sx10_.1 2 cc_ 2 = S0_.1 2 cc_ 2 := hFx14_.1 2 cc_ 2 rfl
    have cw3_ : 0 ≤ Sx10_.1 9 0 2 ∧ Sx10_.1 9 0 2 ≤ 64 := hIx11_.1 9 0 2 rfl
    have cg3_ : 0 ≤ Sx10_.1 2 cc_ 8 ∧ Sx10_.1 2 cc_ 8 ≤ 150 := hIx11_.1 2 cc_ 8 rfl
    refine sm_T_go 2 (c1 := (32, [some (.inr (.inr (some (9, 0)))), some (.inr (.inr (some (2, cc_)))), some (.inl a2_), none, none, none, none, none, none], [.inl 1, .inl a2_], Sx10_)) rfl ?_
    refine sm_T_bin (w := (a2_ % 2)) rfl (bi_msk (k := 1) (by decide)) ?_ -- pc_ 32
    refine sm_T_b0 (a := 1) (z := 7) rfl (fun cx15_ => ?_) (fun cx15_ => ?_)
    · have cx15_ : (a2_ % 2) ≠ 0 := of_decide_eq_true cx15_
      refine sm_T_nt (u := some (.inr (.inl (-1)))) (S1 := Sx10_) rfl rfl rfl ?_
      refine sm_T_go 4 (c1 := (47, [some (.inr (.inr (some (9, 0)))), some (.inr (.inr (some (2, cc_)))), some (.inl a2_), some (.inr (.inl (-1))), none, none, none, none, none], [.inr (.inr (some (2, cc_))), .inl 2, .inl a2_], Sx10_)) rfl ?_
      refine sm_T_cal (d1 := 0) (Q1 := vq_55 cc_ Sx10_) rfl rfl (by decide) (vc_55 cc_ Sx10_ hIx11_ ) (fun u_ Sx16_ px19_ => ?_)
      obtain ⟨rfl, vx21_, rfl, px19_⟩ := px19_
      have m47_ := px19_
      refine sm_T_bin (w := 2 * vx21_) rfl (bi_mul (by omega) (by omega) (by omega)) ?_ -- pc_ 50
      refine sm_T_br (a := 3) (z := 57) rfl (fun cx22_ => ?_) (fun cx22_ => ?_)
      · have cx22_ : 2 * vx21_ ≤ a2_ := of_decide_eq_true cx22_
        refine sm_T_go 2 (c1 := (110, [some (.inr (.inr (some (9, 0)))), some (.inr (.inr (some (2, cc_)))), some (.inl a2_), some (.inr (.inl (-1))), none, none, none, none, none], [.inl 2, .inl a2_], Sx10_)) rfl ?_
        refine sm_T_bin (w := (a2_ / 2)) rfl (bi_div (by omega) (by omega) (by omega) (by omega)) ?_ -- pc_ 110
        refine sm_T_go 1 (c1 := (112, [some (.inr (.inr (some (9, 0)))), some (.inr (.inr (some (2, cc_)))), some (.inl a2_), some (.inr (.inl (-1))), none, none, none, none, none], [.inr (.inr (some (2, cc_))), .inl (a2_ / 2)], Sx10_)) rfl ?_
        refine sm_T_cal (d1 := 0) (Q1 := vq_55 cc_ Sx10_) rfl rfl (by decide) (vc_55 cc_ Sx10_ hIx11_ ) (fun u_ Sx23_ px26_ => ?_)
        obtain ⟨rfl, vx28_, rfl, px26_⟩ := px26_
        have m112_ := px26_
        refine sm_T_bin (w := (a2_ / 2) - vx28_) rfl (bi_sub (by omega) (by omega) (by omega)) ?_ -- pc_ 115
        refine sm_T_go 3 (c1 := (121, [some (.inr (.inr (some (9, 0)))), some (.inr (.inr (some (2, cc_)))), some (.inl a2_), some (.inr (.inl (-1))), none, none, some (.inl ((a2_ / 2) - vx28_)), some (.inl 0), none], [], Sx10_)) rfl ?_
        refine (vl_174p a2_ cc_ S0_ hs_ h2_ hn_ _).1 (-1) ((a2_ / 2) - vx28_) 0 Sx10_ hIx11_ hFx14_ ⟨?_, ?_, ?_, trivial⟩ (Nat.lt_succ_self _)
        · omega
        · exact tk27_
        · exact n27_
      · have cx22_ : ¬ (2 * vx21_ ≤ a2_) := of_decide_eq_false cx22_
        refine sm_T_go 2 (c1 := (56, [some (.inr (.inr (some (9, 0)))), some (.inr (.inr (some (2, cc_)))), some (.inl a2_), some (.inr (.inl (-1))), none, none, none, none, none], [.inl 1, .inl a2_], Sx10_)) rfl ?_
        refine sm_T_bin (w := (a2_ / 2)) rfl (bi_shr (k := 1) (by decide) (by omega) (by omega)) ?_ -- pc_ 56
        refine sm_T_go 5 (c1 := (66, [some (.inr (.inr (some (9, 0)))), some (.inr (.inr (some (2, cc_)))), some (.inl a2_), some (.inr (.inl (-1))), none, none, some (.inl (a2_ / 2)), none, none], [.inl 1, .inl (a2_ / 2), .inr (.inr (some (94, 0)))], Sx10_)) rfl ?_
        refine sm_T_iast (n := 162) rfl rfl (by omega) (by omega) ?_
        have hIx29_ : gi (sm_aI Sx10_ 94 0 (a2_ / 2).toNat 1) := gi_aI hIx11_ (show 0 ≤ 1 ∧ 1 ≤ 1 from ⟨by omega, by omega⟩)
        have hFx30_ : ai_fr (sx_W vw_174p) S0_ (sm_aI Sx10_ 94 0 (a2_ / 2).toNat 1) := ai_fr_tr hFx14_ (ai_fr_aI rfl)
        refine sm_T_go 4 (c1 := (75, [some (.inr (.inr (some (9, 0)))), some (.inr (.inr (some (2, cc_)))), some (.inl a2_), some (.inr (.inl (-1))), none, none, some (.inl (a2_ / 2)), none, none], [.inl 64, .inl (a2_ / 2), .inr (.inr (some (93, 0)))], sm_aI Sx10_ 94 0 (a2_ / 2).toNat 1)) rfl ?_
        refine sm_T_bin (w := 64 * (a2_ / 2)) rfl (bi_mul (by omega) (by omega) (by omega)) ?_ -- pc_ 75
        refine sm_T_go 2 (c1 := (80, [some (.inr (.inr (some (9, 0)))), some (.inr (.inr (some (2, cc_)))), some (.inl a2_), some (.inr (.inl (-1))), none, none, some (.inl (a2_ / 2)), none, none], [.inl 64, .inl (a2_ / 2), .inl (64 * (a2_ / 2)), .inr (.inr (some (93, 0)))], sm_aI Sx10_ 94 0 (a2_ / 2).toNat 1)) rfl ?_
        refine sm_T_bin (w := 64 * (a2_ / 2)) rfl (bi_mul (by omega) (by omega) (by omega)) ?_ -- pc_ 80
        have bx31_ : 0 ≤ Sx10_.1 9 0 2 ∧ Sx10_.1 9 0 2 ≤ 64 := hIx11_.1 9 0 2 rfl
        refine sm_T_go 2 (c1 := (85, [some (.inr (.inr (some (9, 0)))), some (.inr (.inr (some (2, cc_)))), some (.inl a2_), some (.inr (.inl (-1))), none, none, some (.inl (a2_ / 2)), none, none], [.inl (Sx10_.1 9 0 2), .inl (64 * (a2_ / 2)), .inl (64 * (a2_ / 2)), .inr (.inr (some (93, 0)))], sm_aI Sx10_ 94 0 (a2_ / 2).toNat 1)) rfl ?_
        refine sm_T_bin (w := 64 * (a2_ / 2) + (Sx10_.1 9 0 2)) rfl (bi_add (by omega) (by omega) (by omega)) ?_ -- pc_ 85
        refine sm_T_go 1 (c1 := (87, [some (.inr (.inr (some (9, 0)))), some (.inr (.inr (some (2, cc_)))), some (.inl a2_), some (.inr (.inl (-1))), none, none, some (.inl (a2_ / 2)), none, none], [.inr (.inl (-1)), .inl (64 * (a2_ / 2) + (Sx10_.1 9 0 2)), .inl (64 * (a2_ / 2)), .inr (.inr (some (93, 0)))], sm_aI Sx10_ 94 0 (a2_ / 2).toNat 1)) rfl ?_
        refine sm_T_cal (d1 := 1) (Q1 := vq_5b3 (64 * (a2_ / 2)) (64 * (a2_ / 2) + (Sx10_.1 9 0 2)) (-1) (sm_aI Sx10_ 94 0 (a2_ / 2).toNat 1)) rfl rfl (by decide) (vc_5b3 (64 * (a2_ / 2)) (64 * (a2_ / 2) + (Sx10_.1 9 0 2)) (-1) (sm_aI Sx10_ 94 0 (a2_ / 2).toNat 1) hIx29_ (by omega)) (fun u_ Sx32_ px35_ => ?_)
        obtain ⟨rfl, hIx33_, hFx34_, px35_⟩ := px35_
        have hFx36_ : ai_fr (sx_W vw_174p) S0_ Sx32_ := ai_fr_tr hFx30_ (fr_le hFx34_ rfl)
        have tk87_ := (hFx34_.2.1 9 0 0 rfl).trans tk27_
        have n87_ := shq_fr (show shq (sm_aI Sx10_ 94 0 (a2_ / 2).toNat 1) from n27_) hFx34_
        have v1_ : Sx32_.1 2 cc_ 1 = S0_.1 2 cc_ 1 := hFx36_.1 2 cc_ 1 rfl
        have v2_ : Sx32_.1 2 cc_ 2 = S0_.1 2 cc_ 2 := hFx36_.1 2 cc_ 2 rfl
        refine sm_T_go 3 (c1 := (94, [some (.inr (.inr (some (9, 0)))), some (.inr (.inr (some (2, cc_)))), some (.inl a2_), some (.inr (.inl (-1))), none, none, some (.inl (a2_ / 2)), none, none], [.inr (.inr (some (2, cc_))), .inl (a2_ / 2), .inl 0], Sx32_)) rfl ?_
        refine sm_T_cal (d1 := 0) (Q1 := vq_54 cc_ Sx32_) rfl rfl (by decide) (vc_54 cc_ Sx32_ hIx33_ ) (fun u_ Sx37_ px40_ => ?_)
        obtain ⟨rfl, vx42_, rfl, px40_⟩ := px40_
        have m94_ := px40_
        refine sm_T_bin (w := (a2_ / 2) - vx42_) rfl (bi_sub (by omega) (by omega) (by omega)) ?_ -- pc_ 97
        refine sm_T_go 1 (c1 := (99, [some (.inr (.inr (some (9, 0)))), some (.inr (.inr (some (2, cc_)))), some (.inl a2_), some (.inr (.inl (-1))), none, none, some (.inl (a2_ / 2)), none, none], [.inl 1, .inl ((a2_ / 2) - vx42_), .inl 0], Sx32_)) rfl ?_
        refine sm_T_bin (w := (a2_ / 2) - vx42_ + 1) rfl (bi_add (by omega) (by omega) (by omega)) ?_ -- pc_ 99
        refine sm_T_nt (u := some (.inl (sm_mx 0 ((a2_ / 2) - vx42_ + 1)))) (S1 := Sx32_) rfl rfl rfl ?_
        have bx43_ := sm_mx_d 0 ((a2_ / 2) - vx42_ + 1)
        refine sm_T_go 4 (c1 := (199, [some (.inr (.inr (some (9, 0)))), some (.inr (.inr (some (2, cc_)))), some (.inl a2_), some (.inr (.inl (-1))), none, some (.inl (sm_mx 0 ((a2_ / 2) - vx42_ + 1))), some (.inl (sm_mx 0 ((a2_ / 2) - vx42_ + 1))), none, none], [], Sx32_)) rfl ?_
        refine (vl_174p a2_ cc_ S0_ hs_ h2_ hn_ _).2.1 (-1) (sm_mx 0 ((a2_ / 2) - vx42_ + 1)) (sm_mx 0 ((a2_ / 2) - vx42_ + 1)) Sx32_ hIx33_ hFx36_ ⟨?_, ?_, ?_, trivial⟩ (Nat.lt_succ_self _)
        · omega
        · exact tk87_
        · exact n87_
    · have cx15_ : ¬ ((a2_ % 2) ≠ 0) := of_decide_eq_false cx15_
      refine sm_T_go 6 (c1 := (47, [some (.inr (.inr (some (9, 0)))), some (.inr (.inr (some (2, cc_)))), some (.inl a2_), some (.inr (.inl 0)), none, none, none, none, none], [.inr (.inr (some (2, cc_))), .inl 2, .inl a2_], Sx10_)) rfl ?_
      refine sm_T_cal (d1 := 0) (Q1 := vq_55 cc_ Sx10_) rfl rfl (by decide) (vc_55 cc_ Sx10_ hIx11_ ) (fun u_ Sx44_ px47_ => ?_)
      obtain ⟨rfl, vx49_, rfl, px47_⟩ := px47_
      have m47_ := px47_
      refine sm_T_bin (w := 2 * vx49_) rfl (bi_mul (by omega) (by omega) (by omega)) ?_ -- pc_ 50
      refine sm_T_br (a := 3) (z := 57) rfl (fun cx50_ => ?_) (fun cx50_ => ?_)
      · have cx50_ : 2 * vx49_ ≤ a2_ := of_decide_eq_true cx50_
        refine sm_T_go 2 (c1 := (110, [some (.inr (.inr (some (9, 0)))), some (.inr (.inr (some (2, cc_)))), some (.inl a2_), some (.inr (.inl 0)), none, none, none, none, none], [.inl 2, .inl a2_], Sx10_)) rfl ?_
        refine sm_T_bin (w := (a2_ / 2)) rfl (bi_div (by omega) (by omega) (by omega) (by omega)) ?_ -- pc_ 110
        refine sm_T_go 1 (c1 := (112, [some (.inr (.inr (some (9, 0)))), some (.inr (.inr (some (2, cc_)))), some (.inl a2_), some (.inr (.inl 0)), none, none, none, none, none], [.inr (.inr (some (2, cc_))), .inl (a2_ / 2)], Sx10_)) rfl ?_
        refine sm_T_cal (d1 := 0) (Q1 := vq_55 cc_ Sx10_) rfl rfl (by decide) (vc_55 cc_ Sx10_ hIx11_ ) (fun u_ Sx51_ px54_ => ?_)
        obtain ⟨rfl, vx56_, rfl, px54_⟩ := px54_
        have m112_ := px54_
        refine sm_T_bin (w := (a2_ / 2) - vx56_) rfl (bi_sub (by omega) (by omega) (by omega)) ?_ -- pc_ 115
        refine sm_T_go 3 (c1 := (121, [some (.inr (.inr (some (9, 0)))), some (.inr (.inr (some (2, cc_)))), some (.inl a2_), some (.inr (.inl 0)), none, none, some (.inl ((a2_ / 2) - vx56_)), some (.inl 0), none], [], Sx10_)) rfl ?_
        refine (vl_174p a2_ cc_ S0_ hs_ h2_ hn_ _).1 0 ((a2_ / 2) - vx56_) 0 Sx10_ hIx11_ hFx14_ ⟨?_, ?_, ?_, trivial⟩ (Nat.lt_succ_self _)
        · omega
        · exact tk27_
        · exact n27_
      · have cx50_ : ¬ (2 * vx49_ ≤ a2_) := of_decide_eq_false cx50_
        refine sm_T_go 2 (c1 := (56, [some (.inr (.inr (some (9, 0)))), some (.inr (.inr (some (2, cc_)))), some (.inl a2_), some (.inr (.inl 0)), none, none, none, none, none], [.inl 1, .inl a2_], Sx10_)) rfl ?_
        refine sm_T_bin (w := (a2_ / 2)) rfl (bi_shr (k := 1) (by decide) (by omega) (by omega)) ?_ -- pc_ 56
        refine sm_T_go 5 (c1 := (66, [some (.inr (.inr (some (9, 0)))), some (.inr (.inr (some (2, cc_)))), some (.inl a2_), some (.inr (.inl 0)), none, none, some (.inl (a2_ / 2)), none, none], [.inl 1, .inl (a2_ / 2), .inr (.inr (some (94, 0)))], Sx10_)) rfl ?_
        refine sm_T_iast (n := 162) rfl rfl (by omega) (by omega) ?_
        have hIx57_ : gi (sm_aI Sx10_ 94 0 (a2_ / 2).toNat 1) := gi_aI hIx11_ (show 0 ≤ 1 ∧ 1 ≤ 1 from ⟨by omega, by omega⟩)
        have hFx58_ : ai_fr (sx_W vw_174p) S0_ (sm_aI Sx10_ 94 0 (a2_ / 2).toNat 1) := ai_fr_tr hFx14_ (ai_fr_aI rfl)
        refine sm_T_go 4 (c1 := (75, [some (.inr (.inr (some (9, 0)))), some (.inr (.inr (some (2, cc_)))), some (.inl a2_), some (.inr (.inl 0)), none, none, some (.inl (a2_ / 2)), none, none], [.inl 64, .inl (a2_ / 2), .inr (.inr (some (93, 0)))], sm_aI Sx10_ 94 0 (a2_ / 2).toNat 1)) rfl ?_
        refine sm_T_bin (w := 64 * (a2_ / 2)) rfl (bi_mul (by omega) (by omega) (by omega)) ?_ -- pc_ 75
        refine sm_T_go 2 (c1 := (80, [some (.inr (.inr (some (9, 0)))), some (.inr (.inr (some (2, cc_)))), some (.inl a2_), some (.inr (.inl 0)), none, none, some (.inl (a2_ / 2)), none, none], [.inl 64, .inl (a2_ / 2), .inl (64 * (a2_ / 2)), .inr (.inr (some (93, 0)))], sm_aI Sx10_ 94 0 (a2_ / 2).toNat 1)) rfl ?_
        refine sm_T_bin (w := 64 * (a2_ / 2)) rfl (bi_mul (by omega) (by omega) (by omega)) ?_ -- pc_ 80
        have bx59_ : 0 ≤ Sx10_.1 9 0 2 ∧ Sx10_.1 9 0 2 ≤ 64 := hIx11_.1 9 0 2 rfl
        refine sm_T_go 2 (c1 := (85, [some (.inr (.inr (some (9, 0)))), some (.inr (.inr (some (2, cc_)))), some (.inl a2_), some (.inr (.inl 0)), none, none, some (.inl (a2_ / 2)), none, none], [.inl (Sx10_.1 9 0 2), .inl (64 * (a2_ / 2)), .inl (64 * (a2_ / 2)), .inr (.inr (some (93, 0)))], sm_aI Sx10_ 94 0 (a2_ / 2).toNat 1)) rfl ?_
        refine sm_T_bin (w := 64 * (a2_ / 2) + (Sx10_.1 9 0 2)) rfl (bi_add (by omega) (by omega) (by omega)) ?_ -- pc_ 85
        refine sm_T_go 1 (c1 := (87, [some (.inr (.inr (some (9, 0)))), some (.inr (.inr (some (2, cc_)))), some (.inl a2_), some (.inr (.inl 0)), none, none, some (.inl (a2_ / 2)), none, none], [.inr (.inl 0), .inl (64 * (a2_ / 2) + (Sx10_.1 9 0 2)), .inl (64 * (a2_ / 2)), .inr (.inr (some (93, 0)))], sm_aI Sx10_ 94 0 (a2_ / 2).toNat 1)) rfl ?_
        refine sm_T_cal (d1 := 1) (Q1 := vq_5b3 (64 * (a2_ / 2)) (64 * (a2_ / 2) + (Sx10_.1 9 0 2)) 0 (sm_aI Sx10_ 94 0 (a2_ / 2).toNat 1)) rfl rfl (by decide) (vc_5b3 (64 * (a2_ / 2)) (64 * (a2_ / 2) + (Sx10_.1 9 0 2)) 0 (sm_aI Sx10_ 94 0 (a2_ / 2).toNat 1) hIx57_ (by omega)) (fun u_ Sx60_ px63_ => ?_)
        obtain ⟨rfl, hIx61_, hFx62_, px63_⟩ := px63_
        have hFx64_ : ai_fr (sx_W vw_174p) S0_ Sx60_ := ai_fr_tr hFx58_ (fr_le hFx62_ rfl)
        have tk87_ := (hFx62_.2.1 9 0 0 rfl).trans tk27_
        have n87_ := shq_fr (show shq (sm_aI Sx10_ 94 0 (a2_ / 2).toNat 1) from n27_) hFx62_
        have v1_ : Sx60_.1 2 cc_ 1 = S0_.1 2 cc_ 1 := hFx64_.1 2 cc_ 1 rfl
        have v2_ : Sx60_.1 2 cc_ 2 = S0_.1 2 cc_ 2 := hFx64_.1 2 cc_ 2 rfl
        refine sm_T_go 3 (c1 := (94, [some (.inr (.inr (some (9, 0)))), some (.inr (.inr (some (2, cc_)))), some (.inl a2_), some (.inr (.inl 0)), none, none, some (.inl (a2_ / 2)), none, none], [.inr (.inr (some (2, cc_))), .inl (a2_ / 2), .inl 0], Sx60_)) rfl ?_
        refine sm_T_cal (d1 := 0) (Q1 := vq_54 cc_ Sx60_) rfl rfl (by decide) (vc_54 cc_ Sx60_ hIx61_ ) (fun u_ Sx65_ px68_ => ?_)
        obtain ⟨rfl, vx70_, rfl, px68_⟩ := px68_
        have m94_ := px68_
        refine sm_T_bin (w := (a2_ / 2) - vx70_) rfl (bi_sub (by omega) (by omega) (by omega)) ?_ -- pc_ 97
        refine sm_T_go 1 (c1 := (99, [some (.inr (.inr (some (9, 0)))), some (.inr (.inr (some (2, cc_)))), some (.inl a2_), some (.inr (.inl 0)), none, none, some (.inl (a2_ / 2)), none, none], [.inl 1, .inl ((a2_ / 2) - vx70_), .inl 0], Sx60_)) rfl ?_
        refine sm_T_bin (w := (a2_ / 2) - vx70_ + 1) rfl (bi_add (by omega) (by omega) (by omega)) ?_ -- pc_ 99
        refine sm_T_nt (u := some (.inl (sm_mx 0 ((a2_ / 2) - vx70_ + 1)))) (S1 := Sx60_) rfl rfl rfl ?_
        have bx71_ := sm_mx_d 0 ((a2_ / 2) - vx70_ + 1)
        refine sm_T_go 4 (c1 := (199, [some (.inr (.inr (some (9, 0)))), some (.inr (.inr (some (2, cc_)))), some (.inl a2_), some (.inr (.inl 0)), none, some (.inl (sm_mx 0 ((a2_ / 2) - vx70_ + 1))), some (.inl (sm_mx 0 ((a2_ / 2) - vx70_ + 1))), none, none], [], Sx60_)) rfl ?_
        refine (vl_174p a2_ cc_ S0_ hs_ h2_ hn_ _).2.1 0 (sm_mx 0 ((a2_ / 2) - vx70_ + 1)) (sm_mx 0 ((a2_ / 2) - vx70_ + 1)) Sx60_ hIx61_ hFx64_ ⟨?_, ?_, ?_, trivial⟩ (Nat.lt_succ_self _)
        · omega
        · exact tk87_
        · exact n87_
  · have cx7_ : ¬ ((Sx1_.2.2.1 96 0 a2_.toNat) = 0) := of_decide_eq_false cx7_
    refine sm_T_rv rfl ⟨_, _, rfl, rfl, hIx2_, hFx5_, ?_⟩
    exact ⟨tk2, n2_⟩
/-! Tester.leastPattern -/
def vw_177p : sx_Wl := ([(9, 1), (9, 2), (9, 3)], [92, 93, 94, 95, 96], [(9, 0)])
def vq_177p (a2_ : Int) (cc_ : Nat) (S0_ : sm_S) (u_ : Option sm_V) (S1_ : sm_S) : Prop := ∃ v_ : Int, u_ = some (.inl v_) ∧ gi S1_ ∧ ai_fr (sx_W vw_177p) S0_ S1_ ∧ ((-1 ≤ v_ ∧ v_ ≤ 4095) ∧ shq S1_)
set_option maxHeartbeats 400000 in
theorem vl_177p {sc_ : Nat × (Nat → Int)} (a2_ : Int) (cc_ : Nat) (S0_ : sm_S) (hs_ : S0_.1 2 cc_ 1 + S0_.1 2 cc_ 2 ≤ 12) (h2_ : 0 ≤ a2_ ∧ a2_ ≤ 1223) (hn_ : shq S0_) : ∀ nn_ : Nat, (∀ (w_ : Int) (S_ : sm_S), gi S_ → ai_fr (sx_W vw_177p) S0_ S_ → ((0 ≤ w_ ∧ w_ ≤ 64) ∧ (shq S_) ∧ True) → ((100 - w_).toNat) < nn_ → sm_T (mt_P sc_) 5 177 (8, [some (.inr (.inr (some (9, 0)))), some (.inr (.inr (some (2, cc_)))), some (.inl a2_), some (.inl w_), none, none], [], S_) (fun ro9_ => ∃ u_ S1_, ro9_ = (.inl u_, S1_, 0) ∧ vq_177p a2_ cc_ S0_ u_ S1_)) := by
  intro nn_
  induction nn_ with
  | zero => exact fun _ _ _ _ _ h_ => absurd h_ (Nat.not_lt_zero _)
  | succ nn_ ih_ =>
    rintro w_ S_ hI_ hF_ ⟨h0_, hn1_, -⟩ hm_
    have cw : 0 ≤ S_.1 9 0 2 ∧ S_.1 9 0 2 ≤ 64 := hI_.1 9 0 2 rfl
    have bx1_ : 0 ≤ S_.1 9 0 2 ∧ S_.1 9 0 2 ≤ 64 := hI_.1 9 0 2 rfl
    refine sm_T_go 3 (c1 := (13, [some (.inr (.inr (some (9, 0)))), some (.inr (.inr (some (2, cc_)))), some (.inl a2_), some (.inl w_), none, none], [.inl (S_.1 9 0 2), .inl w_], S_)) rfl ?_
    refine sm_T_br (a := 3) (z := 40) rfl (fun cx2_ => ?_) (fun cx2_ => ?_)
    · have cx2_ : (S_.1 9 0 2) ≤ w_ := of_decide_eq_true cx2_
      refine sm_T_go 1 (c1 := (54, [some (.inr (.inr (some (9, 0)))), some (.inr (.inr (some (2, cc_)))), some (.inl a2_), some (.inl w_), none, none], [.inl (-1)], S_)) rfl ?_
      refine sm_T_ri rfl ⟨_, _, rfl, _, rfl, hI_, hF_, ?_⟩
      exact ⟨by omega, hn1_⟩
    · have cx2_ : ¬ ((S_.1 9 0 2) ≤ w_) := of_decide_eq_false cx2_
      refine sm_T_go 4 (c1 := (23, [some (.inr (.inr (some (9, 0)))), some (.inr (.inr (some (2, cc_)))), some (.inl a2_), some (.inl w_), none, none], [.inl 64, .inl a2_, .inr (.inr (some (95, 0)))], S_)) rfl ?_
      refine sm_T_bin (w := 64 * a2_) rfl (bi_mul (by omega) (by omega) (by omega)) ?_ -- pc_ 23
      refine sm_T_go 1 (c1 := (25, [some (.inr (.inr (some (9, 0)))), some (.inr (.inr (some (2, cc_)))), some (.inl a2_), some (.inl w_), none, none], [.inl w_, .inl (64 * a2_), .inr (.inr (some (95, 0)))], S_)) rfl ?_
      refine sm_T_bin (w := 64 * a2_ + w_) rfl (bi_add (by omega) (by omega) (by omega)) ?_ -- pc_ 25
      refine sm_T_lald (n := 78336) rfl rfl (by omega) (by omega) ?_
      refine sm_T_go 4 (c1 := (33, [some (.inr (.inr (some (9, 0)))), some (.inr (.inr (some (2, cc_)))), some (.inl a2_), some (.inl w_), some (.inr (.inl (S_.2.2.2 95 0 (64 * a2_ + w_).toNat))), none], [.inl (sm_lcmp ((S_.2.2.2 95 0 (64 * a2_ + w_).toNat)) 0)], S_)) rfl ?_
      refine sm_T_b0 (a := 0) (z := 14) rfl (fun cx3_ => ?_) (fun cx3_ => ?_)
      · have cx3_ : (sm_lcmp ((S_.2.2.2 95 0 (64 * a2_ + w_).toNat)) 0) = 0 := of_decide_eq_true cx3_
        refine sm_T_inc (a := 3) (z := 1) (v := w_) (w := w_ + 1) rfl rfl (by omega) (by omega) (by omega) ?_ -- pc_ 47
        refine sm_T_go 1 (c1 := (8, [some (.inr (.inr (some (9, 0)))), some (.inr (.inr (some (2, cc_)))), some (.inl a2_), some (.inl (w_ + 1)), some (.inr (.inl (S_.2.2.2 95 0 (64 * a2_ + w_).toNat))), none], [], S_)) rfl ?_
        refine sm_T_wk [some (.inr (.inr (some (9, 0)))), some (.inr (.inr (some (2, cc_)))), some (.inl a2_), some (.inl (w_ + 1)), none, none] (by exact ⟨rfl, rfl, rfl, rfl, trivial⟩) ?_
        refine ih_ (w_ + 1) S_ hI_ hF_ ⟨?_, ?_, trivial⟩ ?_
        · omega
        · exact hn1_
        · omega
      · have cx3_ : ¬ ((sm_lcmp ((S_.2.2.2 95 0 (64 * a2_ + w_).toNat)) 0) = 0) := of_decide_eq_false cx3_
        have lq9_ : S_.2.2.2 95 0 (64 * a2_ + w_).toNat ≠ 0 := by (intro q9_; apply cx3_; rw [q9_]; decide)
        refine sm_T_go 2 (c1 := (39, [some (.inr (.inr (some (9, 0)))), some (.inr (.inr (some (2, cc_)))), some (.inl a2_), some (.inl w_), some (.inr (.inl (S_.2.2.2 95 0 (64 * a2_ + w_).toNat))), none], [.inl w_, .inl 64], S_)) rfl ?_
        refine sm_T_bin (w := 64 * w_) rfl (bi_mul (by omega) (by omega) (by omega)) ?_ -- pc_ 39
        refine sm_T_go 1 (c1 := (42, [some (.inr (.inr (some (9, 0)))), some (.inr (.inr (some (2, cc_)))), some (.inl a2_), some (.inl w_), some (.inr (.inl (S_.2.2.2 95 0 (64 * a2_ + w_).toNat))), none], [.inr (.inl (S_.2.2.2 95 0 (64 * a2_ + w_).toNat)), .inl (64 * w_)], S_)) rfl ?_
        refine sm_T_cal (d1 := 1) (Q1 := vq_9 ((S_.2.2.2 95 0 (64 * a2_ + w_).toNat)) S_) rfl rfl (by decide) (vc_9 ((S_.2.2.2 95 0 (64 * a2_ + w_).toNat)) S_ hI_ (by exact hn1_.1 _)) (fun u_ Sx4_ px7_ => ?_)
        obtain ⟨rfl, vx9_, rfl, px7_⟩ := px7_
        have t9_ := px7_
        refine sm_T_bin (w := 64 * w_ + vx9_) rfl (bi_add (by omega) (by omega) (by omega)) ?_ -- pc_ 45
        refine sm_T_ri rfl ⟨_, _, rfl, _, rfl, hI_, hF_, ?_⟩
        have t8_ := t9_.2 lq9_
        exact ⟨by omega, hn1_⟩
set_option maxHeartbeats 400000 in
theorem vc_177p {sc_ : Nat × (Nat → Int)} (a2_ : Int) (cc_ : Nat) (S0_ : sm_S) (hI_ : gi S0_) (hs_ : S0_.1 2 cc_ 1 + S0_.1 2 cc_ 2 ≤ 12) (h2_ : 0 ≤ a2_ ∧ a2_ ≤ 1223) (hn_ : shq S0_) : sm_T (mt_P sc_) 5 177 (0, [some (.inr (.inr (some (9, 0)))), some (.inr (.inr (some (2, cc_)))), some (.inl a2_), none, none, none], [], S0_) (fun ro9_ => ∃ u_ S1_, ro9_ = (.inl u_, S1_, 0) ∧ vq_177p a2_ cc_ S0_ u_ S1_) := by
  have hF_ : ai_fr (sx_W vw_177p) S0_ S0_ := ai_fr_rf
  refine sm_T_go 3 (c1 := (3, [some (.inr (.inr (some (9, 0)))), some (.inr (.inr (some (2, cc_)))), some (.inl a2_), none, none, none], [.inl a2_, .inr (.inr (some (2, cc_))), .inr (.inr (some (9, 0)))], S0_)) rfl ?_
  refine sm_T_cal (d1 := 4) (Q1 := vq_174p a2_ cc_ S0_) rfl rfl (by decide) (vc_174p a2_ cc_ S0_ hI_ (by omega) (by omega) (by omega)) (fun u_ Sx1_ px4_ => ?_)
  obtain ⟨rfl, hIx2_, hFx3_, px4_⟩ := px4_
  have hFx5_ : ai_fr (sx_W vw_177p) S0_ Sx1_ := ai_fr_tr hF_ (fr_le hFx3_ rfl)
  have f3_ := px4_
  refine sm_T_go 2 (c1 := (8, [some (.inr (.inr (some (9, 0)))), some (.inr (.inr (some (2, cc_)))), some (.inl a2_), some (.inl 0), none, none], [], Sx1_)) rfl ?_
  refine (vl_177p a2_ cc_ S0_ hs_ h2_ hn_ _) 0 Sx1_ hIx2_ hFx5_ ⟨?_, ?_, trivial⟩ (Nat.lt_succ_self _)
  · omega
  · exact f3_.2
/-! Tester.countHidden -/
def vw_178p : sx_Wl := ([(9, 1), (9, 2), (9, 3)], [92, 93, 94, 95, 96], [(9, 0)])
def vq_178p (cc_ : Nat) (S0_ : sm_S) (u_ : Option sm_V) (S1_ : sm_S) : Prop := ∃ v_ : Int, u_ = some (.inl v_) ∧ gi S1_ ∧ ai_fr (sx_W vw_178p) S0_ S1_ ∧ (shq S1_)
set_option maxHeartbeats 400000 in
theorem vl_178p {sc_ : Nat × (Nat → Int)} (cc_ : Nat) (S0_ : sm_S) (hs_ : S0_.1 2 cc_ 1 + S0_.1 2 cc_ 2 ≤ 12) (hn_ : shq S0_) : ∀ nn_ : Nat, (∀ (hd_ : Int) (f_ : Int) (S_ : sm_S), gi S_ → ai_fr (sx_W vw_178p) S0_ S_ → ((0 ≤ f_ ∧ f_ ≤ 1224 ∧ 0 ≤ hd_ ∧ hd_ ≤ f_) ∧ (shq S_) ∧ True) → ((2000 - f_).toNat) < nn_ → sm_T (mt_P sc_) 6 178 (4, [some (.inr (.inr (some (9, 0)))), some (.inr (.inr (some (2, cc_)))), some (.inl hd_), some (.inl f_)], [], S_) (fun ro9_ => ∃ u_ S1_, ro9_ = (.inl u_, S1_, 0) ∧ vq_178p cc_ S0_ u_ S1_)) := by
  intro nn_
  induction nn_ with
  | zero => exact fun _ _ _ _ _ _ h_ => absurd h_ (Nat.not_lt_zero _)
  | succ nn_ ih_ =>
    rintro hd_ f_ S_ hI_ hF_ ⟨h0_, hn1_, -⟩ hm_
    have z1_ : S_.1 2 cc_ 1 = S0_.1 2 cc_ 1 := hF_.1 2 cc_ 1 rfl
    have z2_ : S_.1 2 cc_ 2 = S0_.1 2 cc_ 2 := hF_.1 2 cc_ 2 rfl
    refine sm_T_go 2 (c1 := (6, [some (.inr (.inr (some (9, 0)))), some (.inr (.inr (some (2, cc_)))), some (.inl hd_), some (.inl f_)], [.inr (.inr (some (2, cc_))), .inl f_], S_)) rfl ?_
    refine sm_T_cal (d1 := 1) (Q1 := vq_62 cc_ S_) rfl rfl (by decide) (vc_62 cc_ S_ hI_ (by omega)) (fun u_ Sx1_ px4_ => ?_)
    obtain ⟨rfl, vx6_, rfl, px4_⟩ := px4_
    have fc6_ := px4_
    refine sm_T_br (a := 3) (z := 27) rfl (fun cx7_ => ?_) (fun cx7_ => ?_)
    · have cx7_ : vx6_ ≤ f_ := of_decide_eq_true cx7_
      refine sm_T_go 1 (c1 := (37, [some (.inr (.inr (some (9, 0)))), some (.inr (.inr (some (2, cc_)))), some (.inl hd_), some (.inl f_)], [.inl hd_], S_)) rfl ?_
      refine sm_T_ri rfl ⟨_, _, rfl, _, rfl, hI_, hF_, ?_⟩
      exact hn1_
    · have cx7_ : ¬ (vx6_ ≤ f_) := of_decide_eq_false cx7_
      refine sm_T_go 4 (c1 := (16, [some (.inr (.inr (some (9, 0)))), some (.inr (.inr (some (2, cc_)))), some (.inl hd_), some (.inl f_)], [.inl f_, .inr (.inr (some (2, cc_))), .inr (.inr (some (9, 0))), .inl hd_], S_)) rfl ?_
      refine sm_T_cal (d1 := 5) (Q1 := vq_177p f_ cc_ S_) rfl rfl (by decide) (vc_177p f_ cc_ S_ hI_ (by omega) (by omega) (by first | exact hn1_ | exact hn_)) (fun u_ Sx8_ px11_ => ?_)
      obtain ⟨vx13_, rfl, hIx9_, hFx10_, px11_⟩ := px11_
      have hFx12_ : ai_fr (sx_W vw_178p) S0_ Sx8_ := ai_fr_tr hF_ (fr_le hFx10_ rfl)
      have p16_ := px11_
      refine sm_T_go 1 (c1 := (20, [some (.inr (.inr (some (9, 0)))), some (.inr (.inr (some (2, cc_)))), some (.inl hd_), some (.inl f_)], [.inl (-1), .inl vx13_, .inl hd_], Sx8_)) rfl ?_
      refine sm_T_br (a := 1) (z := 7) rfl (fun cx14_ => ?_) (fun cx14_ => ?_)
      · have cx14_ : vx13_ ≠ (-1) := of_decide_eq_true cx14_
        refine sm_T_go 1 (c1 := (28, [some (.inr (.inr (some (9, 0)))), some (.inr (.inr (some (2, cc_)))), some (.inl hd_), some (.inl f_)], [.inl 0, .inl hd_], Sx8_)) rfl ?_
        refine sm_T_bin (w := hd_) rfl (bi_add (by omega) (by omega) (by omega)) ?_ -- pc_ 28
        refine sm_T_go 1 (c1 := (30, [some (.inr (.inr (some (9, 0)))), some (.inr (.inr (some (2, cc_)))), some (.inl hd_), some (.inl f_)], [], Sx8_)) rfl ?_
        refine sm_T_inc (a := 3) (z := 1) (v := f_) (w := f_ + 1) rfl rfl (by omega) (by omega) (by omega) ?_ -- pc_ 30
        refine sm_T_go 1 (c1 := (4, [some (.inr (.inr (some (9, 0)))), some (.inr (.inr (some (2, cc_)))), some (.inl hd_), some (.inl (f_ + 1))], [], Sx8_)) rfl ?_
        refine ih_ hd_ (f_ + 1) Sx8_ hIx9_ hFx12_ ⟨?_, ?_, trivial⟩ ?_
        · omega
        · exact p16_.2
        · omega
      · have cx14_ : ¬ (vx13_ ≠ (-1)) := of_decide_eq_false cx14_
        refine sm_T_go 2 (c1 := (28, [some (.inr (.inr (some (9, 0)))), some (.inr (.inr (some (2, cc_)))), some (.inl hd_), some (.inl f_)], [.inl 1, .inl hd_], Sx8_)) rfl ?_
        refine sm_T_bin (w := hd_ + 1) rfl (bi_add (by omega) (by omega) (by omega)) ?_ -- pc_ 28
        refine sm_T_go 1 (c1 := (30, [some (.inr (.inr (some (9, 0)))), some (.inr (.inr (some (2, cc_)))), some (.inl (hd_ + 1)), some (.inl f_)], [], Sx8_)) rfl ?_
        refine sm_T_inc (a := 3) (z := 1) (v := f_) (w := f_ + 1) rfl rfl (by omega) (by omega) (by omega) ?_ -- pc_ 30
        refine sm_T_go 1 (c1 := (4, [some (.inr (.inr (some (9, 0)))), some (.inr (.inr (some (2, cc_)))), some (.inl (hd_ + 1)), some (.inl (f_ + 1))], [], Sx8_)) rfl ?_
        refine ih_ (hd_ + 1) (f_ + 1) Sx8_ hIx9_ hFx12_ ⟨?_, ?_, trivial⟩ ?_
        · omega
        · exact p16_.2
        · omega
set_option maxHeartbeats 400000 in
theorem vc_178p {sc_ : Nat × (Nat → Int)} (cc_ : Nat) (S0_ : sm_S) (hI_ : gi S0_) (hs_ : S0_.1 2 cc_ 1 + S0_.1 2 cc_ 2 ≤ 12) (hn_ : shq S0_) : sm_T (mt_P sc_) 6 178 (0, [some (.inr (.inr (some (9, 0)))), some (.inr (.inr (some (2, cc_)))), none, none], [], S0_) (fun ro9_ => ∃ u_ S1_, ro9_ = (.inl u_, S1_, 0) ∧ vq_178p cc_ S0_ u_ S1_) := by
  have hF_ : ai_fr (sx_W vw_178p) S0_ S0_ := ai_fr_rf
  refine sm_T_go 4 (c1 := (4, [some (.inr (.inr (some (9, 0)))), some (.inr (.inr (some (2, cc_)))), some (.inl 0), some (.inl 0)], [], S0_)) rfl ?_
  refine (vl_178p cc_ S0_ hs_ hn_ _) 0 0 S0_ hI_ hF_ ⟨?_, ?_, trivial⟩ (Nat.lt_succ_self _)
  · omega
  · exact hn_
/-! Tester.countShownBySet -/
def vw_183p : sx_Wl := ([(9, 1), (9, 2), (9, 3)], [92, 93, 94, 95, 96], [(9, 0)])
def vq_183p (cc_ : Nat) (S0_ : sm_S) (u_ : Option sm_V) (S1_ : sm_S) : Prop := ∃ v_ : Int, u_ = some (.inl v_) ∧ gi S1_ ∧ ai_fr (sx_W vw_183p) S0_ S1_ ∧ (shq S1_)
set_option maxHeartbeats 400000 in
theorem vl_183p {sc_ : Nat × (Nat → Int)} (cc_ : Nat) (S0_ : sm_S) (hs_ : S0_.1 2 cc_ 1 + S0_.1 2 cc_ 2 ≤ 12) (hn_ : shq S0_) : ∀ nn_ : Nat, (∀ (hd_ : Int) (f_ : Int) (S_ : sm_S), gi S_ → ai_fr (sx_W vw_183p) S0_ S_ → ((0 ≤ f_ ∧ f_ ≤ 1224 ∧ 0 ≤ hd_ ∧ hd_ ≤ f_) ∧ (shq S_) ∧ True) → ((2000 - f_).toNat) < nn_ → sm_T (mt_P sc_) 5 183 (4, [some (.inr (.inr (some (9, 0)))), some (.inr (.inr (some (2, cc_)))), some (.inl hd_), some (.inl f_)], [], S_) (fun ro9_ => ∃ u_ S1_, ro9_ = (.inl u_, S1_, 0) ∧ vq_183p cc_ S0_ u_ S1_)) := by
  intro nn_
  induction nn_ with
  | zero => exact fun _ _ _ _ _ _ h_ => absurd h_ (Nat.not_lt_zero _)
  | succ nn_ ih_ =>
    rintro hd_ f_ S_ hI_ hF_ ⟨h0_, hn1_, -⟩ hm_
    have z1_ : S_.1 2 cc_ 1 = S0_.1 2 cc_ 1 := hF_.1 2 cc_ 1 rfl
    have z2_ : S_.1 2 cc_ 2 = S0_.1 2 cc_ 2 := hF_.1 2 cc_ 2 rfl
    refine sm_T_go 2 (c1 := (6, [some (.inr (.inr (some (9, 0)))), some (.inr (.inr (some (2, cc_)))), some (.inl hd_), some (.inl f_)], [.inr (.inr (some (2, cc_))), .inl f_], S_)) rfl ?_
    refine sm_T_cal (d1 := 1) (Q1 := vq_62 cc_ S_) rfl rfl (by decide) (vc_62 cc_ S_ hI_ (by omega)) (fun u_ Sx1_ px4_ => ?_)
    obtain ⟨rfl, vx6_, rfl, px4_⟩ := px4_
    have fc6_ := px4_
    refine sm_T_br (a := 3) (z := 32) rfl (fun cx7_ => ?_) (fun cx7_ => ?_)
    · have cx7_ : vx6_ ≤ f_ := of_decide_eq_true cx7_
      refine sm_T_go 1 (c1 := (42, [some (.inr (.inr (some (9, 0)))), some (.inr (.inr (some (2, cc_)))), some (.inl hd_), some (.inl f_)], [.inl hd_], S_)) rfl ?_
      refine sm_T_ri rfl ⟨_, _, rfl, _, rfl, hI_, hF_, ?_⟩
      exact hn1_
    · have cx7_ : ¬ (vx6_ ≤ f_) := of_decide_eq_false cx7_
      refine sm_T_go 3 (c1 := (15, [some (.inr (.inr (some (9, 0)))), some (.inr (.inr (some (2, cc_)))), some (.inl hd_), some (.inl f_)], [.inl f_, .inr (.inr (some (2, cc_))), .inr (.inr (some (9, 0)))], S_)) rfl ?_
      refine sm_T_cal (d1 := 4) (Q1 := vq_174p f_ cc_ S_) rfl rfl (by decide) (vc_174p f_ cc_ S_ hI_ (by omega) (by omega) (by first | exact hn1_ | exact hn_)) (fun u_ Sx8_ px11_ => ?_)
      obtain ⟨rfl, hIx9_, hFx10_, px11_⟩ := px11_
      have hFx12_ : ai_fr (sx_W vw_183p) S0_ Sx8_ := ai_fr_tr hF_ (fr_le hFx10_ rfl)
      have p15_ := px11_
      refine sm_T_go 4 (c1 := (22, [some (.inr (.inr (some (9, 0)))), some (.inr (.inr (some (2, cc_)))), some (.inl hd_), some (.inl f_)], [.inl f_, .inr (.inr (some (2, cc_))), .inr (.inr (some (9, 0))), .inl hd_], Sx8_)) rfl ?_
      refine sm_T_cal (d1 := 1) (Q1 := vq_180 f_ cc_ Sx8_) rfl rfl (by decide) (vc_180 f_ cc_ Sx8_ hIx9_ (by omega)) (fun u_ Sx13_ px16_ => ?_)
      obtain ⟨rfl, vx18_, rfl, px16_⟩ := px16_
      refine sm_T_b0 (a := 5) (z := 7) rfl (fun cx19_ => ?_) (fun cx19_ => ?_)
      · have cx19_ : vx18_ ≤ 0 := of_decide_eq_true cx19_
        refine sm_T_go 1 (c1 := (33, [some (.inr (.inr (some (9, 0)))), some (.inr (.inr (some (2, cc_)))), some (.inl hd_), some (.inl f_)], [.inl 0, .inl hd_], Sx8_)) rfl ?_
        refine sm_T_bin (w := hd_) rfl (bi_add (by omega) (by omega) (by omega)) ?_ -- pc_ 33
        refine sm_T_go 1 (c1 := (35, [some (.inr (.inr (some (9, 0)))), some (.inr (.inr (some (2, cc_)))), some (.inl hd_), some (.inl f_)], [], Sx8_)) rfl ?_
        refine sm_T_inc (a := 3) (z := 1) (v := f_) (w := f_ + 1) rfl rfl (by omega) (by omega) (by omega) ?_ -- pc_ 35
        refine sm_T_go 1 (c1 := (4, [some (.inr (.inr (some (9, 0)))), some (.inr (.inr (some (2, cc_)))), some (.inl hd_), some (.inl (f_ + 1))], [], Sx8_)) rfl ?_
        refine ih_ hd_ (f_ + 1) Sx8_ hIx9_ hFx12_ ⟨?_, ?_, trivial⟩ ?_
        · omega
        · exact p15_.2
        · omega
      · have cx19_ : ¬ (vx18_ ≤ 0) := of_decide_eq_false cx19_
        refine sm_T_go 2 (c1 := (33, [some (.inr (.inr (some (9, 0)))), some (.inr (.inr (some (2, cc_)))), some (.inl hd_), some (.inl f_)], [.inl 1, .inl hd_], Sx8_)) rfl ?_
        refine sm_T_bin (w := hd_ + 1) rfl (bi_add (by omega) (by omega) (by omega)) ?_ -- pc_ 33
        refine sm_T_go 1 (c1 := (35, [some (.inr (.inr (some (9, 0)))), some (.inr (.inr (some (2, cc_)))), some (.inl (hd_ + 1)), some (.inl f_)], [], Sx8_)) rfl ?_
        refine sm_T_inc (a := 3) (z := 1) (v := f_) (w := f_ + 1) rfl rfl (by omega) (by omega) (by omega) ?_ -- pc_ 35
        refine sm_T_go 1 (c1 := (4, [some (.inr (.inr (some (9, 0)))), some (.inr (.inr (some (2, cc_)))), some (.inl (hd_ + 1)), some (.inl (f_ + 1))], [], Sx8_)) rfl ?_
        refine ih_ (hd_ + 1) (f_ + 1) Sx8_ hIx9_ hFx12_ ⟨?_, ?_, trivial⟩ ?_
        · omega
        · exact p15_.2
        · omega
set_option maxHeartbeats 400000 in
theorem vc_183p {sc_ : Nat × (Nat → Int)} (cc_ : Nat) (S0_ : sm_S) (hI_ : gi S0_) (hs_ : S0_.1 2 cc_ 1 + S0_.1 2 cc_ 2 ≤ 12) (hn_ : shq S0_) : sm_T (mt_P sc_) 5 183 (0, [some (.inr (.inr (some (9, 0)))), some (.inr (.inr (some (2, cc_)))), none, none], [], S0_) (fun ro9_ => ∃ u_ S1_, ro9_ = (.inl u_, S1_, 0) ∧ vq_183p cc_ S0_ u_ S1_) := by
  have hF_ : ai_fr (sx_W vw_183p) S0_ S0_ := ai_fr_rf
  refine sm_T_go 4 (c1 := (4, [some (.inr (.inr (some (9, 0)))), some (.inr (.inr (some (2, cc_)))), some (.inl 0), some (.inl 0)], [], S0_)) rfl ?_
  refine (vl_183p cc_ S0_ hs_ hn_ _) 0 0 S0_ hI_ hF_ ⟨?_, ?_, trivial⟩ (Nat.lt_succ_self _)
  · omega
  · exact hn_
/-! Tester.suspectOf -/
def vw_184p : sx_Wl := ([(9, 1), (9, 2), (9, 3)], [92, 93, 94, 95, 96], [(9, 0)])
def vq_184p (a2_ : Int) (cc_ : Nat) (S0_ : sm_S) (u_ : Option sm_V) (S1_ : sm_S) : Prop := ∃ v_ : Int, u_ = some (.inl v_) ∧ gi S1_ ∧ ai_fr (sx_W vw_184p) S0_ S1_ ∧ (shq S1_)
set_option maxHeartbeats 400000 in
theorem vl_184p {sc_ : Nat × (Nat → Int)} (a2_ : Int) (cc_ : Nat) (S0_ : sm_S) (hs_ : S0_.1 2 cc_ 1 + S0_.1 2 cc_ 2 ≤ 12) (h2_ : -2147483648 ≤ a2_ ∧ a2_ ≤ 2147483647) (hn_ : shq S0_) : ∀ nn_ : Nat, (∀ (rs_ : Int) (f_ : Int) (S_ : sm_S), gi S_ → ai_fr (sx_W vw_184p) S0_ S_ → ((0 ≤ f_ ∧ f_ ≤ 1224) ∧ (shq S_) ∧ True) → ((10000 * (2000 - f_) + 9000).toNat) < nn_ → sm_T (mt_P sc_) 5 184 (5, [some (.inr (.inr (some (9, 0)))), some (.inr (.inr (some (2, cc_)))), some (.inl a2_), some (.inl rs_), some (.inl f_), none, none], [], S_) (fun ro9_ => ∃ u_ S1_, ro9_ = (.inl u_, S1_, 0) ∧ vq_184p a2_ cc_ S0_ u_ S1_)) ∧ (∀ (rs_ : Int) (f_ : Int) (sp_ : Int) (k_ : Int) (S_ : sm_S), gi S_ → ai_fr (sx_W vw_184p) S0_ S_ → ((0 ≤ f_ ∧ f_ < 1224 ∧ 0 ≤ k_ ∧ k_ ≤ 1224 ∧ 0 ≤ sp_ ∧ sp_ ≤ 1) ∧ (shq S_) ∧ True) → ((10000 * (2000 - f_) + 8000 - k_).toNat) < nn_ → sm_T (mt_P sc_) 5 184 (41, [some (.inr (.inr (some (9, 0)))), some (.inr (.inr (some (2, cc_)))), some (.inl a2_), some (.inl rs_), some (.inl f_), some (.inl sp_), some (.inl k_)], [], S_) (fun ro9_ => ∃ u_ S1_, ro9_ = (.inl u_, S1_, 0) ∧ vq_184p a2_ cc_ S0_ u_ S1_)) := by
  intro nn_
  induction nn_ with
  | zero => exact ⟨fun _ _ _ _ _ _ h_ => absurd h_ (Nat.not_lt_zero _), fun _ _ _ _ _ _ _ _ h_ => absurd h_ (Nat.not_lt_zero _)⟩
  | succ nn_ ih_ =>
    refine ⟨?_, ?_⟩
    · rintro rs_ f_ S_ hI_ hF_ ⟨h0_, hn1_, -⟩ hm_
      have z1_ : S_.1 2 cc_ 1 = S0_.1 2 cc_ 1 := hF_.1 2 cc_ 1 rfl
      have z2_ : S_.1 2 cc_ 2 = S0_.1 2 cc_ 2 := hF_.1 2 cc_ 2 rfl
      have cz_ : (-1) ≤ S_.1 2 cc_ 15 ∧ S_.1 2 cc_ 15 ≤ 1224 := hI_.1 2 cc_ 15 rfl
      refine sm_T_go 2 (c1 := (8, [some (.inr (.inr (some (9, 0)))), some (.inr (.inr (some (2, cc_)))), some (.inl a2_), some (.inl rs_), some (.inl f_), none, none], [.inr (.inr (some (2, cc_))), .inl f_], S_)) rfl ?_
      refine sm_T_cal (d1 := 1) (Q1 := vq_62 cc_ S_) rfl rfl (by decide) (vc_62 cc_ S_ hI_ (by omega)) (fun u_ Sx1_ px4_ => ?_)
      obtain ⟨rfl, vx6_, rfl, px4_⟩ := px4_
      have fc8_ := px4_
      refine sm_T_br (a := 3) (z := 109) rfl (fun cx7_ => ?_) (fun cx7_ => ?_)
      · have cx7_ : vx6_ ≤ f_ := of_decide_eq_true cx7_
        refine sm_T_go 1 (c1 := (121, [some (.inr (.inr (some (9, 0)))), some (.inr (.inr (some (2, cc_)))), some (.inl a2_), some (.inl rs_), some (.inl f_), none, none], [.inl (-1)], S_)) rfl ?_
        refine sm_T_ri rfl ⟨_, _, rfl, _, rfl, hI_, hF_, ?_⟩
        exact hn1_
      · have cx7_ : ¬ (vx6_ ≤ f_) := of_decide_eq_false cx7_
        refine sm_T_go 3 (c1 := (18, [some (.inr (.inr (some (9, 0)))), some (.inr (.inr (some (2, cc_)))), some (.inl a2_), some (.inl rs_), some (.inl f_), none, none], [.inl f_, .inr (.inr (some (2, cc_))), .inr (.inr (some (9, 0)))], S_)) rfl ?_
        refine sm_T_cal (d1 := 4) (Q1 := vq_174p f_ cc_ S_) rfl rfl (by decide) (vc_174p f_ cc_ S_ hI_ (by omega) (by omega) (by first | exact hn1_ | exact hn_)) (fun u_ Sx8_ px11_ => ?_)
        obtain ⟨rfl, hIx9_, hFx10_, px11_⟩ := px11_
        have hFx12_ : ai_fr (sx_W vw_184p) S0_ Sx8_ := ai_fr_tr hF_ (fr_le hFx10_ rfl)
        have p18_ := px11_
        refine sm_T_go 3 (c1 := (25, [some (.inr (.inr (some (9, 0)))), some (.inr (.inr (some (2, cc_)))), some (.inl a2_), some (.inl rs_), some (.inl f_), none, none], [.inl f_, .inr (.inr (some (2, cc_))), .inr (.inr (some (9, 0)))], Sx8_)) rfl ?_
        refine sm_T_cal (d1 := 1) (Q1 := vq_180 f_ cc_ Sx8_) rfl rfl (by decide) (vc_180 f_ cc_ Sx8_ hIx9_ (by omega)) (fun u_ Sx13_ px16_ => ?_)
        obtain ⟨rfl, vx18_, rfl, px16_⟩ := px16_
        refine sm_T_b0 (a := 5) (z := 7) rfl (fun cx19_ => ?_) (fun cx19_ => ?_)
        · have cx19_ : vx18_ ≤ 0 := of_decide_eq_true cx19_
          refine sm_T_go 4 (c1 := (41, [some (.inr (.inr (some (9, 0)))), some (.inr (.inr (some (2, cc_)))), some (.inl a2_), some (.inl rs_), some (.inl f_), some (.inl 0), some (.inl 0)], [], Sx8_)) rfl ?_
          refine ih_.2 rs_ f_ 0 0 Sx8_ hIx9_ hFx12_ ⟨?_, ?_, trivial⟩ ?_
          · omega
          · exact p18_.2
          · omega
        · have cx19_ : ¬ (vx18_ ≤ 0) := of_decide_eq_false cx19_
          refine sm_T_go 5 (c1 := (41, [some (.inr (.inr (some (9, 0)))), some (.inr (.inr (some (2, cc_)))), some (.inl a2_), some (.inl rs_), some (.inl f_), some (.inl 1), some (.inl 0)], [], Sx8_)) rfl ?_
          refine ih_.2 rs_ f_ 1 0 Sx8_ hIx9_ hFx12_ ⟨?_, ?_, trivial⟩ ?_
          · omega
          · exact p18_.2
          · omega
    · rintro rs_ f_ sp_ k_ S_ hI_ hF_ ⟨h0_, hn1_, -⟩ hm_
      have z1_ : S_.1 2 cc_ 1 = S0_.1 2 cc_ 1 := hF_.1 2 cc_ 1 rfl
      have z2_ : S_.1 2 cc_ 2 = S0_.1 2 cc_ 2 := hF_.1 2 cc_ 2 rfl
      have cz_ : (-1) ≤ S_.1 2 cc_ 15 ∧ S_.1 2 cc_ 15 ≤ 1224 := hI_.1 2 cc_ 15 rfl
      have bx1_ : (-1) ≤ S_.1 2 cc_ 15 ∧ S_.1 2 cc_ 15 ≤ 1224 := hI_.1 2 cc_ 15 rfl
      refine sm_T_go 3 (c1 := (47, [some (.inr (.inr (some (9, 0)))), some (.inr (.inr (some (2, cc_)))), some (.inl a2_), some (.inl rs_), some (.inl f_), some (.inl sp_), some (.inl k_)], [.inl (S_.1 2 cc_ 15), .inl k_], S_)) rfl ?_
      refine sm_T_br (a := 3) (z := 52) rfl (fun cx2_ => ?_) (fun cx2_ => ?_)
      · have cx2_ : (S_.1 2 cc_ 15) ≤ k_ := of_decide_eq_true cx2_
        refine sm_T_go 1 (c1 := (101, [some (.inr (.inr (some (9, 0)))), some (.inr (.inr (some (2, cc_)))), some (.inl a2_), some (.inl rs_), some (.inl f_), some (.inl sp_), some (.inl k_)], [.inl sp_], S_)) rfl ?_
        refine sm_T_b0 (a := 0) (z := 13) rfl (fun cx3_ => ?_) (fun cx3_ => ?_)
        · have cx3_ : sp_ = 0 := of_decide_eq_true cx3_
          refine sm_T_inc (a := 4) (z := 1) (v := f_) (w := f_ + 1) rfl rfl (by omega) (by omega) (by omega) ?_ -- pc_ 114
          refine sm_T_go 1 (c1 := (5, [some (.inr (.inr (some (9, 0)))), some (.inr (.inr (some (2, cc_)))), some (.inl a2_), some (.inl rs_), some (.inl (f_ + 1)), some (.inl sp_), some (.inl k_)], [], S_)) rfl ?_
          refine sm_T_wk [some (.inr (.inr (some (9, 0)))), some (.inr (.inr (some (2, cc_)))), some (.inl a2_), some (.inl rs_), some (.inl (f_ + 1)), none, none] (by exact ⟨rfl, rfl, rfl, rfl, rfl, trivial⟩) ?_
          refine ih_.1 rs_ (f_ + 1) S_ hI_ hF_ ⟨?_, ?_, trivial⟩ ?_
          · omega
          · exact hn1_
          · omega
        · have cx3_ : ¬ (sp_ = 0) := of_decide_eq_false cx3_
          refine sm_T_go 1 (c1 := (105, [some (.inr (.inr (some (9, 0)))), some (.inr (.inr (some (2, cc_)))), some (.inl a2_), some (.inl rs_), some (.inl f_), some (.inl sp_), some (.inl k_)], [.inl rs_], S_)) rfl ?_
          refine sm_T_b0 (a := 1) (z := 6) rfl (fun cx4_ => ?_) (fun cx4_ => ?_)
          · have cx4_ : rs_ ≠ 0 := of_decide_eq_true cx4_
            refine sm_T_incw (a_ := 3) (z_ := (-1)) (v_ := rs_) rfl rfl ?_ -- pc_ 111
            have bx5_ := i_add_r rs_ (-1)
            refine sm_T_inc (a := 4) (z := 1) (v := f_) (w := f_ + 1) rfl rfl (by omega) (by omega) (by omega) ?_ -- pc_ 114
            refine sm_T_go 1 (c1 := (5, [some (.inr (.inr (some (9, 0)))), some (.inr (.inr (some (2, cc_)))), some (.inl a2_), some (.inl (i_add rs_ (-1))), some (.inl (f_ + 1)), some (.inl sp_), some (.inl k_)], [], S_)) rfl ?_
            refine sm_T_wk [some (.inr (.inr (some (9, 0)))), some (.inr (.inr (some (2, cc_)))), some (.inl a2_), some (.inl (i_add rs_ (-1))), some (.inl (f_ + 1)), none, none] (by exact ⟨rfl, rfl, rfl, rfl, rfl, trivial⟩) ?_
            refine ih_.1 (i_add rs_ (-1)) (f_ + 1) S_ hI_ hF_ ⟨?_, ?_, trivial⟩ ?_
            · omega
            · exact hn1_
            · omega
          · have cx4_ : ¬ (rs_ ≠ 0) := of_decide_eq_false cx4_
            refine sm_T_go 1 (c1 := (110, [some (.inr (.inr (some (9, 0)))), some (.inr (.inr (some (2, cc_)))), some (.inl a2_), some (.inl rs_), some (.inl f_), some (.inl sp_), some (.inl k_)], [.inl f_], S_)) rfl ?_
            refine sm_T_ri rfl ⟨_, _, rfl, _, rfl, hI_, hF_, ?_⟩
            exact hn1_
      · have cx2_ : ¬ ((S_.1 2 cc_ 15) ≤ k_) := of_decide_eq_false cx2_
        refine sm_T_go 1 (c1 := (52, [some (.inr (.inr (some (9, 0)))), some (.inr (.inr (some (2, cc_)))), some (.inl a2_), some (.inl rs_), some (.inl f_), some (.inl sp_), some (.inl k_)], [.inl sp_], S_)) rfl ?_
        refine sm_T_b0 (a := 0) (z := 47) rfl (fun cx6_ => ?_) (fun cx6_ => ?_)
        · have cx6_ : sp_ = 0 := of_decide_eq_true cx6_
          refine sm_T_go 1 (c1 := (101, [some (.inr (.inr (some (9, 0)))), some (.inr (.inr (some (2, cc_)))), some (.inl a2_), some (.inl rs_), some (.inl f_), some (.inl sp_), some (.inl k_)], [.inl sp_], S_)) rfl ?_
          refine sm_T_b0 (a := 0) (z := 13) rfl (fun cx7_ => ?_) (fun cx7_ => ?_)
          · have cx7_ : sp_ = 0 := of_decide_eq_true cx7_
            refine sm_T_inc (a := 4) (z := 1) (v := f_) (w := f_ + 1) rfl rfl (by omega) (by omega) (by omega) ?_ -- pc_ 114
            refine sm_T_go 1 (c1 := (5, [some (.inr (.inr (some (9, 0)))), some (.inr (.inr (some (2, cc_)))), some (.inl a2_), some (.inl rs_), some (.inl (f_ + 1)), some (.inl sp_), some (.inl k_)], [], S_)) rfl ?_
            refine sm_T_wk [some (.inr (.inr (some (9, 0)))), some (.inr (.inr (some (2, cc_)))), some (.inl a2_), some (.inl rs_), some (.inl (f_ + 1)), none, none] (by exact ⟨rfl, rfl, rfl, rfl, rfl, trivial⟩) ?_
            refine ih_.1 rs_ (f_ + 1) S_ hI_ hF_ ⟨?_, ?_, trivial⟩ ?_
            · omega
            · exact hn1_
            · omega
          · have cx7_ : ¬ (sp_ = 0) := of_decide_eq_false cx7_
            exfalso; omega
        · have cx6_ : ¬ (sp_ = 0) := of_decide_eq_false cx6_
          refine sm_T_go 4 (c1 := (62, [some (.inr (.inr (some (9, 0)))), some (.inr (.inr (some (2, cc_)))), some (.inl a2_), some (.inl rs_), some (.inl f_), some (.inl sp_), some (.inl k_)], [.inl k_, .inr (.inr (some (40, (0 + cc_)))), .inr (.inr (some (9, 0)))], S_)) rfl ?_
          refine sm_T_iald (n := 1224) rfl rfl (by omega) (by omega) ?_
          have bx8_ : 0 ≤ S_.2.2.1 40 (0 + cc_) k_.toNat ∧ S_.2.2.1 40 (0 + cc_) k_.toNat ≤ 4095 := hI_.2 40 (0 + cc_) _
          refine sm_T_go 1 (c1 := (65, [some (.inr (.inr (some (9, 0)))), some (.inr (.inr (some (2, cc_)))), some (.inl a2_), some (.inl rs_), some (.inl f_), some (.inl sp_), some (.inl k_)], [.inl f_, .inl (S_.2.2.1 40 (0 + cc_) k_.toNat), .inr (.inr (some (9, 0)))], S_)) rfl ?_
          refine sm_T_cal (d1 := 0) (Q1 := vq_176 (S_.2.2.1 40 (0 + cc_) k_.toNat) f_ S_) rfl rfl (by decide) (vc_176 (S_.2.2.1 40 (0 + cc_) k_.toNat) f_ S_ hI_ (by omega) (by omega)) (fun u_ Sx9_ px12_ => ?_)
          obtain ⟨rfl, vx14_, rfl, px12_⟩ := px12_
          have i65_ := px12_
          refine sm_T_go 3 (c1 := (74, [some (.inr (.inr (some (9, 0)))), some (.inr (.inr (some (2, cc_)))), some (.inl a2_), some (.inl rs_), some (.inl f_), some (.inl sp_), some (.inl k_)], [.inl k_, .inr (.inr (some (41, (0 + cc_)))), .inl vx14_], S_)) rfl ?_
          refine sm_T_iald (n := 1224) rfl rfl (by omega) (by omega) ?_
          have bx15_ : 0 ≤ S_.2.2.1 41 (0 + cc_) k_.toNat ∧ S_.2.2.1 41 (0 + cc_) k_.toNat ≤ 1 := hI_.2 41 (0 + cc_) _
          refine sm_T_b0 (a := 0) (z := 7) rfl (fun cx16_ => ?_) (fun cx16_ => ?_)
          · have cx16_ : (S_.2.2.1 41 (0 + cc_) k_.toNat) = 0 := of_decide_eq_true cx16_
            refine sm_T_go 1 (c1 := (83, [some (.inr (.inr (some (9, 0)))), some (.inr (.inr (some (2, cc_)))), some (.inl a2_), some (.inl rs_), some (.inl f_), some (.inl sp_), some (.inl k_)], [.inl 0, .inl vx14_], S_)) rfl ?_
            refine sm_T_br (a := 1) (z := 7) rfl (fun cx17_ => ?_) (fun cx17_ => ?_)
            · have cx17_ : vx14_ ≠ 0 := of_decide_eq_true cx17_
              refine sm_T_go 2 (c1 := (93, [some (.inr (.inr (some (9, 0)))), some (.inr (.inr (some (2, cc_)))), some (.inl a2_), some (.inl rs_), some (.inl f_), some (.inl 0), some (.inl k_)], [], S_)) rfl ?_
              refine sm_T_inc (a := 6) (z := 1) (v := k_) (w := k_ + 1) rfl rfl (by omega) (by omega) (by omega) ?_ -- pc_ 93
              refine sm_T_go 1 (c1 := (41, [some (.inr (.inr (some (9, 0)))), some (.inr (.inr (some (2, cc_)))), some (.inl a2_), some (.inl rs_), some (.inl f_), some (.inl 0), some (.inl (k_ + 1))], [], S_)) rfl ?_
              refine ih_.2 rs_ f_ 0 (k_ + 1) S_ hI_ hF_ ⟨?_, ?_, trivial⟩ ?_
              · omega
              · exact hn1_
              · omega
            · have cx17_ : ¬ (vx14_ ≠ 0) := of_decide_eq_false cx17_
              refine sm_T_go 3 (c1 := (93, [some (.inr (.inr (some (9, 0)))), some (.inr (.inr (some (2, cc_)))), some (.inl a2_), some (.inl rs_), some (.inl f_), some (.inl 1), some (.inl k_)], [], S_)) rfl ?_
              refine sm_T_inc (a := 6) (z := 1) (v := k_) (w := k_ + 1) rfl rfl (by omega) (by omega) (by omega) ?_ -- pc_ 93
              refine sm_T_go 1 (c1 := (41, [some (.inr (.inr (some (9, 0)))), some (.inr (.inr (some (2, cc_)))), some (.inl a2_), some (.inl rs_), some (.inl f_), some (.inl 1), some (.inl (k_ + 1))], [], S_)) rfl ?_
              refine ih_.2 rs_ f_ 1 (k_ + 1) S_ hI_ hF_ ⟨?_, ?_, trivial⟩ ?_
              · omega
              · exact hn1_
              · omega
          · have cx16_ : ¬ ((S_.2.2.1 41 (0 + cc_) k_.toNat) = 0) := of_decide_eq_false cx16_
            refine sm_T_go 2 (c1 := (83, [some (.inr (.inr (some (9, 0)))), some (.inr (.inr (some (2, cc_)))), some (.inl a2_), some (.inl rs_), some (.inl f_), some (.inl sp_), some (.inl k_)], [.inl 1, .inl vx14_], S_)) rfl ?_
            refine sm_T_br (a := 1) (z := 7) rfl (fun cx18_ => ?_) (fun cx18_ => ?_)
            · have cx18_ : vx14_ ≠ 1 := of_decide_eq_true cx18_
              refine sm_T_go 2 (c1 := (93, [some (.inr (.inr (some (9, 0)))), some (.inr (.inr (some (2, cc_)))), some (.inl a2_), some (.inl rs_), some (.inl f_), some (.inl 0), some (.inl k_)], [], S_)) rfl ?_
              refine sm_T_inc (a := 6) (z := 1) (v := k_) (w := k_ + 1) rfl rfl (by omega) (by omega) (by omega) ?_ -- pc_ 93
              refine sm_T_go 1 (c1 := (41, [some (.inr (.inr (some (9, 0)))), some (.inr (.inr (some (2, cc_)))), some (.inl a2_), some (.inl rs_), some (.inl f_), some (.inl 0), some (.inl (k_ + 1))], [], S_)) rfl ?_
              refine ih_.2 rs_ f_ 0 (k_ + 1) S_ hI_ hF_ ⟨?_, ?_, trivial⟩ ?_
              · omega
              · exact hn1_
              · omega
            · have cx18_ : ¬ (vx14_ ≠ 1) := of_decide_eq_false cx18_
              refine sm_T_go 3 (c1 := (93, [some (.inr (.inr (some (9, 0)))), some (.inr (.inr (some (2, cc_)))), some (.inl a2_), some (.inl rs_), some (.inl f_), some (.inl 1), some (.inl k_)], [], S_)) rfl ?_
              refine sm_T_inc (a := 6) (z := 1) (v := k_) (w := k_ + 1) rfl rfl (by omega) (by omega) (by omega) ?_ -- pc_ 93
              refine sm_T_go 1 (c1 := (41, [some (.inr (.inr (some (9, 0)))), some (.inr (.inr (some (2, cc_)))), some (.inl a2_), some (.inl rs_), some (.inl f_), some (.inl 1), some (.inl (k_ + 1))], [], S_)) rfl ?_
              refine ih_.2 rs_ f_ 1 (k_ + 1) S_ hI_ hF_ ⟨?_, ?_, trivial⟩ ?_
              · omega
              · exact hn1_
              · omega
set_option maxHeartbeats 400000 in
theorem vc_184p {sc_ : Nat × (Nat → Int)} (a2_ : Int) (cc_ : Nat) (S0_ : sm_S) (hI_ : gi S0_) (hs_ : S0_.1 2 cc_ 1 + S0_.1 2 cc_ 2 ≤ 12) (h2_ : -2147483648 ≤ a2_ ∧ a2_ ≤ 2147483647) (hn_ : shq S0_) : sm_T (mt_P sc_) 5 184 (0, [some (.inr (.inr (some (9, 0)))), some (.inr (.inr (some (2, cc_)))), some (.inl a2_), none, none, none, none], [], S0_) (fun ro9_ => ∃ u_ S1_, ro9_ = (.inl u_, S1_, 0) ∧ vq_184p a2_ cc_ S0_ u_ S1_) := by
  have hF_ : ai_fr (sx_W vw_184p) S0_ S0_ := ai_fr_rf
  refine sm_T_go 4 (c1 := (5, [some (.inr (.inr (some (9, 0)))), some (.inr (.inr (some (2, cc_)))), some (.inl a2_), some (.inl a2_), some (.inl 0), none, none], [], S0_)) rfl ?_
  refine (vl_184p a2_ cc_ S0_ hs_ h2_ hn_ _).1 a2_ 0 S0_ hI_ hF_ ⟨?_, ?_, trivial⟩ (Nat.lt_succ_self _)
  · omega
  · exact hn_
/-! Tester.makeSet -/
def vw_179p : sx_Wl := ([(2, 15), (9, 1), (9, 2), (9, 3)], [40, 41, 92, 93, 94, 95, 96, 97], [(9, 0)])
def vq_179p (cc_ : Nat) (S0_ : sm_S) (u_ : Option sm_V) (S1_ : sm_S) : Prop := u_ = none ∧ gi S1_ ∧ ai_fr (sx_W vw_179p) S0_ S1_ ∧ (cdf cc_ S0_ S1_ ∧ (shq S1_))
set_option maxHeartbeats 400000 in
theorem vl_179p {sc_ : Nat × (Nat → Int)} (cc_ : Nat) (S0_ : sm_S) (hs_ : S0_.1 2 cc_ 1 + S0_.1 2 cc_ 2 ≤ 12) (hn_ : shq S0_) : ∀ nn_ : Nat, (∀ (al_ : Int) (f_ : Int) (S_ : sm_S), gi S_ → ai_fr (sx_W vw_179p) S0_ S_ → ((0 ≤ al_ ∧ al_ ≤ 1224 ∧ 0 ≤ f_ ∧ f_ ≤ al_) ∧ (0 ≤ S_.1 2 cc_ 15 ∧ S_.1 2 cc_ 15 ≤ f_) ∧ (shq S_) ∧ (cdf cc_ S0_ S_) ∧ True) → ((90000 - f_).toNat) < nn_ → sm_T (mt_P sc_) 6 179 (12, [some (.inr (.inr (some (9, 0)))), some (.inr (.inr (some (2, cc_)))), some (.inl al_), some (.inl f_), none], [], S_) (fun ro9_ => ∃ u_ S1_, ro9_ = (.inl u_, S1_, 0) ∧ vq_179p cc_ S0_ u_ S1_)) ∧ (∀ (al_ : Int) (f_ : Int) (S_ : sm_S), gi S_ → ai_fr (sx_W vw_179p) S0_ S_ → ((0 ≤ al_ ∧ al_ ≤ 1224 ∧ 0 ≤ f_ ∧ f_ ≤ al_) ∧ (0 ≤ S_.1 2 cc_ 15 ∧ S_.1 2 cc_ 15 ≤ 1224) ∧ (shq S_) ∧ (cdf cc_ S0_ S_) ∧ True) → ((60000 - f_).toNat) < nn_ → sm_T (mt_P sc_) 6 179 (69, [some (.inr (.inr (some (9, 0)))), some (.inr (.inr (some (2, cc_)))), some (.inl al_), some (.inl f_), none], [], S_) (fun ro9_ => ∃ u_ S1_, ro9_ = (.inl u_, S1_, 0) ∧ vq_179p cc_ S0_ u_ S1_)) ∧ (∀ (al_ : Int) (k_ : Int) (S_ : sm_S), gi S_ → ai_fr (sx_W vw_179p) S0_ S_ → ((0 ≤ al_ ∧ al_ ≤ 1224 ∧ -1 ≤ k_ ∧ k_ < S_.1 2 cc_ 15 ∧ S_.1 2 cc_ 15 ≤ 1224) ∧ (shq S_) ∧ (cdf cc_ S0_ S_) ∧ True) → ((k_ + 5).toNat) < nn_ → sm_T (mt_P sc_) 6 179 (99, [some (.inr (.inr (some (9, 0)))), some (.inr (.inr (some (2, cc_)))), some (.inl al_), some (.inl k_), none], [], S_) (fun ro9_ => ∃ u_ S1_, ro9_ = (.inl u_, S1_, 0) ∧ vq_179p cc_ S0_ u_ S1_)) := by
  intro nn_
  induction nn_ with
  | zero => exact ⟨fun _ _ _ _ _ _ h_ => absurd h_ (Nat.not_lt_zero _), fun _ _ _ _ _ _ h_ => absurd h_ (Nat.not_lt_zero _), fun _ _ _ _ _ _ h_ => absurd h_ (Nat.not_lt_zero _)⟩
  | succ nn_ ih_ =>
    refine ⟨?_, ?_, ?_⟩
    · rintro al_ f_ S_ hI_ hF_ ⟨h0_, h5_, hn1_, hC_, -⟩ hm_
      have z1_ : S_.1 2 cc_ 1 = S0_.1 2 cc_ 1 := hF_.1 2 cc_ 1 rfl
      have z2_ : S_.1 2 cc_ 2 = S0_.1 2 cc_ 2 := hF_.1 2 cc_ 2 rfl
      refine sm_T_go 2 (c1 := (14, [some (.inr (.inr (some (9, 0)))), some (.inr (.inr (some (2, cc_)))), some (.inl al_), some (.inl f_), none], [.inl al_, .inl f_], S_)) rfl ?_
      refine sm_T_br (a := 3) (z := 53) rfl (fun cx1_ => ?_) (fun cx1_ => ?_)
      · have cx1_ : al_ ≤ f_ := of_decide_eq_true cx1_
        refine sm_T_go 2 (c1 := (69, [some (.inr (.inr (some (9, 0)))), some (.inr (.inr (some (2, cc_)))), some (.inl al_), some (.inl 0), none], [], S_)) rfl ?_
        refine ih_.2.1 al_ 0 S_ hI_ hF_ ⟨?_, ?_, ?_, ?_, trivial⟩ ?_
        · omega
        · omega
        · exact hn1_
        · exact hC_
        · omega
      · have cx1_ : ¬ (al_ ≤ f_) := of_decide_eq_false cx1_
        refine sm_T_go 3 (c1 := (20, [some (.inr (.inr (some (9, 0)))), some (.inr (.inr (some (2, cc_)))), some (.inl al_), some (.inl f_), none], [.inl f_, .inr (.inr (some (2, cc_))), .inr (.inr (some (9, 0)))], S_)) rfl ?_
        refine sm_T_cal (d1 := 5) (Q1 := vq_177p f_ cc_ S_) rfl rfl (by decide) (vc_177p f_ cc_ S_ hI_ (by omega) (by omega) (by first | exact hn1_ | exact hn_)) (fun u_ Sx2_ px5_ => ?_)
        obtain ⟨vx7_, rfl, hIx3_, hFx4_, px5_⟩ := px5_
        have hFx6_ : ai_fr (sx_W vw_179p) S0_ Sx2_ := ai_fr_tr hF_ (fr_le hFx4_ rfl)
        have hCx8_ : cdf cc_ S0_ Sx2_ := cdf_tr hC_ (cdf_fr hFx4_ rfl)
        have p20_ := px5_
        have s20_ := hFx4_.1 2 cc_ 15 rfl
        refine sm_T_go 3 (c1 := (28, [some (.inr (.inr (some (9, 0)))), some (.inr (.inr (some (2, cc_)))), some (.inl al_), some (.inl f_), some (.inl vx7_)], [.inl (-1), .inl vx7_], Sx2_)) rfl ?_
        refine sm_T_br (a := 0) (z := 33) rfl (fun cx9_ => ?_) (fun cx9_ => ?_)
        · have cx9_ : vx7_ = (-1) := of_decide_eq_true cx9_
          refine sm_T_inc (a := 3) (z := 1) (v := f_) (w := f_ + 1) rfl rfl (by omega) (by omega) (by omega) ?_ -- pc_ 61
          refine sm_T_go 1 (c1 := (12, [some (.inr (.inr (some (9, 0)))), some (.inr (.inr (some (2, cc_)))), some (.inl al_), some (.inl (f_ + 1)), some (.inl vx7_)], [], Sx2_)) rfl ?_
          refine sm_T_wk [some (.inr (.inr (some (9, 0)))), some (.inr (.inr (some (2, cc_)))), some (.inl al_), some (.inl (f_ + 1)), none] (by exact ⟨rfl, rfl, rfl, rfl, trivial⟩) ?_
          refine ih_.1 al_ (f_ + 1) Sx2_ hIx3_ hFx6_ ⟨?_, ?_, ?_, ?_, trivial⟩ ?_
          · omega
          · (first | omega | (rw [rf_eq]; omega))
          · first | exact p20_.2 | exact shq_fr (w_ := ([(2, 15)], [40], [])) p20_.2 (ai_fr_tr (ai_fr_aI rfl) (ai_fr_pI rfl))
          · exact hCx8_
          · omega
        · have cx9_ : ¬ (vx7_ = (-1)) := of_decide_eq_false cx9_
          refine sm_T_go 3 (c1 := (34, [some (.inr (.inr (some (9, 0)))), some (.inr (.inr (some (2, cc_)))), some (.inl al_), some (.inl f_), some (.inl vx7_)], [.inl f_, .inr (.inr (some (2, cc_))), .inr (.inr (some (9, 0)))], Sx2_)) rfl ?_
          refine sm_T_cal (d1 := 1) (Q1 := vq_180 f_ cc_ Sx2_) rfl rfl (by decide) (vc_180 f_ cc_ Sx2_ hIx3_ (by omega)) (fun u_ Sx10_ px13_ => ?_)
          obtain ⟨rfl, vx15_, rfl, px13_⟩ := px13_
          have q34_ := px13_
          refine sm_T_b0 (a := 1) (z := 24) rfl (fun cx16_ => ?_) (fun cx16_ => ?_)
          · have cx16_ : vx15_ ≠ 0 := of_decide_eq_true cx16_
            refine sm_T_inc (a := 3) (z := 1) (v := f_) (w := f_ + 1) rfl rfl (by omega) (by omega) (by omega) ?_ -- pc_ 61
            refine sm_T_go 1 (c1 := (12, [some (.inr (.inr (some (9, 0)))), some (.inr (.inr (some (2, cc_)))), some (.inl al_), some (.inl (f_ + 1)), some (.inl vx7_)], [], Sx2_)) rfl ?_
            refine sm_T_wk [some (.inr (.inr (some (9, 0)))), some (.inr (.inr (some (2, cc_)))), some (.inl al_), some (.inl (f_ + 1)), none] (by exact ⟨rfl, rfl, rfl, rfl, trivial⟩) ?_
            refine ih_.1 al_ (f_ + 1) Sx2_ hIx3_ hFx6_ ⟨?_, ?_, ?_, ?_, trivial⟩ ?_
            · omega
            · (first | omega | (rw [rf_eq]; omega))
            · first | exact p20_.2 | exact shq_fr (w_ := ([(2, 15)], [40], [])) p20_.2 (ai_fr_tr (ai_fr_aI rfl) (ai_fr_pI rfl))
            · exact hCx8_
            · omega
          · have cx16_ : ¬ (vx15_ ≠ 0) := of_decide_eq_false cx16_
            have bx17_ : (-1) ≤ Sx2_.1 2 cc_ 15 ∧ Sx2_.1 2 cc_ 15 ≤ 1224 := hIx3_.1 2 cc_ 15 rfl
            refine sm_T_go 5 (c1 := (50, [some (.inr (.inr (some (9, 0)))), some (.inr (.inr (some (2, cc_)))), some (.inl al_), some (.inl f_), some (.inl vx7_)], [.inl vx7_, .inl (Sx2_.1 2 cc_ 15), .inr (.inr (some (40, (0 + cc_))))], Sx2_)) rfl ?_
            refine sm_T_iast (n := 1224) rfl rfl (by omega) (by omega) ?_
            have hIx18_ : gi (sm_aI Sx2_ 40 (0 + cc_) (Sx2_.1 2 cc_ 15).toNat vx7_) := gi_aI hIx3_ (show 0 ≤ vx7_ ∧ vx7_ ≤ 4095 from ⟨by omega, by omega⟩)
            have hFx19_ : ai_fr (sx_W vw_179p) S0_ (sm_aI Sx2_ 40 (0 + cc_) (Sx2_.1 2 cc_ 15).toNat vx7_) := ai_fr_tr hFx6_ (ai_fr_aI rfl)
            have hCx20_ : cdf cc_ S0_ (sm_aI Sx2_ 40 (0 + cc_) (Sx2_.1 2 cc_ 15).toNat vx7_) := cdf_aI hCx8_ (Or.inr (by rw [show cof 40 = 0 from rfl] <;> omega))
            refine sm_T_go 4 (c1 := (57, [some (.inr (.inr (some (9, 0)))), some (.inr (.inr (some (2, cc_)))), some (.inl al_), some (.inl f_), some (.inl vx7_)], [.inl 1, .inl (Sx2_.1 2 cc_ 15), .inr (.inr (some (2, cc_)))], sm_aI Sx2_ 40 (0 + cc_) (Sx2_.1 2 cc_ 15).toNat vx7_)) rfl ?_
            refine sm_T_bin (w := (Sx2_.1 2 cc_ 15) + 1) rfl (bi_add (by omega) (by omega) (by omega)) ?_ -- pc_ 57
            have hIx21_ : gi (sm_pI (sm_aI Sx2_ 40 (0 + cc_) (Sx2_.1 2 cc_ 15).toNat vx7_) 2 cc_ 15 ((Sx2_.1 2 cc_ 15) + 1)) := gi_pI hIx18_ (show (-1) ≤ (Sx2_.1 2 cc_ 15) + 1 ∧ (Sx2_.1 2 cc_ 15) + 1 ≤ 1224 from ⟨by omega, by omega⟩)
            have hFx22_ : ai_fr (sx_W vw_179p) S0_ (sm_pI (sm_aI Sx2_ 40 (0 + cc_) (Sx2_.1 2 cc_ 15).toNat vx7_) 2 cc_ 15 ((Sx2_.1 2 cc_ 15) + 1)) := ai_fr_tr hFx19_ (ai_fr_pI rfl)
            have hCx23_ : cdf cc_ S0_ (sm_pI (sm_aI Sx2_ 40 (0 + cc_) (Sx2_.1 2 cc_ 15).toNat vx7_) 2 cc_ 15 ((Sx2_.1 2 cc_ 15) + 1)) := cdf_pI hCx20_ (Or.inr (by rw [show cof 2 = 0 from rfl] <;> omega))
            refine sm_T_go 1 (c1 := (61, [some (.inr (.inr (some (9, 0)))), some (.inr (.inr (some (2, cc_)))), some (.inl al_), some (.inl f_), some (.inl vx7_)], [], sm_pI (sm_aI Sx2_ 40 (0 + cc_) (Sx2_.1 2 cc_ 15).toNat vx7_) 2 cc_ 15 ((Sx2_.1 2 cc_ 15) + 1))) rfl ?_
            refine sm_T_inc (a := 3) (z := 1) (v := f_) (w := f_ + 1) rfl rfl (by omega) (by omega) (by omega) ?_ -- pc_ 61
            refine sm_T_go 1 (c1 := (12, [some (.inr (.inr (some (9, 0)))), some (.inr (.inr (some (2, cc_)))), some (.inl al_), some (.inl (f_ + 1)), some (.inl vx7_)], [], sm_pI (sm_aI Sx2_ 40 (0 + cc_) (Sx2_.1 2 cc_ 15).toNat vx7_) 2 cc_ 15 ((Sx2_.1 2 cc_ 15) + 1))) rfl ?_
            refine sm_T_wk [some (.inr (.inr (some (9, 0)))), some (.inr (.inr (some (2, cc_)))), some (.inl al_), some (.inl (f_ + 1)), none] (by exact ⟨rfl, rfl, rfl, rfl, trivial⟩) ?_
            refine ih_.1 al_ (f_ + 1) (sm_pI (sm_aI Sx2_ 40 (0 + cc_) (Sx2_.1 2 cc_ 15).toNat vx7_) 2 cc_ 15 ((Sx2_.1 2 cc_ 15) + 1)) hIx21_ hFx22_ ⟨?_, ?_, ?_, ?_, trivial⟩ ?_
            · omega
            · (first | omega | (rw [rf_eq]; omega))
            · first | exact p20_.2 | exact shq_fr (w_ := ([(2, 15)], [40], [])) p20_.2 (ai_fr_tr (ai_fr_aI rfl) (ai_fr_pI rfl))
            · exact hCx23_
            · omega
    · rintro al_ f_ S_ hI_ hF_ ⟨h0_, h5_, hn1_, hC_, -⟩ hm_
      have z1_ : S_.1 2 cc_ 1 = S0_.1 2 cc_ 1 := hF_.1 2 cc_ 1 rfl
      have z2_ : S_.1 2 cc_ 2 = S0_.1 2 cc_ 2 := hF_.1 2 cc_ 2 rfl
      refine sm_T_go 2 (c1 := (71, [some (.inr (.inr (some (9, 0)))), some (.inr (.inr (some (2, cc_)))), some (.inl al_), some (.inl f_), none], [.inl al_, .inl f_], S_)) rfl ?_
      refine sm_T_br (a := 3) (z := 21) rfl (fun cx1_ => ?_) (fun cx1_ => ?_)
      · have cx1_ : al_ ≤ f_ := of_decide_eq_true cx1_
        have bx2_ : (-1) ≤ S_.1 2 cc_ 15 ∧ S_.1 2 cc_ 15 ≤ 1224 := hI_.1 2 cc_ 15 rfl
        refine sm_T_go 3 (c1 := (97, [some (.inr (.inr (some (9, 0)))), some (.inr (.inr (some (2, cc_)))), some (.inl al_), some (.inl f_), none], [.inl 1, .inl (S_.1 2 cc_ 15)], S_)) rfl ?_
        refine sm_T_bin (w := (S_.1 2 cc_ 15) - 1) rfl (bi_sub (by omega) (by omega) (by omega)) ?_ -- pc_ 97
        refine sm_T_go 1 (c1 := (99, [some (.inr (.inr (some (9, 0)))), some (.inr (.inr (some (2, cc_)))), some (.inl al_), some (.inl ((S_.1 2 cc_ 15) - 1)), none], [], S_)) rfl ?_
        refine ih_.2.2 al_ ((S_.1 2 cc_ 15) - 1) S_ hI_ hF_ ⟨?_, ?_, ?_, trivial⟩ ?_
        · omega
        · exact hn1_
        · exact hC_
        · omega
      · have cx1_ : ¬ (al_ ≤ f_) := of_decide_eq_false cx1_
        refine sm_T_go 6 (c1 := (82, [some (.inr (.inr (some (9, 0)))), some (.inr (.inr (some (2, cc_)))), some (.inl al_), some (.inl f_), none], [.inl f_, .inr (.inr (some (2, cc_))), .inr (.inr (some (9, 0))), .inl f_, .inr (.inr (some (97, 0)))], S_)) rfl ?_
        refine sm_T_cal (d1 := 1) (Q1 := vq_180 f_ cc_ S_) rfl rfl (by decide) (vc_180 f_ cc_ S_ hI_ (by omega)) (fun u_ Sx3_ px6_ => ?_)
        obtain ⟨rfl, vx8_, rfl, px6_⟩ := px6_
        have q82_ := px6_
        refine sm_T_iast (n := 1224) rfl rfl (by omega) (by omega) ?_
        have hIx9_ : gi (sm_aI S_ 97 0 f_.toNat vx8_) := gi_aI hI_ (show (-2147483648) ≤ vx8_ ∧ vx8_ ≤ 2147483647 from ⟨by omega, by omega⟩)
        have hFx10_ : ai_fr (sx_W vw_179p) S0_ (sm_aI S_ 97 0 f_.toNat vx8_) := ai_fr_tr hF_ (ai_fr_aI rfl)
        have hCx11_ : cdf cc_ S0_ (sm_aI S_ 97 0 f_.toNat vx8_) := cdf_aI hC_ (Or.inl rfl)
        refine sm_T_inc (a := 3) (z := 1) (v := f_) (w := f_ + 1) rfl rfl (by omega) (by omega) (by omega) ?_ -- pc_ 86
        refine sm_T_go 1 (c1 := (69, [some (.inr (.inr (some (9, 0)))), some (.inr (.inr (some (2, cc_)))), some (.inl al_), some (.inl (f_ + 1)), none], [], sm_aI S_ 97 0 f_.toNat vx8_)) rfl ?_
        refine ih_.2.1 al_ (f_ + 1) (sm_aI S_ 97 0 f_.toNat vx8_) hIx9_ hFx10_ ⟨?_, ?_, ?_, ?_, trivial⟩ ?_
        · omega
        · (simp only [rd_af]; omega)
        · exact hn1_
        · exact hCx11_
        · omega
    · rintro al_ k_ S_ hI_ hF_ ⟨h0_, hn1_, hC_, -⟩ hm_
      have z1_ : S_.1 2 cc_ 1 = S0_.1 2 cc_ 1 := hF_.1 2 cc_ 1 rfl
      have z2_ : S_.1 2 cc_ 2 = S0_.1 2 cc_ 2 := hF_.1 2 cc_ 2 rfl
      refine sm_T_go 1 (c1 := (100, [some (.inr (.inr (some (9, 0)))), some (.inr (.inr (some (2, cc_)))), some (.inl al_), some (.inl k_), none], [.inl k_], S_)) rfl ?_
      refine sm_T_b0 (a := 2) (z := 30) rfl (fun cx1_ => ?_) (fun cx1_ => ?_)
      · have cx1_ : k_ < 0 := of_decide_eq_true cx1_
        refine sm_T_go 3 (c1 := (135, [some (.inr (.inr (some (9, 0)))), some (.inr (.inr (some (2, cc_)))), some (.inl al_), some (.inl k_), none], [.inl 0, .inr (.inr (some (41, (0 + cc_))))], S_)) rfl ?_
        refine sm_T_cal (d1 := 0) (Q1 := vq_2f1 0 cc_ S_) rfl rfl (by decide) (vc_2f1 0 cc_ S_ hI_ (by decide)) (fun u_ Sx2_ px5_ => ?_)
        obtain ⟨rfl, hIx3_, hFx4_, px5_⟩ := px5_
        have hFx6_ : ai_fr (sx_W vw_179p) S0_ Sx2_ := ai_fr_tr hF_ (fr_le hFx4_ rfl)
        obtain ⟨dx8_, px5_⟩ := px5_
        have hCx7_ : cdf cc_ S0_ Sx2_ := cdf_tr hC_ (cdf_cg (by omega) dx8_)
        have n135_ := shq_fr hn1_ hFx4_
        refine sm_T_rv rfl ⟨_, _, rfl, rfl, hIx3_, hFx6_, ?_⟩
        refine ⟨hCx7_, ?_⟩
        exact n135_
      · have cx1_ : ¬ (k_ < 0) := of_decide_eq_false cx1_
        refine sm_T_go 4 (c1 := (109, [some (.inr (.inr (some (9, 0)))), some (.inr (.inr (some (2, cc_)))), some (.inl al_), some (.inl k_), none], [.inl k_, .inr (.inr (some (40, (0 + cc_)))), .inr (.inr (some (9, 0)))], S_)) rfl ?_
        refine sm_T_iald (n := 1224) rfl rfl (by omega) (by omega) ?_
        have bx9_ : 0 ≤ S_.2.2.1 40 (0 + cc_) k_.toNat ∧ S_.2.2.1 40 (0 + cc_) k_.toNat ≤ 4095 := hI_.2 40 (0 + cc_) _
        refine sm_T_go 1 (c1 := (111, [some (.inr (.inr (some (9, 0)))), some (.inr (.inr (some (2, cc_)))), some (.inl al_), some (.inl k_), none], [.inl al_, .inl (S_.2.2.1 40 (0 + cc_) k_.toNat), .inr (.inr (some (9, 0)))], S_)) rfl ?_
        refine sm_T_cal (d1 := 1) (Q1 := vq_181 (S_.2.2.1 40 (0 + cc_) k_.toNat) al_ S_) rfl rfl (by decide) (vc_181 (S_.2.2.1 40 (0 + cc_) k_.toNat) al_ S_ hI_ (by omega) (by omega)) (fun u_ Sx10_ px13_ => ?_)
        obtain ⟨rfl, vx15_, rfl, px13_⟩ := px13_
        have i111_ := px13_
        refine sm_T_b0 (a := 0) (z := 10) rfl (fun cx16_ => ?_) (fun cx16_ => ?_)
        · have cx16_ : vx15_ = 0 := of_decide_eq_true cx16_
          refine sm_T_inc (a := 3) (z := (-1)) (v := k_) (w := k_ - 1) rfl rfl (by omega) (by omega) (by omega) ?_ -- pc_ 124
          refine sm_T_go 1 (c1 := (99, [some (.inr (.inr (some (9, 0)))), some (.inr (.inr (some (2, cc_)))), some (.inl al_), some (.inl (k_ - 1)), none], [], S_)) rfl ?_
          refine ih_.2.2 al_ (k_ - 1) S_ hI_ hF_ ⟨?_, ?_, ?_, trivial⟩ ?_
          · omega
          · first | exact hn1_ | exact n121_
          · exact hC_
          · omega
        · have cx16_ : ¬ (vx15_ = 0) := of_decide_eq_false cx16_
          refine sm_T_go 4 (c1 := (121, [some (.inr (.inr (some (9, 0)))), some (.inr (.inr (some (2, cc_)))), some (.inl al_), some (.inl k_), none], [.inl al_, .inl k_, .inr (.inr (some (2, cc_))), .inr (.inr (some (9, 0)))], S_)) rfl ?_
          refine sm_T_cal (d1 := 1) (Q1 := vq_182 k_ al_ cc_ S_) rfl rfl (by decide) (vc_182 k_ al_ cc_ S_ hI_ (by omega) (by omega)) (fun u_ Sx17_ px20_ => ?_)
          obtain ⟨rfl, hIx18_, hFx19_, px20_⟩ := px20_
          have hFx21_ : ai_fr (sx_W vw_179p) S0_ Sx17_ := ai_fr_tr hF_ (fr_le hFx19_ rfl)
          obtain ⟨dx23_, px20_⟩ := px20_
          have hCx22_ : cdf cc_ S0_ Sx17_ := cdf_tr hC_ (cdf_cg (by omega) dx23_)
          have r121_ := px20_
          have n121_ := shq_fr hn1_ hFx19_
          refine sm_T_inc (a := 3) (z := (-1)) (v := k_) (w := k_ - 1) rfl rfl (by omega) (by omega) (by omega) ?_ -- pc_ 124
          refine sm_T_go 1 (c1 := (99, [some (.inr (.inr (some (9, 0)))), some (.inr (.inr (some (2, cc_)))), some (.inl al_), some (.inl (k_ - 1)), none], [], Sx17_)) rfl ?_
          refine ih_.2.2 al_ (k_ - 1) Sx17_ hIx18_ hFx21_ ⟨?_, ?_, ?_, trivial⟩ ?_
          · omega
          · first | exact hn1_ | exact n121_
          · exact hCx22_
          · omega
set_option maxHeartbeats 400000 in
theorem vc_179p {sc_ : Nat × (Nat → Int)} (cc_ : Nat) (S0_ : sm_S) (hI_ : gi S0_) (hs_ : S0_.1 2 cc_ 1 + S0_.1 2 cc_ 2 ≤ 12) (hn_ : shq S0_) : sm_T (mt_P sc_) 6 179 (0, [some (.inr (.inr (some (9, 0)))), some (.inr (.inr (some (2, cc_)))), none, none, none], [], S0_) (fun ro9_ => ∃ u_ S1_, ro9_ = (.inl u_, S1_, 0) ∧ vq_179p cc_ S0_ u_ S1_) := by
  have hF_ : ai_fr (sx_W vw_179p) S0_ S0_ := ai_fr_rf
  have hC_ : cdf cc_ S0_ S0_ := cdf_rf
  have hIx1_ : gi (sm_pI S0_ 2 cc_ 15 0) := gi_pI hI_ (show (-1) ≤ 0 ∧ 0 ≤ 1224 from ⟨by omega, by omega⟩)
  have hFx2_ : ai_fr (sx_W vw_179p) S0_ (sm_pI S0_ 2 cc_ 15 0) := ai_fr_tr hF_ (ai_fr_pI rfl)
  have hCx3_ : cdf cc_ S0_ (sm_pI S0_ 2 cc_ 15 0) := cdf_pI hC_ (Or.inr (by rw [show cof 2 = 0 from rfl] <;> omega))
  refine sm_T_go 4 (c1 := (6, [some (.inr (.inr (some (9, 0)))), some (.inr (.inr (some (2, cc_)))), none, none, none], [.inr (.inr (some (2, cc_)))], sm_pI S0_ 2 cc_ 15 0)) rfl ?_
  refine sm_T_cal (d1 := 1) (Q1 := vq_62 cc_ (sm_pI S0_ 2 cc_ 15 0)) rfl rfl (by decide) (vc_62 cc_ (sm_pI S0_ 2 cc_ 15 0) hIx1_ (by (simp only [rf_nk, ne_eq, Nat.reduceEqDiff, not_false_eq_true]; exact hs_))) (fun u_ Sx4_ px7_ => ?_)
  obtain ⟨rfl, vx9_, rfl, px7_⟩ := px7_
  have fc6_ := px7_
  refine sm_T_go 3 (c1 := (12, [some (.inr (.inr (some (9, 0)))), some (.inr (.inr (some (2, cc_)))), some (.inl vx9_), some (.inl 0), none], [], sm_pI S0_ 2 cc_ 15 0)) rfl ?_
  refine (vl_179p cc_ S0_ hs_ hn_ _).1 vx9_ 0 (sm_pI S0_ 2 cc_ 15 0) hIx1_ hFx2_ ⟨?_, ?_, ?_, ?_, trivial⟩ (Nat.lt_succ_self _)
  · omega
  · (rw [rf_eq]; omega)
  · exact shq_fr (w_ := ([(2, 15)], [], [])) hn_ (ai_fr_pI rfl)
  · exact hCx3_
