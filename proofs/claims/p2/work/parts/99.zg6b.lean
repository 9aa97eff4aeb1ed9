/-! Builder.bitWord -/
def vw_49 : sx_Wl := ([], [], [])
def vq_49 (b_ : Int) (w_ : Int) (S0_ : sm_S) (u_ : Option sm_V) (S1_ : sm_S) : Prop := S0_ = S1_ ∧ ∃ v_ : Int, u_ = some (.inr (.inl v_)) ∧ (True)
set_option maxHeartbeats 400000 in
theorem vc_49 {sc_ : Nat × (Nat → Int)} (b_ : Int) (w_ : Int) (S0_ : sm_S) (hI_ : gi S0_) (hb_ : 0 ≤ b_ ∧ b_ ≤ 11) (hw_ : 0 ≤ w_ ∧ w_ ≤ 63) : sm_T (mt_P sc_) 0 49 (0, [some (.inl b_), some (.inl w_)], [], S0_) (fun ro9_ => ∃ u_ S1_, ro9_ = (.inl u_, S1_, 0) ∧ vq_49 b_ w_ S0_ u_ S1_) := by
  have hF_ : ai_fr (sx_W vw_49) S0_ S0_ := ai_fr_rf
  refine sm_T_go 2 (c1 := (3, [some (.inl b_), some (.inl w_)], [.inl 6, .inl b_], S0_)) rfl ?_
  refine sm_T_br (a := 3) (z := 9) rfl (fun cx1_ => ?_) (fun cx1_ => ?_)
  · have cx1_ : 6 ≤ b_ := of_decide_eq_true cx1_
    refine sm_T_go 3 (c1 := (16, [some (.inl b_), some (.inl w_)], [.inl 6, .inl b_, .inl w_], S0_)) rfl ?_
    refine sm_T_bin (w := b_ - 6) rfl (bi_sub (by omega) (by omega) (by omega)) ?_
    refine sm_T_bin (w := (i_shr w_ (b_ - 6))) rfl rfl ?_
    refine sm_T_go 1 (c1 := (19, [some (.inl b_), some (.inl w_)], [.inl 1, .inl (i_shr w_ (b_ - 6))], S0_)) rfl ?_
    refine sm_T_bin (w := ((i_shr w_ (b_ - 6)) % 2)) rfl (bi_msk (k := 1) (by decide)) ?_
    refine sm_T_b0 (a := 1) (z := 7) rfl (fun cx2_ => ?_) (fun cx2_ => ?_)
    · have cx2_ : ((i_shr w_ (b_ - 6)) % 2) ≠ 0 := of_decide_eq_true cx2_
      refine sm_T_nt (u := some (.inr (.inl (-1)))) (S1 := S0_) rfl rfl rfl ?_
      refine sm_T_rl rfl ⟨_, _, rfl, rfl, _, rfl, ?_⟩
      trivial
    · have cx2_ : ¬ (((i_shr w_ (b_ - 6)) % 2) ≠ 0) := of_decide_eq_false cx2_
      refine sm_T_go 2 (c1 := (30, [some (.inl b_), some (.inl w_)], [.inr (.inl 0)], S0_)) rfl ?_
      refine sm_T_rl rfl ⟨_, _, rfl, rfl, _, rfl, ?_⟩
      trivial
  · have cx1_ : ¬ (6 ≤ b_) := of_decide_eq_false cx1_
    refine sm_T_nt (u := some (.inr (.inr (some (298, 0))))) (S1 := S0_) rfl rfl rfl ?_
    refine sm_T_go 1 (c1 := (10, [some (.inl b_), some (.inl w_)], [.inl b_, .inr (.inr (some (298, 0)))], S0_)) rfl ?_
    refine sm_T_nt (u := some (.inr (.inl (st_at 2 b_)))) (S1 := S0_) rfl rfl (nt_stl (sc := sc_) (j := 2) (n := 6) (by decide) rfl rfl (by omega) (by omega)) ?_
    refine sm_T_rl rfl ⟨_, _, rfl, rfl, _, rfl, ?_⟩
    trivial

/-- how_ far_ a_ row_ is_ like the_ one_ that a_ place of_ the_ table holds -/
def flk (P_ : Nat → Prop) (W_ nd_ : Nat) (mk_ : Int) (u_ R_ : Nat → Int) (pl_ od_ tu_ lk_ w_ : Int) : Prop := ∃ m8_, P_ m8_ ∧ od_ = (m8_ : Int) ∧ u_ pl_.toNat = od_ ∧ ((tu_ = 0 ∧ l_3 (l_5 (R_ (64 * nd_)) (R_ (64 * m8_))) 1 = 0) ∨ (tu_ = mk_ ∧ l_3 (l_5 (R_ (64 * nd_)) (R_ (64 * m8_))) 1 ≠ 0)) ∧ imq (lk_ = 1) (∀ j9_, j9_ < w_.toNat → R_ (64 * nd_ + j9_) = l_5 (R_ (64 * m8_ + j9_)) tu_) ∧ imq (lk_ = 0) (∃ j9_, j9_ < W_ ∧ R_ (64 * nd_ + j9_) ≠ l_5 (R_ (64 * m8_ + j9_)) tu_)
