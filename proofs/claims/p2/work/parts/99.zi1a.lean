/-! the reference: rows of values; written by wip/p55/gen/vg -/

/-! the_ reference's graph as_ it_ stands -/
def rgr (F_ : Nat) (S_ : sm_S) : Prop := (S_.1 13 0 38 = (F_ : Int) ∧ (1 ≤ F_ ∧ F_ ≤ 13)) ∧ ((F_ : Int) ≤ S_.1 13 0 37 ∧ S_.1 13 0 37 ≤ F_ + 1000) ∧ ∀ n_ : Nat, F_ ≤ n_ → (n_ : Int) < S_.1 13 0 37 → 2 ≤ S_.2.2.1 140 0 n_ ∧ S_.2.2.1 140 0 n_ < S_.2.2.1 141 0 n_ ∧ S_.2.2.1 141 0 n_ < 2 * (n_ : Int)
theorem rgr_fr {w_ : sx_Wl} {F_ : Nat} {S_ S'_ : sm_S} (h_ : rgr F_ S_) (g_ : ai_fr (sx_W w_) S_ S'_) (h1_ : (sx_W w_).1 13 38 = false) (h2_ : (sx_W w_).1 13 37 = false) (h4_ : (sx_W w_).2.1 140 = false) (h5_ : (sx_W w_).2.1 141 = false) : rgr F_ S'_ := by
  unfold rgr
  rw [g_.1 13 0 38 h1_, g_.1 13 0 37 h2_, fr_arr (t := 140) g_ h4_, fr_arr (t := 141) g_ h5_]
  exact h_
theorem rgl_rgr {F_ : Nat} {G_ : pGr} {S_ : sm_S} (h_ : rgl F_ G_ S_) (hw_ : gwf F_ G_) (hl_ : G_.length ≤ 1000) : rgr F_ S_ := by
  obtain ⟨G1_, x_, y_⟩ := h_
  have e_ : G1_ = G_ := by
    rcases y_ with y_ | y_
    · exact y_.2
    · omega
  rw [e_] at x_
  obtain ⟨x1_, x2_, x3_, x4_, x5_, -, -⟩ := x_
  refine ⟨⟨x1_, x2_⟩, by rw [x3_]; push_cast; omega, fun n_ hn_ hN_ => ?_⟩
  rw [x3_] at hN_
  have l_ : n_ - F_ < G_.length := by omega
  have e_ := List.getElem?_eq_getElem l_
  have q_ := x5_ (n_ - F_) G_[n_ - F_].1 G_[n_ - F_].2 e_
  have w_ := hw_.2 (n_ - F_) G_[n_ - F_].1 G_[n_ - F_].2 e_
  rw [show F_ + (n_ - F_) = n_ by omega] at q_ w_
  rw [q_.1, q_.2]
  exact w_
theorem l3_m1 {x_ : Int} (h_ : lcn x_) : l_3 x_ (-1) = x_ := by
  unfold l_3
  rw [show Int64.ofInt (-1) = -1 from rfl, Int64.and_neg_one]
  exact h_
theorem srw_cg {F_ n_ : Nat} {mk_ : Int} {lo_ hi_ R_ Q_ : Nat → Int} (hg_ : F_ ≤ n_ → 2 ≤ lo_ n_ ∧ lo_ n_ < hi_ n_ ∧ hi_ n_ < 2 * (n_ : Int)) (h_ : srw F_ n_ 64 mk_ lo_ hi_ R_) (e_ : ∀ k_, k_ < 64 * (n_ + 1) → Q_ k_ = R_ k_) : srw F_ n_ 64 mk_ lo_ hi_ Q_ := by
  intro j_ hj_
  have q_ := h_ j_ hj_
  rw [e_ _ (by omega)]
  refine ⟨q_.1, fun a_ => ?_, q_.2.2⟩
  have g_ := hg_ a_
  rw [wlt_cg (R_ := R_) (e_ _ (by omega)), wlt_cg (R_ := R_) (e_ _ (by omega))]
  exact q_.2.1 a_
theorem lcn_wlt {R_ : Nat → Int} {l_ : Int} {w_ : Nat} (h_ : lcn (R_ (64 * (l_ / 2).toNat + w_))) : lcn (wlt R_ l_ w_) := by
  unfold wlt
  split
  · exact h_
  · exact lcn_5
theorem lcn_c : lcn 0 ∧ lcn (-1) ∧ lcn (-6148914691236517206) ∧ lcn (-3689348814741910324) ∧ lcn (-1085102592571150096) ∧ lcn (-71777214294589696) ∧ lcn (-281470681808896) ∧ lcn (-4294967296) := by
  unfold lcn
  decide
/-! M_.function -/
def vw_351 : sx_Wl := ([], [], [])
def vq_351 (l_ : Int) (w_ : Int) (S0_ : sm_S) (u_ : Option sm_V) (S1_ : sm_S) : Prop := S0_ = S1_ ∧ ∃ v_ : Int, u_ = some (.inr (.inl v_)) ∧ (v_ = wlt (S0_.2.2.2 171 0) l_ w_.toNat)
set_option maxHeartbeats 400000 in
theorem vc_351 {sc_ : Nat × (Nat → Int)} (l_ : Int) (w_ : Int) (S0_ : sm_S) (hI_ : gi S0_) (hl_ : 0 ≤ l_ ∧ l_ ≤ 2047) (hw_ : 0 ≤ w_ ∧ w_ ≤ 63) : sm_T (mt_P sc_) 0 351 (0, [some (.inr (.inr (some (13, 0)))), some (.inl l_), some (.inl w_), none, none], [], S0_) (fun ro9_ => ∃ u_ S1_, ro9_ = (.inl u_, S1_, 0) ∧ vq_351 l_ w_ S0_ u_ S1_) := by
  have hF_ : ai_fr (sx_W vw_351) S0_ S0_ := ai_fr_rf
  refine sm_T_go 5 (c1 := (8, [some (.inr (.inr (some (13, 0)))), some (.inl l_), some (.inl w_), none, none], [.inl 1, .inl l_, .inl 64, .inr (.inr (some (171, 0)))], S0_)) rfl ?_
  refine sm_T_bin (w := (l_ / 2)) rfl (bi_shr (k := 1) (by decide) (by omega) (by omega)) ?_
  refine sm_T_bin (w := 64 * (l_ / 2)) rfl (bi_mul (by omega) (by omega) (by omega)) ?_
  refine sm_T_go 1 (c1 := (11, [some (.inr (.inr (some (13, 0)))), some (.inl l_), some (.inl w_), none, none], [.inl w_, .inl (64 * (l_ / 2)), .inr (.inr (some (171, 0)))], S0_)) rfl ?_
  refine sm_T_bin (w := 64 * (l_ / 2) + w_) rfl (bi_add (by omega) (by omega) (by omega)) ?_
  refine sm_T_lald (n := 131072) rfl rfl (by omega) (by omega) ?_
  refine sm_T_go 3 (c1 := (16, [some (.inr (.inr (some (13, 0)))), some (.inl l_), some (.inl w_), some (.inr (.inl (S0_.2.2.2 171 0 (64 * (l_ / 2) + w_).toNat))), none], [.inl 1, .inl l_], S0_)) rfl ?_
  refine sm_T_bin (w := (l_ % 2)) rfl (bi_msk (k := 1) (by decide)) ?_
  refine sm_T_go 1 (c1 := (18, [some (.inr (.inr (some (13, 0)))), some (.inl l_), some (.inl w_), some (.inr (.inl (S0_.2.2.2 171 0 (64 * (l_ / 2) + w_).toNat))), none], [.inl 1, .inl (l_ % 2)], S0_)) rfl ?_
  refine sm_T_br (a := 1) (z := 11) rfl (fun cx1_ => ?_) (fun cx1_ => ?_)
  · have cx1_ : (l_ % 2) ≠ 1 := of_decide_eq_true cx1_
    refine sm_T_go 1 (c1 := (30, [some (.inr (.inr (some (13, 0)))), some (.inl l_), some (.inl w_), some (.inr (.inl (S0_.2.2.2 171 0 (64 * (l_ / 2) + w_).toNat))), none], [.inr (.inl (S0_.2.2.2 171 0 (64 * (l_ / 2) + w_).toNat))], S0_)) rfl ?_
    refine sm_T_rl rfl ⟨_, _, rfl, rfl, _, rfl, ?_⟩
    unfold wlt
    rw [show 64 * (l_ / 2).toNat + w_.toNat = (64 * (l_ / 2) + w_).toNat by omega]
    first | rw [if_pos (by omega)] | rw [if_neg (by omega)]
  · have cx1_ : ¬ ((l_ % 2) ≠ 1) := of_decide_eq_false cx1_
    refine sm_T_go 1 (c1 := (22, [some (.inr (.inr (some (13, 0)))), some (.inl l_), some (.inl w_), some (.inr (.inl (S0_.2.2.2 171 0 (64 * (l_ / 2) + w_).toNat))), none], [.inr (.inl (S0_.2.2.2 171 0 (64 * (l_ / 2) + w_).toNat))], S0_)) rfl ?_
    refine sm_T_nt (u := some (.inr (.inl (-1)))) (S1 := S0_) rfl rfl rfl ?_
    refine sm_T_go 2 (c1 := (30, [some (.inr (.inr (some (13, 0)))), some (.inl l_), some (.inl w_), some (.inr (.inl (S0_.2.2.2 171 0 (64 * (l_ / 2) + w_).toNat))), none], [.inr (.inl (l_5 ((S0_.2.2.2 171 0 (64 * (l_ / 2) + w_).toNat)) (-1)))], S0_)) rfl ?_
    refine sm_T_rl rfl ⟨_, _, rfl, rfl, _, rfl, ?_⟩
    unfold wlt
    rw [show 64 * (l_ / 2).toNat + w_.toNat = (64 * (l_ / 2) + w_).toNat by omega]
    first | rw [if_pos (by omega)] | rw [if_neg (by omega)]
