/-! 99.zl2a -/
section
/-! boxes of a board; written by wip/p55/gen/vg -/

/-! how_ many boxes each net_ has_ -/
def cg (g_ : Nat → Nat → Int) (c_ : Int) (w_ : Nat) : Nat → Nat
  | 0 => 0
  | y_ + 1 => cg g_ c_ w_ y_ + cne (g_ y_) c_ w_
theorem cg_s (g_ : Nat → Nat → Int) (c_ : Int) (w_ y_ : Nat) : cg g_ c_ w_ (y_ + 1) = cg g_ c_ w_ y_ + cne (g_ y_) c_ w_ := rfl
theorem cg_mo {g_ : Nat → Nat → Int} {c_ : Int} {w_ y_ : Nat} : ∀ {h_ : Nat}, y_ ≤ h_ → cg g_ c_ w_ y_ ≤ cg g_ c_ w_ h_
  | 0, q_ => by rw [show y_ = 0 by omega]; exact Nat.le_refl _
  | h_ + 1, q_ => by
    by_cases z_ : y_ = h_ + 1
    · rw [z_]; exact Nat.le_refl _
    · have a_ := cg_mo (g_ := g_) (c_ := c_) (w_ := w_) (y_ := y_) (h_ := h_) (by omega)
      rw [cg_s]; omega
theorem cg_le {g_ : Nat → Nat → Int} {c_ : Int} {w_ : Nat} : ∀ (y_ : Nat), cg g_ c_ w_ y_ ≤ y_ * w_
  | 0 => Nat.zero_le _
  | y_ + 1 => by
    have a_ := cg_le (g_ := g_) (c_ := c_) (w_ := w_) y_
    have b_ := cne_le (g_ y_) c_ w_
    rw [cg_s, Nat.add_mul, Nat.one_mul]; omega
theorem cg_st {g_ : Nat → Nat → Int} {c_ : Int} {w_ y_ x_ h_ : Nat} (hx_ : x_ < w_) (hy_ : y_ < h_) (e_ : g_ y_ x_ = c_) : cg g_ c_ w_ y_ + cne (g_ y_) c_ x_ + 1 ≤ cg g_ c_ w_ h_ := by
  have a_ := cg_mo (g_ := g_) (c_ := c_) (w_ := w_) (y_ := y_ + 1) (h_ := h_) hy_
  have b_ := cne_st (f := g_ y_) (c := c_) (j := x_) e_ (n := w_) hx_
  rw [cg_s] at a_
  omega
def gt0 (bb_ : Nat) (S_ : sm_S) (y_ x_ : Nat) : Int := tk0 (S_.2.2.1 22 (0 + bb_)) (S_.2.2.1 23 (0 + bb_)) (S_.1 0 bb_ 0 + 2) (y_ : Int) (x_ : Int)
def gt1 (bb_ : Nat) (S_ : sm_S) (x_ y_ : Nat) : Int := tk1 (S_.2.2.1 22 (0 + bb_)) (S_.2.2.1 23 (0 + bb_)) (S_.1 0 bb_ 2) (S_.1 0 bb_ 0) (x_ : Int) (y_ : Int)
def gt2 (bb_ : Nat) (S_ : sm_S) (y_ x_ : Nat) : Int := tk2 (S_.2.2.1 22 (0 + bb_)) (S_.2.2.1 23 (0 + bb_)) (S_.1 0 bb_ 0 + 2) (y_ : Int) (x_ : Int)
def gtw (bb_ : Nat) (S_ : sm_S) : Nat := (S_.1 0 bb_ 0 + 2).toNat
def gth (bb_ : Nat) (S_ : sm_S) : Nat := (S_.1 0 bb_ 2).toNat
def btot (bb_ : Nat) (S_ : sm_S) (c_ : Int) : Nat := cg (gt0 bb_ S_) c_ (gtw bb_ S_) (gth bb_ S_) + cg (gt1 bb_ S_) c_ (gth bb_ S_) (gtw bb_ S_) + cg (gt2 bb_ S_) c_ (gtw bb_ S_) (gth bb_ S_)
theorem tk0_b {o_ s_ : Nat → Int} {w_ y_ x_ : Int} (h_ : ∀ k_, -1 ≤ o_ k_ ∧ o_ k_ ≤ 161) : -1 ≤ tk0 o_ s_ w_ y_ x_ ∧ tk0 o_ s_ w_ y_ x_ ≤ 161 := by
  unfold tk0
  have a_ := h_ (y_ * w_ + x_).toNat
  split
  · omega
  · split <;> omega
theorem tk1_b {o_ s_ : Nat → Int} {h9_ w_ y_ x_ : Int} (h_ : ∀ k_, -1 ≤ o_ k_ ∧ o_ k_ ≤ 161) : -1 ≤ tk1 o_ s_ h9_ w_ x_ y_ ∧ tk1 o_ s_ h9_ w_ x_ y_ ≤ 161 := by
  unfold tk1
  have a_ := h_ ((h9_ + y_) * (w_ + 2) + x_).toNat
  split
  · omega
  · split <;> omega
/-- counts so_ far_: P_ of_ each net_ -/
def nbx (ii_ : Nat) (P_ : Int → Nat) (S0_ S_ : sm_S) : Prop := ∀ c_ : Nat, c_ < 162 → S_.2.2.1 49 (0 + ii_) c_ = S0_.2.2.1 49 (0 + ii_) c_ + (P_ (c_ : Int) : Int)
theorem nbx_st {ii_ : Nat} {P_ P'_ : Int → Nat} {S0_ S_ S'_ : sm_S} {t_ : Int} (h_ : nbx ii_ P_ S0_ S_) (g_ : nxb9 ii_ t_ S_ S'_) (e_ : ∀ c_ : Int, P'_ c_ = P_ c_ + if t_ = c_ then 1 else 0) : nbx ii_ P'_ S0_ S'_ := by
  intro c_ hc_
  rw [g_ c_, h_ c_ hc_, e_]
  split <;> (push_cast; omega)
theorem nbx_cg {ii_ : Nat} {P_ P'_ : Int → Nat} {S0_ S_ : sm_S} (h_ : nbx ii_ P_ S0_ S_) (e_ : ∀ c_ : Int, P'_ c_ = P_ c_) : nbx ii_ P'_ S0_ S_ := by
  intro c_ hc_
  rw [e_]
  exact h_ c_ hc_
theorem nbx_bd {ii_ : Nat} {P_ : Int → Nat} {S0_ S_ : sm_S} {t_ M_ : Int} {T_ : Int → Nat} (h_ : nbx ii_ P_ S0_ S_) (h0_ : 0 ≤ t_) (h1_ : t_ ≤ 161) (hT_ : ∀ c_ : Nat, c_ < 162 → S0_.2.2.1 49 (0 + ii_) c_ + (T_ (c_ : Int) : Int) ≤ M_) (hs_ : P_ t_ + 1 ≤ T_ t_) : S_.2.2.1 49 (0 + ii_) t_.toNat ≤ M_ - 1 := by
  have a_ := h_ t_.toNat (by omega)
  have b_ := hT_ t_.toNat (by omega)
  rw [show ((t_.toNat : Nat) : Int) = t_ by omega] at a_ b_
  omega
/-! Layout.scanBoard -/
def vw_73 : sx_Wl := ([], [48, 49], [])
def vq_73 (ii_ : Nat) (bb_ : Nat) (S0_ : sm_S) (u_ : Option sm_V) (S1_ : sm_S) : Prop := u_ = none ∧ gi S1_ ∧ ai_fr (sx_W vw_73) S0_ S1_ ∧ (cdf ii_ S0_ S1_ ∧ (nbx ii_ (btot bb_ S0_) S0_ S1_))
set_option maxHeartbeats 4000000 in
theorem vl_73 {sc_ : Nat × (Nat → Int)} (ii_ : Nat) (bb_ : Nat) (S0_ : sm_S) (hI0_ : gi S0_) (hst_ : bst bb_ S0_) (hT1_ : ∀ c_ : Nat, c_ < 162 → S0_.2.2.1 49 (0 + ii_) c_ + (btot bb_ S0_ (c_ : Int) : Int) ≤ 20000) (hT2_ : S0_.1 4 ii_ 11 ≠ 0 → ∀ c_ : Nat, c_ < 162 → S0_.2.2.1 49 (0 + ii_) c_ + (btot bb_ S0_ (c_ : Int) : Int) ≤ 2000) : ∀ nn_ : Nat, (∀ (w9_ : Int) (y_ : Int) (S_ : sm_S), gi S_ → ai_fr (sx_W vw_73) S0_ S_ → ((0 ≤ y_ ∧ y_ ≤ S0_.1 0 bb_ 2 ∧ w9_ = S0_.1 0 bb_ 0 + 2) ∧ (nbx ii_ (fun c9_ => cg (gt0 bb_ S0_) c9_ (gtw bb_ S0_) y_.toNat) S0_ S_) ∧ (cdf ii_ S0_ S_) ∧ True) → ((200000 + 100 * (100 - y_) + 99).toNat) < nn_ → sm_T (mt_P sc_) 3 73 (9, [some (.inr (.inr (some (4, ii_)))), some (.inr (.inr (some (0, bb_)))), some (.inl w9_), some (.inl y_), none, none], [], S_) (fun ro9_ => ∃ u_ S1_, ro9_ = (.inl u_, S1_, 0) ∧ vq_73 ii_ bb_ S0_ u_ S1_)) ∧ (∀ (w9_ : Int) (y_ : Int) (x_ : Int) (S_ : sm_S), gi S_ → ai_fr (sx_W vw_73) S0_ S_ → ((0 ≤ y_ ∧ y_ < S0_.1 0 bb_ 2 ∧ w9_ = S0_.1 0 bb_ 0 + 2 ∧ 0 ≤ x_ ∧ x_ ≤ w9_) ∧ (nbx ii_ (fun c9_ => cg (gt0 bb_ S0_) c9_ (gtw bb_ S0_) y_.toNat + cne (gt0 bb_ S0_ y_.toNat) c9_ x_.toNat) S0_ S_) ∧ (cdf ii_ S0_ S_) ∧ True) → ((200000 + 100 * (100 - y_) + 90 - x_).toNat) < nn_ → sm_T (mt_P sc_) 3 73 (20, [some (.inr (.inr (some (4, ii_)))), some (.inr (.inr (some (0, bb_)))), some (.inl w9_), some (.inl y_), some (.inl x_), none], [], S_) (fun ro9_ => ∃ u_ S1_, ro9_ = (.inl u_, S1_, 0) ∧ vq_73 ii_ bb_ S0_ u_ S1_)) ∧ (∀ (w9_ : Int) (x_ : Int) (S_ : sm_S), gi S_ → ai_fr (sx_W vw_73) S0_ S_ → ((0 ≤ x_ ∧ x_ ≤ w9_ ∧ w9_ = S0_.1 0 bb_ 0 + 2) ∧ (nbx ii_ (fun c9_ => cg (gt0 bb_ S0_) c9_ (gtw bb_ S0_) (gth bb_ S0_) + cg (gt1 bb_ S0_) c9_ (gth bb_ S0_) x_.toNat) S0_ S_) ∧ (cdf ii_ S0_ S_) ∧ True) → ((100000 + 100 * (100 - x_) + 99).toNat) < nn_ → sm_T (mt_P sc_) 3 73 (49, [some (.inr (.inr (some (4, ii_)))), some (.inr (.inr (some (0, bb_)))), some (.inl w9_), some (.inl x_), none, none], [], S_) (fun ro9_ => ∃ u_ S1_, ro9_ = (.inl u_, S1_, 0) ∧ vq_73 ii_ bb_ S0_ u_ S1_)) ∧ (∀ (w9_ : Int) (x_ : Int) (y_ : Int) (S_ : sm_S), gi S_ → ai_fr (sx_W vw_73) S0_ S_ → ((0 ≤ x_ ∧ x_ < w9_ ∧ w9_ = S0_.1 0 bb_ 0 + 2 ∧ 0 ≤ y_ ∧ y_ ≤ S0_.1 0 bb_ 2) ∧ (nbx ii_ (fun c9_ => cg (gt0 bb_ S0_) c9_ (gtw bb_ S0_) (gth bb_ S0_) + cg (gt1 bb_ S0_) c9_ (gth bb_ S0_) x_.toNat + cne (gt1 bb_ S0_ x_.toNat) c9_ y_.toNat) S0_ S_) ∧ (cdf ii_ S0_ S_) ∧ True) → ((100000 + 100 * (100 - x_) + 90 - y_).toNat) < nn_ → sm_T (mt_P sc_) 3 73 (57, [some (.inr (.inr (some (4, ii_)))), some (.inr (.inr (some (0, bb_)))), some (.inl w9_), some (.inl x_), some (.inl y_), none], [], S_) (fun ro9_ => ∃ u_ S1_, ro9_ = (.inl u_, S1_, 0) ∧ vq_73 ii_ bb_ S0_ u_ S1_)) ∧ (∀ (w9_ : Int) (y_ : Int) (S_ : sm_S), gi S_ → ai_fr (sx_W vw_73) S0_ S_ → ((0 ≤ y_ ∧ y_ ≤ S0_.1 0 bb_ 2 ∧ w9_ = S0_.1 0 bb_ 0 + 2) ∧ (nbx ii_ (fun c9_ => cg (gt0 bb_ S0_) c9_ (gtw bb_ S0_) (gth bb_ S0_) + cg (gt1 bb_ S0_) c9_ (gth bb_ S0_) (gtw bb_ S0_) + cg (gt2 bb_ S0_) c9_ (gtw bb_ S0_) y_.toNat) S0_ S_) ∧ (cdf ii_ S0_ S_) ∧ True) → ((100 * (100 - y_) + 99).toNat) < nn_ → sm_T (mt_P sc_) 3 73 (89, [some (.inr (.inr (some (4, ii_)))), some (.inr (.inr (some (0, bb_)))), some (.inl w9_), some (.inl y_), none, none], [], S_) (fun ro9_ => ∃ u_ S1_, ro9_ = (.inl u_, S1_, 0) ∧ vq_73 ii_ bb_ S0_ u_ S1_)) ∧ (∀ (w9_ : Int) (y_ : Int) (x_ : Int) (S_ : sm_S), gi S_ → ai_fr (sx_W vw_73) S0_ S_ → ((0 ≤ y_ ∧ y_ < S0_.1 0 bb_ 2 ∧ w9_ = S0_.1 0 bb_ 0 + 2 ∧ 0 ≤ x_ ∧ x_ ≤ w9_) ∧ (nbx ii_ (fun c9_ => cg (gt0 bb_ S0_) c9_ (gtw bb_ S0_) (gth bb_ S0_) + cg (gt1 bb_ S0_) c9_ (gth bb_ S0_) (gtw bb_ S0_) + cg (gt2 bb_ S0_) c9_ (gtw bb_ S0_) y_.toNat + cne (gt2 bb_ S0_ y_.toNat) c9_ x_.toNat) S0_ S_) ∧ (cdf ii_ S0_ S_) ∧ True) → ((100 * (100 - y_) + 90 - x_).toNat) < nn_ → sm_T (mt_P sc_) 3 73 (100, [some (.inr (.inr (some (4, ii_)))), some (.inr (.inr (some (0, bb_)))), some (.inl w9_), some (.inl y_), some (.inl x_), none], [], S_) (fun ro9_ => ∃ u_ S1_, ro9_ = (.inl u_, S1_, 0) ∧ vq_73 ii_ bb_ S0_ u_ S1_)) := by
  intro nn_
  induction nn_ with
  | zero => exact ⟨fun _ _ _ _ _ _ h_ => absurd h_ (Nat.not_lt_zero _), fun _ _ _ _ _ _ _ h_ => absurd h_ (Nat.not_lt_zero _), fun _ _ _ _ _ _ h_ => absurd h_ (Nat.not_lt_zero _), fun _ _ _ _ _ _ _ h_ => absurd h_ (Nat.not_lt_zero _), fun _ _ _ _ _ _ h_ => absurd h_ (Nat.not_lt_zero _), fun _ _ _ _ _ _ _ h_ => absurd h_ (Nat.not_lt_zero _)⟩
  | succ nn_ ih_ =>
    refine ⟨?_, ?_, ?_, ?_, ?_, ?_⟩
    · rintro w9_ y_ S_ hI_ hF_ ⟨h0_, hb_, hC_, -⟩ hm_
      have e22_ : S_.2.2.1 22 (0 + bb_) = S0_.2.2.1 22 (0 + bb_) := fr_arr hF_ rfl
      have e23_ : S_.2.2.1 23 (0 + bb_) = S0_.2.2.1 23 (0 + bb_) := fr_arr hF_ rfl
      have e0_ : S_.1 0 bb_ 0 = S0_.1 0 bb_ 0 := hF_.1 0 bb_ 0 rfl
      have e2_ : S_.1 0 bb_ 2 = S0_.1 0 bb_ 2 := hF_.1 0 bb_ 2 rfl
      have ew : S_.1 4 ii_ 11 = S0_.1 4 ii_ 11 := hF_.1 4 ii_ 11 rfl
      have cs_ : 0 ≤ S_.1 0 bb_ 0 ∧ S_.1 0 bb_ 0 ≤ 60 := hI_.1 0 bb_ 0 rfl
      have ch_ : 0 ≤ S_.1 0 bb_ 2 ∧ S_.1 0 bb_ 2 ≤ 38 := hI_.1 0 bb_ 2 rfl
      have bx1_ : 0 ≤ S_.1 0 bb_ 2 ∧ S_.1 0 bb_ 2 ≤ 38 := hI_.1 0 bb_ 2 rfl
      refine sm_T_go 3 (c1 := (14, [some (.inr (.inr (some (4, ii_)))), some (.inr (.inr (some (0, bb_)))), some (.inl w9_), some (.inl y_), none, none], [.inl (S_.1 0 bb_ 2), .inl y_], S_)) rfl ?_
      refine sm_T_br (a := 3) (z := 33) rfl (fun cx2_ => ?_) (fun cx2_ => ?_)
      · have cx2_ : (S_.1 0 bb_ 2) ≤ y_ := of_decide_eq_true cx2_
        refine sm_T_go 2 (c1 := (49, [some (.inr (.inr (some (4, ii_)))), some (.inr (.inr (some (0, bb_)))), some (.inl w9_), some (.inl 0), none, none], [], S_)) rfl ?_
        refine ih_.2.2.1 w9_ 0 S_ hI_ hF_ ⟨?_, ?_, ?_, trivial⟩ ?_
        · omega
        · refine nbx_cg hb_ (fun c9_ => ?_)
          rw [show y_.toNat = gth bb_ S0_ by (show _ = Int.toNat _; omega)]
          rfl
        · exact hC_
        · omega
      · have cx2_ : ¬ ((S_.1 0 bb_ 2) ≤ y_) := of_decide_eq_false cx2_
        refine sm_T_go 2 (c1 := (20, [some (.inr (.inr (some (4, ii_)))), some (.inr (.inr (some (0, bb_)))), some (.inl w9_), some (.inl y_), some (.inl 0), none], [], S_)) rfl ?_
        refine ih_.2.1 w9_ y_ 0 S_ hI_ hF_ ⟨?_, ?_, ?_, trivial⟩ ?_
        · omega
        · exact nbx_cg hb_ (fun c9_ => rfl)
        · exact hC_
        · omega
    · rintro w9_ y_ x_ S_ hI_ hF_ ⟨h0_, hb_, hC_, -⟩ hm_
      have e22_ : S_.2.2.1 22 (0 + bb_) = S0_.2.2.1 22 (0 + bb_) := fr_arr hF_ rfl
      have e23_ : S_.2.2.1 23 (0 + bb_) = S0_.2.2.1 23 (0 + bb_) := fr_arr hF_ rfl
      have e0_ : S_.1 0 bb_ 0 = S0_.1 0 bb_ 0 := hF_.1 0 bb_ 0 rfl
      have e2_ : S_.1 0 bb_ 2 = S0_.1 0 bb_ 2 := hF_.1 0 bb_ 2 rfl
      have ew : S_.1 4 ii_ 11 = S0_.1 4 ii_ 11 := hF_.1 4 ii_ 11 rfl
      have cs_ : 0 ≤ S_.1 0 bb_ 0 ∧ S_.1 0 bb_ 0 ≤ 60 := hI_.1 0 bb_ 0 rfl
      have ch_ : 0 ≤ S_.1 0 bb_ 2 ∧ S_.1 0 bb_ 2 ≤ 38 := hI_.1 0 bb_ 2 rfl
      refine sm_T_go 2 (c1 := (23, [some (.inr (.inr (some (4, ii_)))), some (.inr (.inr (some (0, bb_)))), some (.inl w9_), some (.inl y_), some (.inl x_), none], [.inl w9_, .inl x_], S_)) rfl ?_
      refine sm_T_br (a := 3) (z := 18) rfl (fun cx1_ => ?_) (fun cx1_ => ?_)
      · have cx1_ : w9_ ≤ x_ := of_decide_eq_true cx1_
        refine sm_T_inc (a := 3) (z := 1) (v := y_) (w := y_ + 1) rfl rfl (by omega) (by omega) (by omega) ?_ -- pc_ 41
        refine sm_T_go 1 (c1 := (9, [some (.inr (.inr (some (4, ii_)))), some (.inr (.inr (some (0, bb_)))), some (.inl w9_), some (.inl (y_ + 1)), some (.inl x_), none], [], S_)) rfl ?_
        refine sm_T_wk [some (.inr (.inr (some (4, ii_)))), some (.inr (.inr (some (0, bb_)))), some (.inl w9_), some (.inl (y_ + 1)), none, none] (by exact ⟨rfl, rfl, rfl, rfl, trivial⟩) ?_
        refine ih_.1 w9_ (y_ + 1) S_ hI_ hF_ ⟨?_, ?_, ?_, trivial⟩ ?_
        · omega
        · refine nbx_cg hb_ (fun c9_ => ?_)
          rw [show (y_ + 1).toNat = y_.toNat + 1 by omega, cg_s, show x_.toNat = gtw bb_ S0_ by (show _ = Int.toNat _; omega)]
        · exact hC_
        · omega
      · have cx1_ : ¬ (w9_ ≤ x_) := of_decide_eq_false cx1_
        have tb9_ := tk0_b (o_ := S0_.2.2.1 22 (0 + bb_)) (s_ := S0_.2.2.1 23 (0 + bb_)) (w_ := S0_.1 0 bb_ 0 + 2) (y_ := y_) (x_ := x_) (fun k9_ => hI0_.2 22 (0 + bb_) k9_)
        refine sm_T_go 5 (c1 := (32, [some (.inr (.inr (some (4, ii_)))), some (.inr (.inr (some (0, bb_)))), some (.inl w9_), some (.inl y_), some (.inl x_), none], [.inl y_, .inl x_, .inl 0, .inr (.inr (some (0, bb_))), .inr (.inr (some (4, ii_)))], S_)) rfl ?_
        refine sm_T_cal (d1 := 2) (Q1 := vq_74r x_ y_ ii_ bb_ S_) rfl rfl (by decide) (vc_74r x_ y_ ii_ bb_ S_ hI_ (by omega) (by omega) (by (rw [e22_, e23_, e0_, ew]; intro u9_ v9_; have z9_ := nbx_bd hb_ v9_ tb9_.2 (hT2_ u9_) (by have s9_ := cg_st (g_ := gt0 bb_ S0_) (w_ := gtw bb_ S0_) (y_ := y_.toNat) (x_ := x_.toNat) (h_ := gth bb_ S0_) (by show _ < Int.toNat _; omega) (by show _ < Int.toNat _; omega) (show gt0 bb_ S0_ y_.toNat x_.toNat = _ from by unfold gt0; rw [show ((y_.toNat : Nat) : Int) = y_ by omega, show ((x_.toNat : Nat) : Int) = x_ by omega]); unfold btot; (try dsimp only); omega); omega)) (by (rw [e22_, e23_, e0_]; intro v9_; have z9_ := nbx_bd hb_ v9_ tb9_.2 hT1_ (by have s9_ := cg_st (g_ := gt0 bb_ S0_) (w_ := gtw bb_ S0_) (y_ := y_.toNat) (x_ := x_.toNat) (h_ := gth bb_ S0_) (by show _ < Int.toNat _; omega) (by show _ < Int.toNat _; omega) (show gt0 bb_ S0_ y_.toNat x_.toNat = _ from by unfold gt0; rw [show ((y_.toNat : Nat) : Int) = y_ by omega, show ((x_.toNat : Nat) : Int) = x_ by omega]); unfold btot; (try dsimp only); omega); omega))) (fun u_ Sx2_ px5_ => ?_)
        obtain ⟨rfl, hIx3_, hFx4_, px5_⟩ := px5_
        have hFx6_ : ai_fr (sx_W vw_73) S0_ Sx2_ := ai_fr_tr hF_ (fr_le hFx4_ rfl)
        obtain ⟨dx8_, px5_⟩ := px5_
        have hCx7_ : cdf ii_ S0_ Sx2_ := cdf_tr hC_ (cdf_cg (by omega) dx8_)
        have n9_ := px5_
        rw [e22_, e23_, e0_] at n9_
        refine sm_T_inc (a := 4) (z := 1) (v := x_) (w := x_ + 1) rfl rfl (by omega) (by omega) (by omega) ?_ -- pc_ 35
        refine sm_T_go 1 (c1 := (20, [some (.inr (.inr (some (4, ii_)))), some (.inr (.inr (some (0, bb_)))), some (.inl w9_), some (.inl y_), some (.inl (x_ + 1)), none], [], Sx2_)) rfl ?_
        refine ih_.2.1 w9_ y_ (x_ + 1) Sx2_ hIx3_ hFx6_ ⟨?_, ?_, ?_, trivial⟩ ?_
        · omega
        · refine nbx_st hb_ n9_ (fun c9_ => ?_)
          rw [show (x_ + 1).toNat = x_.toNat + 1 by omega, cne_s]
          unfold gt0
          rw [show ((y_.toNat : Nat) : Int) = y_ by omega, show ((x_.toNat : Nat) : Int) = x_ by omega]
          omega
        · exact hCx7_
        · omega
    · rintro w9_ x_ S_ hI_ hF_ ⟨h0_, hb_, hC_, -⟩ hm_
      have e22_ : S_.2.2.1 22 (0 + bb_) = S0_.2.2.1 22 (0 + bb_) := fr_arr hF_ rfl
      have e23_ : S_.2.2.1 23 (0 + bb_) = S0_.2.2.1 23 (0 + bb_) := fr_arr hF_ rfl
      have e0_ : S_.1 0 bb_ 0 = S0_.1 0 bb_ 0 := hF_.1 0 bb_ 0 rfl
      have e2_ : S_.1 0 bb_ 2 = S0_.1 0 bb_ 2 := hF_.1 0 bb_ 2 rfl
      have ew : S_.1 4 ii_ 11 = S0_.1 4 ii_ 11 := hF_.1 4 ii_ 11 rfl
      have cs_ : 0 ≤ S_.1 0 bb_ 0 ∧ S_.1 0 bb_ 0 ≤ 60 := hI_.1 0 bb_ 0 rfl
      have ch_ : 0 ≤ S_.1 0 bb_ 2 ∧ S_.1 0 bb_ 2 ≤ 38 := hI_.1 0 bb_ 2 rfl
      refine sm_T_go 2 (c1 := (51, [some (.inr (.inr (some (4, ii_)))), some (.inr (.inr (some (0, bb_)))), some (.inl w9_), some (.inl x_), none, none], [.inl w9_, .inl x_], S_)) rfl ?_
      refine sm_T_br (a := 3) (z := 36) rfl (fun cx1_ => ?_) (fun cx1_ => ?_)
      · have cx1_ : w9_ ≤ x_ := of_decide_eq_true cx1_
        refine sm_T_go 2 (c1 := (89, [some (.inr (.inr (some (4, ii_)))), some (.inr (.inr (some (0, bb_)))), some (.inl w9_), some (.inl 0), none, none], [], S_)) rfl ?_
        refine ih_.2.2.2.2.1 w9_ 0 S_ hI_ hF_ ⟨?_, ?_, ?_, trivial⟩ ?_
        · omega
        · refine nbx_cg hb_ (fun c9_ => ?_)
          rw [show x_.toNat = gtw bb_ S0_ by (show _ = Int.toNat _; omega)]
          rfl
        · exact hC_
        · omega
      · have cx1_ : ¬ (w9_ ≤ x_) := of_decide_eq_false cx1_
        refine sm_T_go 2 (c1 := (57, [some (.inr (.inr (some (4, ii_)))), some (.inr (.inr (some (0, bb_)))), some (.inl w9_), some (.inl x_), some (.inl 0), none], [], S_)) rfl ?_
        refine ih_.2.2.2.1 w9_ x_ 0 S_ hI_ hF_ ⟨?_, ?_, ?_, trivial⟩ ?_
        · omega
        · exact nbx_cg hb_ (fun c9_ => rfl)
        · exact hC_
        · omega
    · rintro w9_ x_ y_ S_ hI_ hF_ ⟨h0_, hb_, hC_, -⟩ hm_
      have e22_ : S_.2.2.1 22 (0 + bb_) = S0_.2.2.1 22 (0 + bb_) := fr_arr hF_ rfl
      have e23_ : S_.2.2.1 23 (0 + bb_) = S0_.2.2.1 23 (0 + bb_) := fr_arr hF_ rfl
      have e0_ : S_.1 0 bb_ 0 = S0_.1 0 bb_ 0 := hF_.1 0 bb_ 0 rfl
      have e2_ : S_.1 0 bb_ 2 = S0_.1 0 bb_ 2 := hF_.1 0 bb_ 2 rfl
      have ew : S_.1 4 ii_ 11 = S0_.1 4 ii_ 11 := hF_.1 4 ii_ 11 rfl
      have cs_ : 0 ≤ S_.1 0 bb_ 0 ∧ S_.1 0 bb_ 0 ≤ 60 := hI_.1 0 bb_ 0 rfl
      have ch_ : 0 ≤ S_.1 0 bb_ 2 ∧ S_.1 0 bb_ 2 ≤ 38 := hI_.1 0 bb_ 2 rfl
      have bx1_ : 0 ≤ S_.1 0 bb_ 2 ∧ S_.1 0 bb_ 2 ≤ 38 := hI_.1 0 bb_ 2 rfl
      refine sm_T_go 3 (c1 := (63, [some (.inr (.inr (some (4, ii_)))), some (.inr (.inr (some (0, bb_)))), some (.inl w9_), some (.inl x_), some (.inl y_), none], [.inl (S_.1 0 bb_ 2), .inl y_], S_)) rfl ?_
      refine sm_T_br (a := 3) (z := 18) rfl (fun cx2_ => ?_) (fun cx2_ => ?_)
      · have cx2_ : (S_.1 0 bb_ 2) ≤ y_ := of_decide_eq_true cx2_
        refine sm_T_inc (a := 3) (z := 1) (v := x_) (w := x_ + 1) rfl rfl (by omega) (by omega) (by omega) ?_ -- pc_ 81
        refine sm_T_go 1 (c1 := (49, [some (.inr (.inr (some (4, ii_)))), some (.inr (.inr (some (0, bb_)))), some (.inl w9_), some (.inl (x_ + 1)), some (.inl y_), none], [], S_)) rfl ?_
        refine sm_T_wk [some (.inr (.inr (some (4, ii_)))), some (.inr (.inr (some (0, bb_)))), some (.inl w9_), some (.inl (x_ + 1)), none, none] (by exact ⟨rfl, rfl, rfl, rfl, trivial⟩) ?_
        refine ih_.2.2.1 w9_ (x_ + 1) S_ hI_ hF_ ⟨?_, ?_, ?_, trivial⟩ ?_
        · omega
        · refine nbx_cg hb_ (fun c9_ => ?_)
          rw [show (x_ + 1).toNat = x_.toNat + 1 by omega, cg_s, show y_.toNat = gth bb_ S0_ by (show _ = Int.toNat _; omega)]
          omega
        · exact hC_
        · omega
      · have cx2_ : ¬ ((S_.1 0 bb_ 2) ≤ y_) := of_decide_eq_false cx2_
        have tb9_ := tk1_b (o_ := S0_.2.2.1 22 (0 + bb_)) (s_ := S0_.2.2.1 23 (0 + bb_)) (h9_ := S0_.1 0 bb_ 2) (w_ := S0_.1 0 bb_ 0) (y_ := y_) (x_ := x_) (fun k9_ => hI0_.2 22 (0 + bb_) k9_)
        refine sm_T_go 5 (c1 := (72, [some (.inr (.inr (some (4, ii_)))), some (.inr (.inr (some (0, bb_)))), some (.inl w9_), some (.inl x_), some (.inl y_), none], [.inl y_, .inl x_, .inl 1, .inr (.inr (some (0, bb_))), .inr (.inr (some (4, ii_)))], S_)) rfl ?_
        refine sm_T_cal (d1 := 2) (Q1 := vq_74c x_ y_ ii_ bb_ S_) rfl rfl (by decide) (vc_74c x_ y_ ii_ bb_ S_ hI_ (by omega) (by omega) (by (rw [e22_, e23_, e0_, e2_, ew]; intro u9_ v9_; have z9_ := nbx_bd hb_ v9_ tb9_.2 (hT2_ u9_) (by have s9_ := cg_st (g_ := gt1 bb_ S0_) (w_ := gth bb_ S0_) (y_ := x_.toNat) (x_ := y_.toNat) (h_ := gtw bb_ S0_) (by show _ < Int.toNat _; omega) (by show _ < Int.toNat _; omega) (show gt1 bb_ S0_ x_.toNat y_.toNat = _ from by unfold gt1; rw [show ((x_.toNat : Nat) : Int) = x_ by omega, show ((y_.toNat : Nat) : Int) = y_ by omega]); unfold btot; (try dsimp only); omega); omega)) (by (rw [e22_, e23_, e0_, e2_]; intro v9_; have z9_ := nbx_bd hb_ v9_ tb9_.2 hT1_ (by have s9_ := cg_st (g_ := gt1 bb_ S0_) (w_ := gth bb_ S0_) (y_ := x_.toNat) (x_ := y_.toNat) (h_ := gtw bb_ S0_) (by show _ < Int.toNat _; omega) (by show _ < Int.toNat _; omega) (show gt1 bb_ S0_ x_.toNat y_.toNat = _ from by unfold gt1; rw [show ((x_.toNat : Nat) : Int) = x_ by omega, show ((y_.toNat : Nat) : Int) = y_ by omega]); unfold btot; (try dsimp only); omega); omega))) (fun u_ Sx3_ px6_ => ?_)
        obtain ⟨rfl, hIx4_, hFx5_, px6_⟩ := px6_
        have hFx7_ : ai_fr (sx_W vw_73) S0_ Sx3_ := ai_fr_tr hF_ (fr_le hFx5_ rfl)
        obtain ⟨dx9_, px6_⟩ := px6_
        have hCx8_ : cdf ii_ S0_ Sx3_ := cdf_tr hC_ (cdf_cg (by omega) dx9_)
        have ex10_ : Sx3_.1 0 bb_ 2 = S_.1 0 bb_ 2 := hFx5_.1 0 bb_ 2 rfl
        have n9_ := px6_
        rw [e22_, e23_, e0_, e2_] at n9_
        refine sm_T_inc (a := 4) (z := 1) (v := y_) (w := y_ + 1) rfl rfl (by omega) (by omega) (by omega) ?_ -- pc_ 75
        refine sm_T_go 1 (c1 := (57, [some (.inr (.inr (some (4, ii_)))), some (.inr (.inr (some (0, bb_)))), some (.inl w9_), some (.inl x_), some (.inl (y_ + 1)), none], [], Sx3_)) rfl ?_
        refine ih_.2.2.2.1 w9_ x_ (y_ + 1) Sx3_ hIx4_ hFx7_ ⟨?_, ?_, ?_, trivial⟩ ?_
        · omega
        · refine nbx_st hb_ n9_ (fun c9_ => ?_)
          rw [show (y_ + 1).toNat = y_.toNat + 1 by omega, cne_s]
          unfold gt1
          rw [show ((y_.toNat : Nat) : Int) = y_ by omega, show ((x_.toNat : Nat) : Int) = x_ by omega]
          omega
        · exact hCx8_
        · omega
    · rintro w9_ y_ S_ hI_ hF_ ⟨h0_, hb_, hC_, -⟩ hm_
      have e22_ : S_.2.2.1 22 (0 + bb_) = S0_.2.2.1 22 (0 + bb_) := fr_arr hF_ rfl
      have e23_ : S_.2.2.1 23 (0 + bb_) = S0_.2.2.1 23 (0 + bb_) := fr_arr hF_ rfl
      have e0_ : S_.1 0 bb_ 0 = S0_.1 0 bb_ 0 := hF_.1 0 bb_ 0 rfl
      have e2_ : S_.1 0 bb_ 2 = S0_.1 0 bb_ 2 := hF_.1 0 bb_ 2 rfl
      have ew : S_.1 4 ii_ 11 = S0_.1 4 ii_ 11 := hF_.1 4 ii_ 11 rfl
      have cs_ : 0 ≤ S_.1 0 bb_ 0 ∧ S_.1 0 bb_ 0 ≤ 60 := hI_.1 0 bb_ 0 rfl
      have ch_ : 0 ≤ S_.1 0 bb_ 2 ∧ S_.1 0 bb_ 2 ≤ 38 := hI_.1 0 bb_ 2 rfl
      have bx1_ : 0 ≤ S_.1 0 bb_ 2 ∧ S_.1 0 bb_ 2 ≤ 38 := hI_.1 0 bb_ 2 rfl
      refine sm_T_go 3 (c1 := (94, [some (.inr (.inr (some (4, ii_)))), some (.inr (.inr (some (0, bb_)))), some (.inl w9_), some (.inl y_), none, none], [.inl (S_.1 0 bb_ 2), .inl y_], S_)) rfl ?_
      refine sm_T_br (a := 3) (z := 62) rfl (fun cx2_ => ?_) (fun cx2_ => ?_)
      · have cx2_ : (S_.1 0 bb_ 2) ≤ y_ := of_decide_eq_true cx2_
        refine sm_T_rv rfl ⟨_, _, rfl, rfl, hI_, hF_, ?_⟩
        refine ⟨hC_, ?_⟩
        refine nbx_cg hb_ (fun c9_ => ?_)
        unfold btot
        rw [show y_.toNat = gth bb_ S0_ by (show _ = Int.toNat _; omega)]
      · have cx2_ : ¬ ((S_.1 0 bb_ 2) ≤ y_) := of_decide_eq_false cx2_
        refine sm_T_go 2 (c1 := (100, [some (.inr (.inr (some (4, ii_)))), some (.inr (.inr (some (0, bb_)))), some (.inl w9_), some (.inl y_), some (.inl 0), none], [], S_)) rfl ?_
        refine ih_.2.2.2.2.2 w9_ y_ 0 S_ hI_ hF_ ⟨?_, ?_, ?_, trivial⟩ ?_
        · omega
        · exact nbx_cg hb_ (fun c9_ => rfl)
        · exact hC_
        · omega
    · rintro w9_ y_ x_ S_ hI_ hF_ ⟨h0_, hb_, hC_, -⟩ hm_
      have e22_ : S_.2.2.1 22 (0 + bb_) = S0_.2.2.1 22 (0 + bb_) := fr_arr hF_ rfl
      have e23_ : S_.2.2.1 23 (0 + bb_) = S0_.2.2.1 23 (0 + bb_) := fr_arr hF_ rfl
      have e0_ : S_.1 0 bb_ 0 = S0_.1 0 bb_ 0 := hF_.1 0 bb_ 0 rfl
      have e2_ : S_.1 0 bb_ 2 = S0_.1 0 bb_ 2 := hF_.1 0 bb_ 2 rfl
      have ew : S_.1 4 ii_ 11 = S0_.1 4 ii_ 11 := hF_.1 4 ii_ 11 rfl
      have cs_ : 0 ≤ S_.1 0 bb_ 0 ∧ S_.1 0 bb_ 0 ≤ 60 := hI_.1 0 bb_ 0 rfl
      have ch_ : 0 ≤ S_.1 0 bb_ 2 ∧ S_.1 0 bb_ 2 ≤ 38 := hI_.1 0 bb_ 2 rfl
      refine sm_T_go 2 (c1 := (103, [some (.inr (.inr (some (4, ii_)))), some (.inr (.inr (some (0, bb_)))), some (.inl w9_), some (.inl y_), some (.inl x_), none], [.inl w9_, .inl x_], S_)) rfl ?_
      refine sm_T_br (a := 3) (z := 47) rfl (fun cx1_ => ?_) (fun cx1_ => ?_)
      · have cx1_ : w9_ ≤ x_ := of_decide_eq_true cx1_
        refine sm_T_inc (a := 3) (z := 1) (v := y_) (w := y_ + 1) rfl rfl (by omega) (by omega) (by omega) ?_ -- pc_ 150
        refine sm_T_go 1 (c1 := (89, [some (.inr (.inr (some (4, ii_)))), some (.inr (.inr (some (0, bb_)))), some (.inl w9_), some (.inl (y_ + 1)), some (.inl x_), none], [], S_)) rfl ?_
        refine sm_T_wk [some (.inr (.inr (some (4, ii_)))), some (.inr (.inr (some (0, bb_)))), some (.inl w9_), some (.inl (y_ + 1)), none, none] (by exact ⟨rfl, rfl, rfl, rfl, trivial⟩) ?_
        refine ih_.2.2.2.2.1 w9_ (y_ + 1) S_ hI_ hF_ ⟨?_, ?_, ?_, trivial⟩ ?_
        · omega
        · refine nbx_cg hb_ (fun c9_ => ?_)
          rw [show (y_ + 1).toNat = y_.toNat + 1 by omega, cg_s, show x_.toNat = gtw bb_ S0_ by (show _ = Int.toNat _; omega)]
          omega
        · exact hC_
        · omega
      · have cx1_ : ¬ (w9_ ≤ x_) := of_decide_eq_false cx1_
        refine sm_T_go 2 (c1 := (108, [some (.inr (.inr (some (4, ii_)))), some (.inr (.inr (some (0, bb_)))), some (.inl w9_), some (.inl y_), some (.inl x_), none], [.inl w9_, .inl y_], S_)) rfl ?_
        have bx2_ := mul_b (x_ := y_) (y_ := w9_) (X_ := 37) (Y_ := 62) (Z_ := 2294) (by omega) (by omega) (by decide)
        refine sm_T_bin (w := (y_ * w9_)) rfl (bi_mul rfl (by omega) (by omega)) ?_ -- pc_ 108
        refine sm_T_go 1 (c1 := (111, [some (.inr (.inr (some (4, ii_)))), some (.inr (.inr (some (0, bb_)))), some (.inl w9_), some (.inl y_), some (.inl x_), none], [.inl x_, .inl (y_ * w9_)], S_)) rfl ?_
        refine sm_T_bin (w := (y_ * w9_) + x_) rfl (bi_add (by omega) (by omega) (by omega)) ?_ -- pc_ 111
        refine sm_T_go 4 (c1 := (120, [some (.inr (.inr (some (4, ii_)))), some (.inr (.inr (some (0, bb_)))), some (.inl w9_), some (.inl y_), some (.inl x_), some (.inl ((y_ * w9_) + x_))], [.inl ((y_ * w9_) + x_), .inr (.inr (some (23, (0 + bb_))))], S_)) rfl ?_
        refine sm_T_iald (n := 4712) rfl rfl (by omega) (by omega) ?_
        have bx3_ : 0 ≤ S_.2.2.1 23 (0 + bb_) ((y_ * w9_) + x_).toNat ∧ S_.2.2.1 23 (0 + bb_) ((y_ * w9_) + x_).toNat ≤ 7 := hI_.2 23 (0 + bb_) _
        refine sm_T_go 1 (c1 := (122, [some (.inr (.inr (some (4, ii_)))), some (.inr (.inr (some (0, bb_)))), some (.inl w9_), some (.inl y_), some (.inl x_), some (.inl ((y_ * w9_) + x_))], [.inl 4, .inl (S_.2.2.1 23 (0 + bb_) ((y_ * w9_) + x_).toNat)], S_)) rfl ?_
        refine sm_T_bin (w := (i_and (S_.2.2.1 23 (0 + bb_) ((y_ * w9_) + x_).toNat) 4)) rfl rfl ?_ -- pc_ 122
        refine sm_T_b0 (a := 0) (z := 21) rfl (fun cx4_ => ?_) (fun cx4_ => ?_)
        · have cx4_ : (i_and (S_.2.2.1 23 (0 + bb_) ((y_ * w9_) + x_).toNat) 4) = 0 := of_decide_eq_true cx4_
          have t29_ : tk2 (S0_.2.2.1 22 (0 + bb_)) (S0_.2.2.1 23 (0 + bb_)) (S0_.1 0 bb_ 0 + 2) y_ x_ = -1 := by (unfold tk2; rw [show (S0_.1 0 bb_ 0 + 2) = w9_ by omega, ← e23_, ← e22_, if_pos cx4_])
          refine sm_T_inc (a := 4) (z := 1) (v := x_) (w := x_ + 1) rfl rfl (by omega) (by omega) (by omega) ?_ -- pc_ 144
          refine sm_T_go 1 (c1 := (100, [some (.inr (.inr (some (4, ii_)))), some (.inr (.inr (some (0, bb_)))), some (.inl w9_), some (.inl y_), some (.inl (x_ + 1)), some (.inl ((y_ * w9_) + x_))], [], S_)) rfl ?_
          refine sm_T_wk [some (.inr (.inr (some (4, ii_)))), some (.inr (.inr (some (0, bb_)))), some (.inl w9_), some (.inl y_), some (.inl (x_ + 1)), none] (by exact ⟨rfl, rfl, rfl, rfl, rfl, trivial⟩) ?_
          refine ih_.2.2.2.2.2 w9_ y_ (x_ + 1) S_ hI_ hF_ ⟨?_, ?_, ?_, trivial⟩ ?_
          · omega
          · have g9_ : ∀ c9_ : Int, cne (gt2 bb_ S0_ y_.toNat) c9_ (x_ + 1).toNat = cne (gt2 bb_ S0_ y_.toNat) c9_ x_.toNat + if tk2 (S0_.2.2.1 22 (0 + bb_)) (S0_.2.2.1 23 (0 + bb_)) (S0_.1 0 bb_ 0 + 2) y_ x_ = c9_ then 1 else 0 := fun c9_ => by (rw [show (x_ + 1).toNat = x_.toNat + 1 by omega, cne_s]; unfold gt2; rw [show ((y_.toNat : Nat) : Int) = y_ by omega, show ((x_.toNat : Nat) : Int) = x_ by omega])
            first | exact nbx_st hb_ n9_ (fun c9_ => by rw [g9_]; omega) | exact nbx_st hb_ (nxb9_n (t_ := -1) (by decide)) (fun c9_ => by rw [g9_, t29_]; omega)
          · exact hC_
          · omega
        · have cx4_ : ¬ ((i_and (S_.2.2.1 23 (0 + bb_) ((y_ * w9_) + x_).toNat) 4) = 0) := of_decide_eq_false cx4_
          have sn9_ : S0_.2.2.1 23 (0 + bb_) (y_ * w9_ + x_).toNat ≠ 0 := by (intro u9_; rw [← e23_] at u9_; rw [u9_] at cx4_; exact cx4_ (by decide))
          have on9_ := hst_ (y_ * w9_ + x_).toNat (by omega) sn9_
          have t29_ : tk2 (S0_.2.2.1 22 (0 + bb_)) (S0_.2.2.1 23 (0 + bb_)) (S0_.1 0 bb_ 0 + 2) y_ x_ = S_.2.2.1 22 (0 + bb_) (y_ * w9_ + x_).toNat := by (unfold tk2; rw [show (S0_.1 0 bb_ 0 + 2) = w9_ by omega, ← e23_, ← e22_, if_neg cx4_])
          refine sm_T_go 4 (c1 := (133, [some (.inr (.inr (some (4, ii_)))), some (.inr (.inr (some (0, bb_)))), some (.inl w9_), some (.inl y_), some (.inl x_), some (.inl ((y_ * w9_) + x_))], [.inl ((y_ * w9_) + x_), .inr (.inr (some (22, (0 + bb_)))), .inr (.inr (some (4, ii_)))], S_)) rfl ?_
          refine sm_T_iald (n := 4712) rfl rfl (by omega) (by omega) ?_
          have bx5_ : (-1) ≤ S_.2.2.1 22 (0 + bb_) ((y_ * w9_) + x_).toNat ∧ S_.2.2.1 22 (0 + bb_) ((y_ * w9_) + x_).toNat ≤ 161 := hI_.2 22 (0 + bb_) _
          refine sm_T_go 5 (c1 := (141, [some (.inr (.inr (some (4, ii_)))), some (.inr (.inr (some (0, bb_)))), some (.inl w9_), some (.inl y_), some (.inl x_), some (.inl ((y_ * w9_) + x_))], [.inl y_, .inl x_, .inl y_, .inl x_, .inl 2, .inl (S_.2.2.1 22 (0 + bb_) ((y_ * w9_) + x_).toNat), .inr (.inr (some (4, ii_)))], S_)) rfl ?_
          refine sm_T_cal (d1 := 1) (Q1 := vq_75 (S_.2.2.1 22 (0 + bb_) ((y_ * w9_) + x_).toNat) 2 x_ y_ x_ y_ ii_ S_) rfl rfl (by decide) (vc_75 (S_.2.2.1 22 (0 + bb_) ((y_ * w9_) + x_).toNat) 2 x_ y_ x_ y_ ii_ S_ hI_ (by (rw [← e22_] at on9_; omega)) (by decide) (by omega) (by (rw [ew]; intro u9_; have z9_ := nbx_bd (t_ := S_.2.2.1 22 (0 + bb_) (y_ * w9_ + x_).toNat) hb_ (by rw [← e22_] at on9_; omega) (by omega) (hT2_ u9_) (by have q9_ := t29_; have s9_ := cg_st (g_ := gt2 bb_ S0_) (w_ := gtw bb_ S0_) (y_ := y_.toNat) (x_ := x_.toNat) (h_ := gth bb_ S0_) (by show _ < Int.toNat _; omega) (by show _ < Int.toNat _; omega) (show gt2 bb_ S0_ y_.toNat x_.toNat = S_.2.2.1 22 (0 + bb_) (y_ * w9_ + x_).toNat from by unfold gt2; rw [show ((y_.toNat : Nat) : Int) = y_ by omega, show ((x_.toNat : Nat) : Int) = x_ by omega]; exact q9_); unfold btot; (try dsimp only); omega); omega)) (by (have z9_ := nbx_bd (t_ := S_.2.2.1 22 (0 + bb_) (y_ * w9_ + x_).toNat) hb_ (by rw [← e22_] at on9_; omega) (by omega) hT1_ (by have q9_ := t29_; have s9_ := cg_st (g_ := gt2 bb_ S0_) (w_ := gtw bb_ S0_) (y_ := y_.toNat) (x_ := x_.toNat) (h_ := gth bb_ S0_) (by show _ < Int.toNat _; omega) (by show _ < Int.toNat _; omega) (show gt2 bb_ S0_ y_.toNat x_.toNat = S_.2.2.1 22 (0 + bb_) (y_ * w9_ + x_).toNat from by unfold gt2; rw [show ((y_.toNat : Nat) : Int) = y_ by omega, show ((x_.toNat : Nat) : Int) = x_ by omega]; exact q9_); unfold btot; (try dsimp only); omega); omega))) (fun u_ Sx6_ px9_ => ?_)
          obtain ⟨rfl, hIx7_, hFx8_, px9_⟩ := px9_
          have hFx10_ : ai_fr (sx_W vw_73) S0_ Sx6_ := ai_fr_tr hF_ (fr_le hFx8_ rfl)
          obtain ⟨dx12_, px9_⟩ := px9_
          have hCx11_ : cdf ii_ S0_ Sx6_ := cdf_tr hC_ (cdf_cg (by omega) dx12_)
          have n9_ := px9_
          rw [← t29_] at n9_
          refine sm_T_inc (a := 4) (z := 1) (v := x_) (w := x_ + 1) rfl rfl (by omega) (by omega) (by omega) ?_ -- pc_ 144
          refine sm_T_go 1 (c1 := (100, [some (.inr (.inr (some (4, ii_)))), some (.inr (.inr (some (0, bb_)))), some (.inl w9_), some (.inl y_), some (.inl (x_ + 1)), some (.inl ((y_ * w9_) + x_))], [], Sx6_)) rfl ?_
          refine sm_T_wk [some (.inr (.inr (some (4, ii_)))), some (.inr (.inr (some (0, bb_)))), some (.inl w9_), some (.inl y_), some (.inl (x_ + 1)), none] (by exact ⟨rfl, rfl, rfl, rfl, rfl, trivial⟩) ?_
          refine ih_.2.2.2.2.2 w9_ y_ (x_ + 1) Sx6_ hIx7_ hFx10_ ⟨?_, ?_, ?_, trivial⟩ ?_
          · omega
          · have g9_ : ∀ c9_ : Int, cne (gt2 bb_ S0_ y_.toNat) c9_ (x_ + 1).toNat = cne (gt2 bb_ S0_ y_.toNat) c9_ x_.toNat + if tk2 (S0_.2.2.1 22 (0 + bb_)) (S0_.2.2.1 23 (0 + bb_)) (S0_.1 0 bb_ 0 + 2) y_ x_ = c9_ then 1 else 0 := fun c9_ => by (rw [show (x_ + 1).toNat = x_.toNat + 1 by omega, cne_s]; unfold gt2; rw [show ((y_.toNat : Nat) : Int) = y_ by omega, show ((x_.toNat : Nat) : Int) = x_ by omega])
            first | exact nbx_st hb_ n9_ (fun c9_ => by rw [g9_]; omega) | exact nbx_st hb_ (nxb9_n (t_ := -1) (by decide)) (fun c9_ => by rw [g9_, t29_]; omega)
          · exact hCx11_
          · omega
set_option maxHeartbeats 4000000 in
theorem vc_73 {sc_ : Nat × (Nat → Int)} (ii_ : Nat) (bb_ : Nat) (S0_ : sm_S) (hI_ : gi S0_) (hI0_ : gi S0_) (hst_ : bst bb_ S0_) (hT1_ : ∀ c_ : Nat, c_ < 162 → S0_.2.2.1 49 (0 + ii_) c_ + (btot bb_ S0_ (c_ : Int) : Int) ≤ 20000) (hT2_ : S0_.1 4 ii_ 11 ≠ 0 → ∀ c_ : Nat, c_ < 162 → S0_.2.2.1 49 (0 + ii_) c_ + (btot bb_ S0_ (c_ : Int) : Int) ≤ 2000) : sm_T (mt_P sc_) 3 73 (0, [some (.inr (.inr (some (4, ii_)))), some (.inr (.inr (some (0, bb_)))), none, none, none, none], [], S0_) (fun ro9_ => ∃ u_ S1_, ro9_ = (.inl u_, S1_, 0) ∧ vq_73 ii_ bb_ S0_ u_ S1_) := by
  have hF_ : ai_fr (sx_W vw_73) S0_ S0_ := ai_fr_rf
  have hC_ : cdf ii_ S0_ S0_ := cdf_rf
  have ch0_ : 0 ≤ S0_.1 0 bb_ 2 ∧ S0_.1 0 bb_ 2 ≤ 38 := hI_.1 0 bb_ 2 rfl
  have bx1_ : 0 ≤ S0_.1 0 bb_ 0 ∧ S0_.1 0 bb_ 0 ≤ 60 := hI_.1 0 bb_ 0 rfl
  refine sm_T_go 3 (c1 := (5, [some (.inr (.inr (some (4, ii_)))), some (.inr (.inr (some (0, bb_)))), none, none, none, none], [.inl 2, .inl (S0_.1 0 bb_ 0)], S0_)) rfl ?_
  refine sm_T_bin (w := (S0_.1 0 bb_ 0) + 2) rfl (bi_add (by omega) (by omega) (by omega)) ?_ -- pc_ 5
  refine sm_T_go 3 (c1 := (9, [some (.inr (.inr (some (4, ii_)))), some (.inr (.inr (some (0, bb_)))), some (.inl ((S0_.1 0 bb_ 0) + 2)), some (.inl 0), none, none], [], S0_)) rfl ?_
  refine (vl_73 ii_ bb_ S0_ hI0_ hst_ hT1_ hT2_ _).1 ((S0_.1 0 bb_ 0) + 2) 0 S0_ hI_ hF_ ⟨?_, ?_, ?_, trivial⟩ (Nat.lt_succ_self _)
  · omega
  · (intro c_ hc_; show _ = _ + ((0 : Nat) : Int); omega)
  · exact hC_
end
/-! 99.zl3a -/
section
/-! boxes drawn; written by wip/p55/gen/vg -/

/-! boxes counted, then drawn -/
def ssm (f_ : Nat → Int) : Nat → Int
  | 0 => 0
  | n_ + 1 => ssm f_ n_ + f_ n_
theorem ssm_s (f_ : Nat → Int) (n_ : Nat) : ssm f_ (n_ + 1) = ssm f_ n_ + f_ n_ := rfl
theorem ssm_mo {f_ : Nat → Int} (h_ : ∀ k_, 0 ≤ f_ k_) {n_ : Nat} : ∀ {m_ : Nat}, n_ ≤ m_ → ssm f_ n_ ≤ ssm f_ m_
  | 0, q_ => by rw [show n_ = 0 by omega]; exact Int.le_refl _
  | m_ + 1, q_ => by
    by_cases z_ : n_ = m_ + 1
    · rw [z_]; exact Int.le_refl _
    · have a_ := ssm_mo h_ (n_ := n_) (m_ := m_) (by omega)
      have b_ := h_ m_
      rw [ssm_s]; omega
theorem ssm_cg {f_ g_ : Nat → Int} : ∀ {n_ : Nat}, (∀ k_, k_ < n_ → f_ k_ = g_ k_) → ssm f_ n_ = ssm g_ n_
  | 0, _ => rfl
  | n_ + 1, h_ => by rw [ssm_s, ssm_s, ssm_cg (fun k_ hk_ => h_ k_ (by omega)), h_ n_ (by omega)]
def btf (bb_ : Nat) (S_ : sm_S) (c_ : Nat) : Int := (btot bb_ S_ (c_ : Int) : Int)
theorem btf_0 (bb_ : Nat) (S_ : sm_S) (c_ : Nat) : 0 ≤ btf bb_ S_ c_ := Int.natCast_nonneg _
theorem btot_le {bb_ : Nat} {S_ : sm_S} (h0_ : 0 ≤ S_.1 0 bb_ 0 ∧ S_.1 0 bb_ 0 ≤ 60) (h2_ : 0 ≤ S_.1 0 bb_ 2 ∧ S_.1 0 bb_ 2 ≤ 38) (c_ : Int) : btot bb_ S_ c_ ≤ 7068 := by
  have a_ := cg_le (g_ := gt0 bb_ S_) (c_ := c_) (w_ := gtw bb_ S_) (gth bb_ S_)
  have b_ := cg_le (g_ := gt1 bb_ S_) (c_ := c_) (w_ := gth bb_ S_) (gtw bb_ S_)
  have d_ := cg_le (g_ := gt2 bb_ S_) (c_ := c_) (w_ := gtw bb_ S_) (gth bb_ S_)
  have w_ : gtw bb_ S_ ≤ 62 := by show Int.toNat _ ≤ 62; omega
  have h_ : gth bb_ S_ ≤ 38 := by show Int.toNat _ ≤ 38; omega
  have m_ := Nat.mul_le_mul h_ w_
  rw [Nat.mul_comm (gtw bb_ S_) (gth bb_ S_)] at b_
  unfold btot
  omega
theorem btot_cg {bb_ : Nat} {S_ S'_ : sm_S} (a_ : S'_.2.2.1 22 (0 + bb_) = S_.2.2.1 22 (0 + bb_)) (b_ : S'_.2.2.1 23 (0 + bb_) = S_.2.2.1 23 (0 + bb_)) (e0_ : S'_.1 0 bb_ 0 = S_.1 0 bb_ 0) (e2_ : S'_.1 0 bb_ 2 = S_.1 0 bb_ 2) : btot bb_ S'_ = btot bb_ S_ := by
  unfold btot gt0 gt1 gt2 gtw gth
  rw [a_, b_, e0_, e2_]
/-! java/util/Arrays.fill -/
def vw_2n9 : sx_Wl := ([], [49], [])
def vq_2n9 (v0_ : Int) (ii_ : Nat) (S0_ : sm_S) (u_ : Option sm_V) (S1_ : sm_S) : Prop := u_ = none ∧ gi S1_ ∧ ai_fr (sx_W vw_2n9) S0_ S1_ ∧ (cdf ii_ S0_ S1_ ∧ (∀ j_, j_ < 162 → S1_.2.2.1 49 (0 + ii_) j_ = v0_))
set_option maxHeartbeats 400000 in
theorem vl_2n9 {sc_ : Nat × (Nat → Int)} (v0_ : Int) (ii_ : Nat) (S0_ : sm_S) (hv_ : 0 ≤ v0_ ∧ v0_ ≤ 20000) : ∀ nn_ : Nat, (∀ (k_ : Int) (S_ : sm_S), gi S_ → ai_fr (sx_W vw_2n9) S0_ S_ → ((0 ≤ k_ ∧ k_ ≤ 162) ∧ (∀ j_, j_ < k_.toNat → S_.2.2.1 49 (0 + ii_) j_ = v0_) ∧ (cdf ii_ S0_ S_) ∧ True) → ((162 - k_).toNat) < nn_ → sm_T (mt_P sc_) 0 2 (5, [some (.inr (.inr (some (49, (0 + ii_))))), some (.inl v0_), some (.inl k_), some (.inl 162)], [], S_) (fun ro9_ => ∃ u_ S1_, ro9_ = (.inl u_, S1_, 0) ∧ vq_2n9 v0_ ii_ S0_ u_ S1_)) := by
  intro nn_
  induction nn_ with
  | zero => exact fun _ _ _ _ _ h_ => absurd h_ (Nat.not_lt_zero _)
  | succ nn_ ih_ =>
    rintro k_ S_ hI_ hF_ ⟨h0_, h1_, hC_, -⟩ hm_
    refine sm_T_go 2 (c1 := (7, [some (.inr (.inr (some (49, (0 + ii_))))), some (.inl v0_), some (.inl k_), some (.inl 162)], [.inl 162, .inl k_], S_)) rfl ?_
    refine sm_T_br (a := 3) (z := 13) rfl (fun cx1_ => ?_) (fun cx1_ => ?_)
    · have cx1_ : 162 ≤ k_ := of_decide_eq_true cx1_
      refine sm_T_rv rfl ⟨_, _, rfl, rfl, hI_, hF_, ?_⟩
      refine ⟨hC_, ?_⟩
      exact fun j_ hj_ => h1_ j_ (by omega)
    · have cx1_ : ¬ (162 ≤ k_) := of_decide_eq_false cx1_
      refine sm_T_go 3 (c1 := (13, [some (.inr (.inr (some (49, (0 + ii_))))), some (.inl v0_), some (.inl k_), some (.inl 162)], [.inl v0_, .inl k_, .inr (.inr (some (49, (0 + ii_))))], S_)) rfl ?_
      refine sm_T_iast (n := 162) rfl rfl (by omega) (by omega) ?_
      have hIx2_ : gi (sm_aI S_ 49 (0 + ii_) k_.toNat v0_) := gi_aI hI_ (show 0 ≤ v0_ ∧ v0_ ≤ 20000 from ⟨by omega, by omega⟩)
      have hFx3_ : ai_fr (sx_W vw_2n9) S0_ (sm_aI S_ 49 (0 + ii_) k_.toNat v0_) := ai_fr_tr hF_ (ai_fr_aI rfl)
      have hCx4_ : cdf ii_ S0_ (sm_aI S_ 49 (0 + ii_) k_.toNat v0_) := cdf_aI hC_ (Or.inr (by rw [show cof 49 = 0 from rfl] <;> omega))
      refine sm_T_inc (a := 2) (z := 1) (v := k_) (w := k_ + 1) rfl rfl (by omega) (by omega) (by omega) ?_ -- pc_ 14
      refine sm_T_go 1 (c1 := (5, [some (.inr (.inr (some (49, (0 + ii_))))), some (.inl v0_), some (.inl (k_ + 1)), some (.inl 162)], [], sm_aI S_ 49 (0 + ii_) k_.toNat v0_)) rfl ?_
      refine ih_ (k_ + 1) (sm_aI S_ 49 (0 + ii_) k_.toNat v0_) hIx2_ hFx3_ ⟨?_, ?_, ?_, trivial⟩ ?_
      · omega
      · intro j_ hj_
        rw [rd_eq]
        by_cases z_ : j_ = k_.toNat
        · rw [if_pos z_]
        · rw [if_neg z_]; exact h1_ j_ (by omega)
      · exact hCx4_
      · omega
set_option maxHeartbeats 400000 in
theorem vc_2n9 {sc_ : Nat × (Nat → Int)} (v0_ : Int) (ii_ : Nat) (S0_ : sm_S) (hI_ : gi S0_) (hv_ : 0 ≤ v0_ ∧ v0_ ≤ 20000) : sm_T (mt_P sc_) 0 2 (0, [some (.inr (.inr (some (49, (0 + ii_))))), some (.inl v0_), none, none], [], S0_) (fun ro9_ => ∃ u_ S1_, ro9_ = (.inl u_, S1_, 0) ∧ vq_2n9 v0_ ii_ S0_ u_ S1_) := by
  have hF_ : ai_fr (sx_W vw_2n9) S0_ S0_ := ai_fr_rf
  have hC_ : cdf ii_ S0_ S0_ := cdf_rf
  refine sm_T_go 5 (c1 := (5, [some (.inr (.inr (some (49, (0 + ii_))))), some (.inl v0_), some (.inl 0), some (.inl 162)], [], S0_)) rfl ?_
  refine (vl_2n9 v0_ ii_ S0_ hv_ _) 0 S0_ hI_ hF_ ⟨?_, ?_, ?_, trivial⟩ (Nat.lt_succ_self _)
  · omega
  · (intro j_ hj_; exact absurd hj_ (Nat.not_lt_zero _))
  · exact hC_
end
/-! 99.zl3b -/
section
/-! Layout.countBoxes -/
def vw_71 : sx_Wl := ([(4, 11)], [48, 49], [])
def vq_71 (a2_ : Int) (ii_ : Nat) (bb_ : Nat) (S0_ : sm_S) (u_ : Option sm_V) (S1_ : sm_S) : Prop := ∃ v_ : Int, u_ = some (.inl v_) ∧ gi S1_ ∧ ai_fr (sx_W vw_71) S0_ S1_ ∧ (cdf ii_ S0_ S1_ ∧ (v_ = ssm (btf bb_ S0_) a2_.toNat ∧ ∀ c_ : Nat, c_ < 162 → S1_.2.2.1 49 (0 + ii_) c_ = btf bb_ S0_ c_))
set_option maxHeartbeats 400000 in
theorem vl_71 {sc_ : Nat × (Nat → Int)} (a2_ : Int) (ii_ : Nat) (bb_ : Nat) (S0_ : sm_S) (h2_ : 0 ≤ a2_ ∧ a2_ ≤ 162) (hst_ : bst bb_ S0_) : ∀ nn_ : Nat, (∀ (al_ : Int) (k_ : Int) (S_ : sm_S), gi S_ → ai_fr (sx_W vw_71) S0_ S_ → ((0 ≤ k_ ∧ k_ ≤ a2_ ∧ 0 ≤ al_ ∧ al_ ≤ 7068 * k_) ∧ (al_ = ssm (btf bb_ S0_) k_.toNat) ∧ (∀ c_ : Nat, c_ < 162 → S_.2.2.1 49 (0 + ii_) c_ = btf bb_ S0_ c_) ∧ (cdf ii_ S0_ S_) ∧ True) → ((1000 - k_).toNat) < nn_ → sm_T (mt_P sc_) 4 71 (23, [some (.inr (.inr (some (4, ii_)))), some (.inr (.inr (some (0, bb_)))), some (.inl a2_), some (.inl al_), some (.inl k_)], [], S_) (fun ro9_ => ∃ u_ S1_, ro9_ = (.inl u_, S1_, 0) ∧ vq_71 a2_ ii_ bb_ S0_ u_ S1_)) := by
  intro nn_
  induction nn_ with
  | zero => exact fun _ _ _ _ _ _ h_ => absurd h_ (Nat.not_lt_zero _)
  | succ nn_ ih_ =>
    rintro al_ k_ S_ hI_ hF_ ⟨h0_, hal_, hnx_, hC_, -⟩ hm_
    have c0_ : 0 ≤ S_.1 0 bb_ 0 ∧ S_.1 0 bb_ 0 ≤ 60 := hI_.1 0 bb_ 0 rfl
    have c2_ : 0 ≤ S_.1 0 bb_ 2 ∧ S_.1 0 bb_ 2 ≤ 38 := hI_.1 0 bb_ 2 rfl
    have e0_ : S_.1 0 bb_ 0 = S0_.1 0 bb_ 0 := hF_.1 0 bb_ 0 rfl
    have e2_ : S_.1 0 bb_ 2 = S0_.1 0 bb_ 2 := hF_.1 0 bb_ 2 rfl
    refine sm_T_go 2 (c1 := (26, [some (.inr (.inr (some (4, ii_)))), some (.inr (.inr (some (0, bb_)))), some (.inl a2_), some (.inl al_), some (.inl k_)], [.inl a2_, .inl k_], S_)) rfl ?_
    refine sm_T_br (a := 3) (z := 19) rfl (fun cx1_ => ?_) (fun cx1_ => ?_)
    · have cx1_ : a2_ ≤ k_ := of_decide_eq_true cx1_
      refine sm_T_go 1 (c1 := (46, [some (.inr (.inr (some (4, ii_)))), some (.inr (.inr (some (0, bb_)))), some (.inl a2_), some (.inl al_), some (.inl k_)], [.inl al_], S_)) rfl ?_
      refine sm_T_ri rfl ⟨_, _, rfl, _, rfl, hI_, hF_, ?_⟩
      refine ⟨hC_, ?_⟩
      exact ⟨by rw [hal_, show k_.toNat = a2_.toNat by omega], hnx_⟩
    · have cx1_ : ¬ (a2_ ≤ k_) := of_decide_eq_false cx1_
      have n9_ := hnx_ k_.toNat (by omega)
      have b9_ := btot_le (bb_ := bb_) (S_ := S0_) (by omega) (by omega) (k_.toNat : Int)
      have u9_ : btf bb_ S0_ k_.toNat = (btot bb_ S0_ (k_.toNat : Int) : Int) := rfl
      refine sm_T_go 4 (c1 := (36, [some (.inr (.inr (some (4, ii_)))), some (.inr (.inr (some (0, bb_)))), some (.inl a2_), some (.inl al_), some (.inl k_)], [.inl k_, .inr (.inr (some (49, (0 + ii_)))), .inl al_], S_)) rfl ?_
      refine sm_T_iald (n := 162) rfl rfl (by omega) (by omega) ?_
      have bx2_ : 0 ≤ S_.2.2.1 49 (0 + ii_) k_.toNat ∧ S_.2.2.1 49 (0 + ii_) k_.toNat ≤ 20000 := hI_.2 49 (0 + ii_) _
      refine sm_T_bin (w := al_ + (S_.2.2.1 49 (0 + ii_) k_.toNat)) rfl (bi_add (by omega) (by omega) (by omega)) ?_ -- pc_ 37
      refine sm_T_go 1 (c1 := (39, [some (.inr (.inr (some (4, ii_)))), some (.inr (.inr (some (0, bb_)))), some (.inl a2_), some (.inl (al_ + (S_.2.2.1 49 (0 + ii_) k_.toNat))), some (.inl k_)], [], S_)) rfl ?_
      refine sm_T_inc (a := 4) (z := 1) (v := k_) (w := k_ + 1) rfl rfl (by omega) (by omega) (by omega) ?_ -- pc_ 39
      refine sm_T_go 1 (c1 := (23, [some (.inr (.inr (some (4, ii_)))), some (.inr (.inr (some (0, bb_)))), some (.inl a2_), some (.inl (al_ + (S_.2.2.1 49 (0 + ii_) k_.toNat))), some (.inl (k_ + 1))], [], S_)) rfl ?_
      refine ih_ (al_ + (S_.2.2.1 49 (0 + ii_) k_.toNat)) (k_ + 1) S_ hI_ hF_ ⟨?_, ?_, ?_, ?_, trivial⟩ ?_
      · omega
      · (rw [show (k_ + 1).toNat = k_.toNat + 1 by omega, ssm_s]; omega)
      · exact hnx_
      · exact hC_
      · omega
set_option maxHeartbeats 400000 in
theorem vc_71 {sc_ : Nat × (Nat → Int)} (a2_ : Int) (ii_ : Nat) (bb_ : Nat) (S0_ : sm_S) (hI_ : gi S0_) (h2_ : 0 ≤ a2_ ∧ a2_ ≤ 162) (hst_ : bst bb_ S0_) : sm_T (mt_P sc_) 4 71 (0, [some (.inr (.inr (some (4, ii_)))), some (.inr (.inr (some (0, bb_)))), some (.inl a2_), none, none], [], S0_) (fun ro9_ => ∃ u_ S1_, ro9_ = (.inl u_, S1_, 0) ∧ vq_71 a2_ ii_ bb_ S0_ u_ S1_) := by
  have hF_ : ai_fr (sx_W vw_71) S0_ S0_ := ai_fr_rf
  have hC_ : cdf ii_ S0_ S0_ := cdf_rf
  have c0_ : 0 ≤ S0_.1 0 bb_ 0 ∧ S0_.1 0 bb_ 0 ≤ 60 := hI_.1 0 bb_ 0 rfl
  have c2_ : 0 ≤ S0_.1 0 bb_ 2 ∧ S0_.1 0 bb_ 2 ≤ 38 := hI_.1 0 bb_ 2 rfl
  have hIx1_ : gi (sm_pI S0_ 4 ii_ 11 0) := gi_pI hI_ (show 0 ≤ 0 ∧ 0 ≤ 1 from ⟨by omega, by omega⟩)
  have hFx2_ : ai_fr (sx_W vw_71) S0_ (sm_pI S0_ 4 ii_ 11 0) := ai_fr_tr hF_ (ai_fr_pI rfl)
  have hCx3_ : cdf ii_ S0_ (sm_pI S0_ 4 ii_ 11 0) := cdf_pI hC_ (Or.inr (by rw [show cof 4 = 0 from rfl] <;> omega))
  refine sm_T_go 6 (c1 := (10, [some (.inr (.inr (some (4, ii_)))), some (.inr (.inr (some (0, bb_)))), some (.inl a2_), none, none], [.inl 0, .inr (.inr (some (49, (0 + ii_))))], sm_pI S0_ 4 ii_ 11 0)) rfl ?_
  refine sm_T_cal (d1 := 0) (Q1 := vq_2n9 0 ii_ (sm_pI S0_ 4 ii_ 11 0)) rfl rfl (by decide) (vc_2n9 0 ii_ (sm_pI S0_ 4 ii_ 11 0) hIx1_ (by decide)) (fun u_ Sx4_ px7_ => ?_)
  obtain ⟨rfl, hIx5_, hFx6_, px7_⟩ := px7_
  have hFx8_ : ai_fr (sx_W vw_71) S0_ Sx4_ := ai_fr_tr hFx2_ (fr_le hFx6_ rfl)
  obtain ⟨dx10_, px7_⟩ := px7_
  have hCx9_ : cdf ii_ S0_ Sx4_ := cdf_tr hCx3_ (cdf_cg (by omega) dx10_)
  have e10 := px7_
  have g22_ : Sx4_.2.2.1 22 (0 + bb_) = (sm_pI S0_ 4 ii_ 11 0).2.2.1 22 (0 + bb_) := fr_arr hFx6_ rfl
  have g23_ : Sx4_.2.2.1 23 (0 + bb_) = (sm_pI S0_ 4 ii_ 11 0).2.2.1 23 (0 + bb_) := fr_arr hFx6_ rfl
  have g0_ := hFx6_.1 0 bb_ 0 rfl
  have g2_ := hFx6_.1 0 bb_ 2 rfl
  have w10_ := hFx6_.1 4 ii_ 11 rfl
  rw [rf_eq] at w10_
  rw [rd_fa] at g22_ g23_
  rw [rf_nt (by decide)] at g0_ g2_
  have B10_ : btot bb_ Sx4_ = btot bb_ S0_ := btot_cg g22_ g23_ g0_ g2_
  refine sm_T_go 2 (c1 := (15, [some (.inr (.inr (some (4, ii_)))), some (.inr (.inr (some (0, bb_)))), some (.inl a2_), none, none], [.inr (.inr (some (0, bb_))), .inr (.inr (some (4, ii_)))], Sx4_)) rfl ?_
  refine sm_T_cal (d1 := 3) (Q1 := vq_73 ii_ bb_ Sx4_) rfl rfl (by decide) (vc_73 ii_ bb_ Sx4_ hIx5_ (by exact hIx5_) (by exact bst_cg hst_ g22_ g23_) (by (intro c_ hc_; rw [e10 c_ hc_, B10_]; have z9_ := btot_le c0_ c2_ (c_ : Int); omega)) (by (intro u9_; exact absurd w10_ u9_))) (fun u_ Sx11_ px14_ => ?_)
  obtain ⟨rfl, hIx12_, hFx13_, px14_⟩ := px14_
  have hFx15_ : ai_fr (sx_W vw_71) S0_ Sx11_ := ai_fr_tr hFx8_ (fr_le hFx13_ rfl)
  obtain ⟨dx17_, px14_⟩ := px14_
  have hCx16_ : cdf ii_ S0_ Sx11_ := cdf_tr hCx9_ (cdf_cg (by omega) dx17_)
  have n15_ : ∀ c_ : Nat, c_ < 162 → Sx11_.2.2.1 49 (0 + ii_) c_ = btf bb_ S0_ c_ := by (intro c_ hc_; have z9_ := px14_ c_ hc_; rw [e10 c_ hc_, B10_] at z9_; unfold btf; omega)
  refine sm_T_go 4 (c1 := (23, [some (.inr (.inr (some (4, ii_)))), some (.inr (.inr (some (0, bb_)))), some (.inl a2_), some (.inl 0), some (.inl 0)], [], Sx11_)) rfl ?_
  refine (vl_71 a2_ ii_ bb_ S0_ h2_ hst_ _) 0 0 Sx11_ hIx12_ hFx15_ ⟨?_, ?_, ?_, ?_, trivial⟩ (Nat.lt_succ_self _)
  · omega
  · rfl
  · exact n15_
  · exact hCx16_
end
/-! 99.zl3c -/
section
/-! Layout.drawBoxes -/
def vw_72 : sx_Wl := ([(4, 0), (4, 1), (4, 9), (4, 10), (4, 11)], [48, 49], [])
def vq_72 (a2_ : Int) (ii_ : Nat) (bb_ : Nat) (S0_ : sm_S) (u_ : Option sm_V) (S1_ : sm_S) : Prop := u_ = none ∧ gi S1_ ∧ ai_fr (sx_W vw_72) S0_ S1_ ∧ (cdf ii_ S0_ S1_ ∧ (True))
set_option maxHeartbeats 400000 in
theorem vl_72 {sc_ : Nat × (Nat → Int)} (a2_ : Int) (ii_ : Nat) (bb_ : Nat) (S0_ : sm_S) (h2_ : 0 ≤ a2_ ∧ a2_ ≤ 162) (hst_ : bst bb_ S0_) (hox_ : ∀ p_ : Nat, p_ < 4712 → S0_.2.2.1 22 (0 + bb_) p_ < a2_) (hnx_ : ∀ c_ : Nat, c_ < 162 → S0_.2.2.1 49 (0 + ii_) c_ = btf bb_ S0_ c_) (hsm_ : ssm (btf bb_ S0_) a2_.toNat ≤ 2000) (hzz_ : ∀ c_ : Nat, a2_ ≤ (c_ : Int) → btf bb_ S0_ c_ = 0) : ∀ nn_ : Nat, (∀ (al_ : Int) (k_ : Int) (S_ : sm_S), gi S_ → ai_fr (sx_W vw_72) S0_ S_ → ((0 ≤ k_ ∧ k_ ≤ a2_ ∧ 0 ≤ al_ ∧ al_ ≤ 2000) ∧ (al_ = ssm (btf bb_ S0_) k_.toNat) ∧ (∀ c_ : Nat, (c_ : Int) < k_ → S_.2.2.1 49 (0 + ii_) c_ = ssm (btf bb_ S0_) c_) ∧ (∀ c_ : Nat, k_ ≤ (c_ : Int) → c_ < 162 → S_.2.2.1 49 (0 + ii_) c_ = btf bb_ S0_ c_) ∧ (cdf ii_ S0_ S_) ∧ True) → ((1000 - k_).toNat) < nn_ → sm_T (mt_P sc_) 4 72 (5, [some (.inr (.inr (some (4, ii_)))), some (.inr (.inr (some (0, bb_)))), some (.inl a2_), some (.inl al_), some (.inl k_), none], [], S_) (fun ro9_ => ∃ u_ S1_, ro9_ = (.inl u_, S1_, 0) ∧ vq_72 a2_ ii_ bb_ S0_ u_ S1_)) := by
  intro nn_
  induction nn_ with
  | zero => exact fun _ _ _ _ _ _ h_ => absurd h_ (Nat.not_lt_zero _)
  | succ nn_ ih_ =>
    rintro al_ k_ S_ hI_ hF_ ⟨h0_, hal_, hn1_, hn2_, hC_, -⟩ hm_
    refine sm_T_go 2 (c1 := (8, [some (.inr (.inr (some (4, ii_)))), some (.inr (.inr (some (0, bb_)))), some (.inl a2_), some (.inl al_), some (.inl k_), none], [.inl a2_, .inl k_], S_)) rfl ?_
    refine sm_T_br (a := 3) (z := 31) rfl (fun cx1_ => ?_) (fun cx1_ => ?_)
    · have cx1_ : a2_ ≤ k_ := of_decide_eq_true cx1_
      have f22_ : S_.2.2.1 22 (0 + bb_) = S0_.2.2.1 22 (0 + bb_) := fr_arr hF_ rfl
      have f23_ : S_.2.2.1 23 (0 + bb_) = S0_.2.2.1 23 (0 + bb_) := fr_arr hF_ rfl
      have B9_ : btot bb_ S_ = btot bb_ S0_ := btot_cg f22_ f23_ (hF_.1 0 bb_ 0 rfl) (hF_.1 0 bb_ 2 rfl)
      have T9_ : ∀ c_ : Nat, c_ < 162 → S_.2.2.1 49 (0 + ii_) c_ + btf bb_ S0_ c_ ≤ 2000 := by (intro c_ hc_; by_cases y9_ : (c_ : Int) < k_; (have q9_ := ssm_mo (btf_0 bb_ S0_) (n_ := c_ + 1) (m_ := a2_.toNat) (by omega); rw [ssm_s] at q9_; rw [hn1_ c_ y9_]; omega); (rw [hn2_ c_ (by omega) hc_, hzz_ c_ (by omega)]; omega))
      have hIx2_ : gi (sm_pI S_ 4 ii_ 11 1) := gi_pI hI_ (show 0 ≤ 1 ∧ 1 ≤ 1 from ⟨by omega, by omega⟩)
      have hFx3_ : ai_fr (sx_W vw_72) S0_ (sm_pI S_ 4 ii_ 11 1) := ai_fr_tr hF_ (ai_fr_pI rfl)
      have hCx4_ : cdf ii_ S0_ (sm_pI S_ 4 ii_ 11 1) := cdf_pI hC_ (Or.inr (by rw [show cof 4 = 0 from rfl] <;> omega))
      refine sm_T_go 5 (c1 := (46, [some (.inr (.inr (some (4, ii_)))), some (.inr (.inr (some (0, bb_)))), some (.inl a2_), some (.inl al_), some (.inl k_), none], [.inr (.inr (some (0, bb_))), .inr (.inr (some (4, ii_)))], sm_pI S_ 4 ii_ 11 1)) rfl ?_
      refine sm_T_cal (d1 := 3) (Q1 := vq_73 ii_ bb_ (sm_pI S_ 4 ii_ 11 1)) rfl rfl (by decide) (vc_73 ii_ bb_ (sm_pI S_ 4 ii_ 11 1) hIx2_ (by exact hIx2_) (by exact bst_cg hst_ f22_ f23_) (by (intro c_ hc_; rw [rd_fa, btot_cg (S_ := S_) (S'_ := sm_pI S_ 4 ii_ 11 1) rfl rfl (rf_nt (by decide)) (rf_nt (by decide)), B9_]; have w9_ := T9_ c_ hc_; unfold btf at w9_; omega)) (by (intro _ c_ hc_; rw [rd_fa, btot_cg (S_ := S_) (S'_ := sm_pI S_ 4 ii_ 11 1) rfl rfl (rf_nt (by decide)) (rf_nt (by decide)), B9_]; have w9_ := T9_ c_ hc_; unfold btf at w9_; omega))) (fun u_ Sx5_ px8_ => ?_)
      obtain ⟨rfl, hIx6_, hFx7_, px8_⟩ := px8_
      have hFx9_ : ai_fr (sx_W vw_72) S0_ Sx5_ := ai_fr_tr hFx3_ (fr_le hFx7_ rfl)
      obtain ⟨dx11_, px8_⟩ := px8_
      have hCx10_ : cdf ii_ S0_ Sx5_ := cdf_tr hCx4_ (cdf_cg (by omega) dx11_)
      have hIx12_ : gi (sm_pI Sx5_ 4 ii_ 1 al_) := gi_pI hIx6_ (show 0 ≤ al_ ∧ al_ ≤ 2000 from ⟨by omega, by omega⟩)
      have hFx13_ : ai_fr (sx_W vw_72) S0_ (sm_pI Sx5_ 4 ii_ 1 al_) := ai_fr_tr hFx9_ (ai_fr_pI rfl)
      have hCx14_ : cdf ii_ S0_ (sm_pI Sx5_ 4 ii_ 1 al_) := cdf_pI hCx10_ (Or.inr (by rw [show cof 4 = 0 from rfl] <;> omega))
      have hIx15_ : gi (sm_pI (sm_pI Sx5_ 4 ii_ 1 al_) 4 ii_ 0 1) := gi_pI hIx12_ (show 0 ≤ 1 ∧ 1 ≤ 1 from ⟨by omega, by omega⟩)
      have hFx16_ : ai_fr (sx_W vw_72) S0_ (sm_pI (sm_pI Sx5_ 4 ii_ 1 al_) 4 ii_ 0 1) := ai_fr_tr hFx13_ (ai_fr_pI rfl)
      have hCx17_ : cdf ii_ S0_ (sm_pI (sm_pI Sx5_ 4 ii_ 1 al_) 4 ii_ 0 1) := cdf_pI hCx14_ (Or.inr (by rw [show cof 4 = 0 from rfl] <;> omega))
      refine sm_T_go 7 (c1 := (60, [some (.inr (.inr (some (4, ii_)))), some (.inr (.inr (some (0, bb_)))), some (.inl a2_), some (.inl al_), some (.inl k_), none], [.inr (.inr (some (4, ii_)))], sm_pI (sm_pI Sx5_ 4 ii_ 1 al_) 4 ii_ 0 1)) rfl ?_
      refine sm_T_cal (d1 := 0) (Q1 := vq_68 ii_ (sm_pI (sm_pI Sx5_ 4 ii_ 1 al_) 4 ii_ 0 1)) rfl rfl (by decide) (vc_68 ii_ (sm_pI (sm_pI Sx5_ 4 ii_ 1 al_) 4 ii_ 0 1) hIx15_ ) (fun u_ Sx18_ px21_ => ?_)
      obtain ⟨rfl, hIx19_, hFx20_, px21_⟩ := px21_
      have hFx22_ : ai_fr (sx_W vw_72) S0_ Sx18_ := ai_fr_tr hFx16_ (fr_le hFx20_ rfl)
      obtain ⟨dx24_, px21_⟩ := px21_
      have hCx23_ : cdf ii_ S0_ Sx18_ := cdf_tr hCx17_ (cdf_cg (by omega) dx24_)
      refine sm_T_rv rfl ⟨_, _, rfl, rfl, hIx19_, hFx22_, ?_⟩
      refine ⟨hCx23_, ?_⟩
      trivial
    · have cx1_ : ¬ (a2_ ≤ k_) := of_decide_eq_false cx1_
      have n9_ := hn2_ k_.toNat (by omega) (by omega)
      have m9_ := ssm_mo (btf_0 bb_ S0_) (n_ := k_.toNat + 1) (m_ := a2_.toNat) (by omega)
      rw [ssm_s] at m9_
      have z9_ := btf_0 bb_ S0_ k_.toNat
      refine sm_T_go 3 (c1 := (17, [some (.inr (.inr (some (4, ii_)))), some (.inr (.inr (some (0, bb_)))), some (.inl a2_), some (.inl al_), some (.inl k_), none], [.inl k_, .inr (.inr (some (49, (0 + ii_))))], S_)) rfl ?_
      refine sm_T_iald (n := 162) rfl rfl (by omega) (by omega) ?_
      have bx25_ : 0 ≤ S_.2.2.1 49 (0 + ii_) k_.toNat ∧ S_.2.2.1 49 (0 + ii_) k_.toNat ≤ 20000 := hI_.2 49 (0 + ii_) _
      refine sm_T_go 5 (c1 := (27, [some (.inr (.inr (some (4, ii_)))), some (.inr (.inr (some (0, bb_)))), some (.inl a2_), some (.inl al_), some (.inl k_), some (.inl (S_.2.2.1 49 (0 + ii_) k_.toNat))], [.inl al_, .inl k_, .inr (.inr (some (49, (0 + ii_))))], S_)) rfl ?_
      refine sm_T_iast (n := 162) rfl rfl (by omega) (by omega) ?_
      have hIx26_ : gi (sm_aI S_ 49 (0 + ii_) k_.toNat al_) := gi_aI hI_ (show 0 ≤ al_ ∧ al_ ≤ 20000 from ⟨by omega, by omega⟩)
      have hFx27_ : ai_fr (sx_W vw_72) S0_ (sm_aI S_ 49 (0 + ii_) k_.toNat al_) := ai_fr_tr hF_ (ai_fr_aI rfl)
      have hCx28_ : cdf ii_ S0_ (sm_aI S_ 49 (0 + ii_) k_.toNat al_) := cdf_aI hC_ (Or.inr (by rw [show cof 49 = 0 from rfl] <;> omega))
      refine sm_T_go 2 (c1 := (31, [some (.inr (.inr (some (4, ii_)))), some (.inr (.inr (some (0, bb_)))), some (.inl a2_), some (.inl al_), some (.inl k_), some (.inl (S_.2.2.1 49 (0 + ii_) k_.toNat))], [.inl (S_.2.2.1 49 (0 + ii_) k_.toNat), .inl al_], sm_aI S_ 49 (0 + ii_) k_.toNat al_)) rfl ?_
      refine sm_T_bin (w := al_ + (S_.2.2.1 49 (0 + ii_) k_.toNat)) rfl (bi_add (by omega) (by omega) (by omega)) ?_ -- pc_ 31
      refine sm_T_go 1 (c1 := (33, [some (.inr (.inr (some (4, ii_)))), some (.inr (.inr (some (0, bb_)))), some (.inl a2_), some (.inl (al_ + (S_.2.2.1 49 (0 + ii_) k_.toNat))), some (.inl k_), some (.inl (S_.2.2.1 49 (0 + ii_) k_.toNat))], [], sm_aI S_ 49 (0 + ii_) k_.toNat al_)) rfl ?_
      refine sm_T_inc (a := 4) (z := 1) (v := k_) (w := k_ + 1) rfl rfl (by omega) (by omega) (by omega) ?_ -- pc_ 33
      refine sm_T_go 1 (c1 := (5, [some (.inr (.inr (some (4, ii_)))), some (.inr (.inr (some (0, bb_)))), some (.inl a2_), some (.inl (al_ + (S_.2.2.1 49 (0 + ii_) k_.toNat))), some (.inl (k_ + 1)), some (.inl (S_.2.2.1 49 (0 + ii_) k_.toNat))], [], sm_aI S_ 49 (0 + ii_) k_.toNat al_)) rfl ?_
      refine sm_T_wk [some (.inr (.inr (some (4, ii_)))), some (.inr (.inr (some (0, bb_)))), some (.inl a2_), some (.inl (al_ + (S_.2.2.1 49 (0 + ii_) k_.toNat))), some (.inl (k_ + 1)), none] (by exact ⟨rfl, rfl, rfl, rfl, rfl, trivial⟩) ?_
      refine ih_ (al_ + (S_.2.2.1 49 (0 + ii_) k_.toNat)) (k_ + 1) (sm_aI S_ 49 (0 + ii_) k_.toNat al_) hIx26_ hFx27_ ⟨?_, ?_, ?_, ?_, ?_, trivial⟩ ?_
      · omega
      · (rw [show (k_ + 1).toNat = k_.toNat + 1 by omega, ssm_s]; omega)
      · intro c_ hc_
        rw [rd_eq]
        by_cases z_ : c_ = k_.toNat
        · rw [if_pos z_, z_]; exact hal_
        · rw [if_neg z_]; exact hn1_ c_ (by omega)
      · intro c_ hc_ h_
        rw [rd_eq, if_neg (by omega)]
        exact hn2_ c_ (by omega) h_
      · exact hCx28_
      · omega
set_option maxHeartbeats 400000 in
theorem vc_72 {sc_ : Nat × (Nat → Int)} (a2_ : Int) (ii_ : Nat) (bb_ : Nat) (S0_ : sm_S) (hI_ : gi S0_) (h2_ : 0 ≤ a2_ ∧ a2_ ≤ 162) (hst_ : bst bb_ S0_) (hox_ : ∀ p_ : Nat, p_ < 4712 → S0_.2.2.1 22 (0 + bb_) p_ < a2_) (hnx_ : ∀ c_ : Nat, c_ < 162 → S0_.2.2.1 49 (0 + ii_) c_ = btf bb_ S0_ c_) (hsm_ : ssm (btf bb_ S0_) a2_.toNat ≤ 2000) (hzz_ : ∀ c_ : Nat, a2_ ≤ (c_ : Int) → btf bb_ S0_ c_ = 0) : sm_T (mt_P sc_) 4 72 (0, [some (.inr (.inr (some (4, ii_)))), some (.inr (.inr (some (0, bb_)))), some (.inl a2_), none, none, none], [], S0_) (fun ro9_ => ∃ u_ S1_, ro9_ = (.inl u_, S1_, 0) ∧ vq_72 a2_ ii_ bb_ S0_ u_ S1_) := by
  have hF_ : ai_fr (sx_W vw_72) S0_ S0_ := ai_fr_rf
  have hC_ : cdf ii_ S0_ S0_ := cdf_rf
  refine sm_T_go 4 (c1 := (5, [some (.inr (.inr (some (4, ii_)))), some (.inr (.inr (some (0, bb_)))), some (.inl a2_), some (.inl 0), some (.inl 0), none], [], S0_)) rfl ?_
  refine (vl_72 a2_ ii_ bb_ S0_ h2_ hst_ hox_ hnx_ hsm_ hzz_ _) 0 0 S0_ hI_ hF_ ⟨?_, ?_, ?_, ?_, ?_, trivial⟩ (Nat.lt_succ_self _)
  · omega
  · rfl
  · (intro c_ hc_; exfalso; omega)
  · (intro c_ hc_ h_; exact hnx_ c_ h_)
  · exact hC_
end
/-! 99.zl4a -/
section
/-! boxes judged; written by wip/p55/gen/vg -/
/-! Layout.isThin -/
def vw_76 : sx_Wl := ([], [], [])
def vq_76 (a1_ : Int) (ii_ : Nat) (S0_ : sm_S) (u_ : Option sm_V) (S1_ : sm_S) : Prop := S0_ = S1_ ∧ ∃ v_ : Int, u_ = some (.inl v_) ∧ ((0 ≤ v_ ∧ v_ ≤ 1))
set_option maxHeartbeats 400000 in
theorem vc_76 {sc_ : Nat × (Nat → Int)} (a1_ : Int) (ii_ : Nat) (S0_ : sm_S) (hI_ : gi S0_) (ha1_ : 0 ≤ a1_ ∧ a1_ ≤ 1999) : sm_T (mt_P sc_) 0 76 (0, [some (.inr (.inr (some (4, ii_)))), some (.inl a1_), none], [], S0_) (fun ro9_ => ∃ u_ S1_, ro9_ = (.inl u_, S1_, 0) ∧ vq_76 a1_ ii_ S0_ u_ S1_) := by
  have hF_ : ai_fr (sx_W vw_76) S0_ S0_ := ai_fr_rf
  refine sm_T_go 2 (c1 := (2, [some (.inr (.inr (some (4, ii_)))), some (.inl a1_), none], [.inl a1_, .inl 5], S0_)) rfl ?_
  refine sm_T_bin (w := 5 * a1_) rfl (bi_mul (by omega) (by omega) (by omega)) ?_ -- pc_ 2
  refine sm_T_go 5 (c1 := (10, [some (.inr (.inr (some (4, ii_)))), some (.inl a1_), some (.inl (5 * a1_))], [.inl 3, .inl (5 * a1_), .inr (.inr (some (48, (0 + ii_))))], S0_)) rfl ?_
  refine sm_T_bin (w := 5 * a1_ + 3) rfl (bi_add (by omega) (by omega) (by omega)) ?_ -- pc_ 10
  refine sm_T_iald (n := 10000) rfl rfl (by omega) (by omega) ?_
  have bx1_ : (-1000) ≤ S0_.2.2.1 48 (0 + ii_) (5 * a1_ + 3).toNat ∧ S0_.2.2.1 48 (0 + ii_) (5 * a1_ + 3).toNat ≤ 1000 := hI_.2 48 (0 + ii_) _
  refine sm_T_go 4 (c1 := (18, [some (.inr (.inr (some (4, ii_)))), some (.inl a1_), some (.inl (5 * a1_))], [.inl 1, .inl (5 * a1_), .inr (.inr (some (48, (0 + ii_)))), .inl (S0_.2.2.1 48 (0 + ii_) (5 * a1_ + 3).toNat)], S0_)) rfl ?_
  refine sm_T_bin (w := 5 * a1_ + 1) rfl (bi_add (by omega) (by omega) (by omega)) ?_ -- pc_ 18
  refine sm_T_iald (n := 10000) rfl rfl (by omega) (by omega) ?_
  have bx2_ : (-1000) ≤ S0_.2.2.1 48 (0 + ii_) (5 * a1_ + 1).toNat ∧ S0_.2.2.1 48 (0 + ii_) (5 * a1_ + 1).toNat ≤ 1000 := hI_.2 48 (0 + ii_) _
  refine sm_T_bin (w := (S0_.2.2.1 48 (0 + ii_) (5 * a1_ + 3).toNat) - (S0_.2.2.1 48 (0 + ii_) (5 * a1_ + 1).toNat)) rfl (bi_sub (by omega) (by omega) (by omega)) ?_ -- pc_ 20
  refine sm_T_go 1 (c1 := (22, [some (.inr (.inr (some (4, ii_)))), some (.inl a1_), some (.inl (5 * a1_))], [.inl 2, .inl ((S0_.2.2.1 48 (0 + ii_) (5 * a1_ + 3).toNat) - (S0_.2.2.1 48 (0 + ii_) (5 * a1_ + 1).toNat))], S0_)) rfl ?_
  refine sm_T_br (a := 2) (z := 24) rfl (fun cx3_ => ?_) (fun cx3_ => ?_)
  · have cx3_ : (S0_.2.2.1 48 (0 + ii_) (5 * a1_ + 3).toNat) - (S0_.2.2.1 48 (0 + ii_) (5 * a1_ + 1).toNat) < 2 := of_decide_eq_true cx3_
    refine sm_T_go 2 (c1 := (51, [some (.inr (.inr (some (4, ii_)))), some (.inl a1_), some (.inl (5 * a1_))], [.inl 1], S0_)) rfl ?_
    refine sm_T_rz rfl (by omega) ⟨_, _, rfl, rfl, _, rfl, ?_⟩
    refine ⟨by omega, by omega⟩
  · have cx3_ : ¬ ((S0_.2.2.1 48 (0 + ii_) (5 * a1_ + 3).toNat) - (S0_.2.2.1 48 (0 + ii_) (5 * a1_ + 1).toNat) < 2) := of_decide_eq_false cx3_
    refine sm_T_go 4 (c1 := (31, [some (.inr (.inr (some (4, ii_)))), some (.inl a1_), some (.inl (5 * a1_))], [.inl 4, .inl (5 * a1_), .inr (.inr (some (48, (0 + ii_))))], S0_)) rfl ?_
    refine sm_T_bin (w := 5 * a1_ + 4) rfl (bi_add (by omega) (by omega) (by omega)) ?_ -- pc_ 31
    refine sm_T_iald (n := 10000) rfl rfl (by omega) (by omega) ?_
    have bx4_ : (-1000) ≤ S0_.2.2.1 48 (0 + ii_) (5 * a1_ + 4).toNat ∧ S0_.2.2.1 48 (0 + ii_) (5 * a1_ + 4).toNat ≤ 1000 := hI_.2 48 (0 + ii_) _
    refine sm_T_go 4 (c1 := (39, [some (.inr (.inr (some (4, ii_)))), some (.inl a1_), some (.inl (5 * a1_))], [.inl 2, .inl (5 * a1_), .inr (.inr (some (48, (0 + ii_)))), .inl (S0_.2.2.1 48 (0 + ii_) (5 * a1_ + 4).toNat)], S0_)) rfl ?_
    refine sm_T_bin (w := 5 * a1_ + 2) rfl (bi_add (by omega) (by omega) (by omega)) ?_ -- pc_ 39
    refine sm_T_iald (n := 10000) rfl rfl (by omega) (by omega) ?_
    have bx5_ : (-1000) ≤ S0_.2.2.1 48 (0 + ii_) (5 * a1_ + 2).toNat ∧ S0_.2.2.1 48 (0 + ii_) (5 * a1_ + 2).toNat ≤ 1000 := hI_.2 48 (0 + ii_) _
    refine sm_T_bin (w := (S0_.2.2.1 48 (0 + ii_) (5 * a1_ + 4).toNat) - (S0_.2.2.1 48 (0 + ii_) (5 * a1_ + 2).toNat)) rfl (bi_sub (by omega) (by omega) (by omega)) ?_ -- pc_ 41
    refine sm_T_go 1 (c1 := (43, [some (.inr (.inr (some (4, ii_)))), some (.inl a1_), some (.inl (5 * a1_))], [.inl 2, .inl ((S0_.2.2.1 48 (0 + ii_) (5 * a1_ + 4).toNat) - (S0_.2.2.1 48 (0 + ii_) (5 * a1_ + 2).toNat))], S0_)) rfl ?_
    refine sm_T_br (a := 3) (z := 7) rfl (fun cx6_ => ?_) (fun cx6_ => ?_)
    · have cx6_ : 2 ≤ (S0_.2.2.1 48 (0 + ii_) (5 * a1_ + 4).toNat) - (S0_.2.2.1 48 (0 + ii_) (5 * a1_ + 2).toNat) := of_decide_eq_true cx6_
      refine sm_T_go 1 (c1 := (51, [some (.inr (.inr (some (4, ii_)))), some (.inl a1_), some (.inl (5 * a1_))], [.inl 0], S0_)) rfl ?_
      refine sm_T_rz rfl (by omega) ⟨_, _, rfl, rfl, _, rfl, ?_⟩
      refine ⟨by omega, by omega⟩
    · have cx6_ : ¬ (2 ≤ (S0_.2.2.1 48 (0 + ii_) (5 * a1_ + 4).toNat) - (S0_.2.2.1 48 (0 + ii_) (5 * a1_ + 2).toNat)) := of_decide_eq_false cx6_
      refine sm_T_go 2 (c1 := (51, [some (.inr (.inr (some (4, ii_)))), some (.inl a1_), some (.inl (5 * a1_))], [.inl 1], S0_)) rfl ?_
      refine sm_T_rz rfl (by omega) ⟨_, _, rfl, rfl, _, rfl, ?_⟩
      refine ⟨by omega, by omega⟩
end
/-! 99.zl4b -/
section
/-! Layout.isTooNear -/
def vw_77 : sx_Wl := ([], [], [])
def vq_77 (a1_ : Int) (a2_ : Int) (ii_ : Nat) (S0_ : sm_S) (u_ : Option sm_V) (S1_ : sm_S) : Prop := S0_ = S1_ ∧ ∃ v_ : Int, u_ = some (.inl v_) ∧ ((0 ≤ v_ ∧ v_ ≤ 1))
set_option maxHeartbeats 400000 in
theorem vc_77 {sc_ : Nat × (Nat → Int)} (a1_ : Int) (a2_ : Int) (ii_ : Nat) (S0_ : sm_S) (hI_ : gi S0_) (ha1_ : 0 ≤ a1_ ∧ a1_ ≤ 1999) (ha2_ : 0 ≤ a2_ ∧ a2_ ≤ 1999) : sm_T (mt_P sc_) 0 77 (0, [some (.inr (.inr (some (4, ii_)))), some (.inl a1_), some (.inl a2_), none, none, none, none], [], S0_) (fun ro9_ => ∃ u_ S1_, ro9_ = (.inl u_, S1_, 0) ∧ vq_77 a1_ a2_ ii_ S0_ u_ S1_) := by
  have hF_ : ai_fr (sx_W vw_77) S0_ S0_ := ai_fr_rf
  refine sm_T_go 2 (c1 := (2, [some (.inr (.inr (some (4, ii_)))), some (.inl a1_), some (.inl a2_), none, none, none, none], [.inl a1_, .inl 5], S0_)) rfl ?_
  refine sm_T_bin (w := 5 * a1_) rfl (bi_mul (by omega) (by omega) (by omega)) ?_ -- pc_ 2
  refine sm_T_go 3 (c1 := (6, [some (.inr (.inr (some (4, ii_)))), some (.inl a1_), some (.inl a2_), some (.inl (5 * a1_)), none, none, none], [.inl a2_, .inl 5], S0_)) rfl ?_
  refine sm_T_bin (w := 5 * a2_) rfl (bi_mul (by omega) (by omega) (by omega)) ?_ -- pc_ 6
  refine sm_T_go 4 (c1 := (14, [some (.inr (.inr (some (4, ii_)))), some (.inl a1_), some (.inl a2_), some (.inl (5 * a1_)), some (.inl (5 * a2_)), none, none], [.inl (5 * a1_), .inr (.inr (some (48, (0 + ii_))))], S0_)) rfl ?_
  refine sm_T_iald (n := 10000) rfl rfl (by omega) (by omega) ?_
  have bx1_ : (-1000) ≤ S0_.2.2.1 48 (0 + ii_) (5 * a1_).toNat ∧ S0_.2.2.1 48 (0 + ii_) (5 * a1_).toNat ≤ 1000 := hI_.2 48 (0 + ii_) _
  refine sm_T_go 3 (c1 := (21, [some (.inr (.inr (some (4, ii_)))), some (.inl a1_), some (.inl a2_), some (.inl (5 * a1_)), some (.inl (5 * a2_)), none, none], [.inl (5 * a2_), .inr (.inr (some (48, (0 + ii_)))), .inl (S0_.2.2.1 48 (0 + ii_) (5 * a1_).toNat)], S0_)) rfl ?_
  refine sm_T_iald (n := 10000) rfl rfl (by omega) (by omega) ?_
  have bx2_ : (-1000) ≤ S0_.2.2.1 48 (0 + ii_) (5 * a2_).toNat ∧ S0_.2.2.1 48 (0 + ii_) (5 * a2_).toNat ≤ 1000 := hI_.2 48 (0 + ii_) _
  refine sm_T_br (a := 0) (z := 5) rfl (fun cx3_ => ?_) (fun cx3_ => ?_)
  · have cx3_ : (S0_.2.2.1 48 (0 + ii_) (5 * a1_).toNat) = (S0_.2.2.1 48 (0 + ii_) (5 * a2_).toNat) := of_decide_eq_true cx3_
    refine sm_T_go 4 (c1 := (34, [some (.inr (.inr (some (4, ii_)))), some (.inl a1_), some (.inl a2_), some (.inl (5 * a1_)), some (.inl (5 * a2_)), none, none], [.inl 1, .inl (5 * a2_), .inr (.inr (some (48, (0 + ii_))))], S0_)) rfl ?_
    refine sm_T_bin (w := 5 * a2_ + 1) rfl (bi_add (by omega) (by omega) (by omega)) ?_ -- pc_ 34
    refine sm_T_iald (n := 10000) rfl rfl (by omega) (by omega) ?_
    have bx4_ : (-1000) ≤ S0_.2.2.1 48 (0 + ii_) (5 * a2_ + 1).toNat ∧ S0_.2.2.1 48 (0 + ii_) (5 * a2_ + 1).toNat ≤ 1000 := hI_.2 48 (0 + ii_) _
    refine sm_T_go 4 (c1 := (42, [some (.inr (.inr (some (4, ii_)))), some (.inl a1_), some (.inl a2_), some (.inl (5 * a1_)), some (.inl (5 * a2_)), none, none], [.inl 3, .inl (5 * a1_), .inr (.inr (some (48, (0 + ii_)))), .inl (S0_.2.2.1 48 (0 + ii_) (5 * a2_ + 1).toNat)], S0_)) rfl ?_
    refine sm_T_bin (w := 5 * a1_ + 3) rfl (bi_add (by omega) (by omega) (by omega)) ?_ -- pc_ 42
    refine sm_T_iald (n := 10000) rfl rfl (by omega) (by omega) ?_
    have bx5_ : (-1000) ≤ S0_.2.2.1 48 (0 + ii_) (5 * a1_ + 3).toNat ∧ S0_.2.2.1 48 (0 + ii_) (5 * a1_ + 3).toNat ≤ 1000 := hI_.2 48 (0 + ii_) _
    refine sm_T_bin (w := (S0_.2.2.1 48 (0 + ii_) (5 * a2_ + 1).toNat) - (S0_.2.2.1 48 (0 + ii_) (5 * a1_ + 3).toNat)) rfl (bi_sub (by omega) (by omega) (by omega)) ?_ -- pc_ 44
    refine sm_T_go 4 (c1 := (51, [some (.inr (.inr (some (4, ii_)))), some (.inl a1_), some (.inl a2_), some (.inl (5 * a1_)), some (.inl (5 * a2_)), none, none], [.inl 1, .inl (5 * a1_), .inr (.inr (some (48, (0 + ii_)))), .inl ((S0_.2.2.1 48 (0 + ii_) (5 * a2_ + 1).toNat) - (S0_.2.2.1 48 (0 + ii_) (5 * a1_ + 3).toNat))], S0_)) rfl ?_
    refine sm_T_bin (w := 5 * a1_ + 1) rfl (bi_add (by omega) (by omega) (by omega)) ?_ -- pc_ 51
    refine sm_T_iald (n := 10000) rfl rfl (by omega) (by omega) ?_
    have bx6_ : (-1000) ≤ S0_.2.2.1 48 (0 + ii_) (5 * a1_ + 1).toNat ∧ S0_.2.2.1 48 (0 + ii_) (5 * a1_ + 1).toNat ≤ 1000 := hI_.2 48 (0 + ii_) _
    refine sm_T_go 4 (c1 := (60, [some (.inr (.inr (some (4, ii_)))), some (.inl a1_), some (.inl a2_), some (.inl (5 * a1_)), some (.inl (5 * a2_)), none, none], [.inl 3, .inl (5 * a2_), .inr (.inr (some (48, (0 + ii_)))), .inl (S0_.2.2.1 48 (0 + ii_) (5 * a1_ + 1).toNat), .inl ((S0_.2.2.1 48 (0 + ii_) (5 * a2_ + 1).toNat) - (S0_.2.2.1 48 (0 + ii_) (5 * a1_ + 3).toNat))], S0_)) rfl ?_
    refine sm_T_bin (w := 5 * a2_ + 3) rfl (bi_add (by omega) (by omega) (by omega)) ?_ -- pc_ 60
    refine sm_T_iald (n := 10000) rfl rfl (by omega) (by omega) ?_
    have bx7_ : (-1000) ≤ S0_.2.2.1 48 (0 + ii_) (5 * a2_ + 3).toNat ∧ S0_.2.2.1 48 (0 + ii_) (5 * a2_ + 3).toNat ≤ 1000 := hI_.2 48 (0 + ii_) _
    refine sm_T_bin (w := (S0_.2.2.1 48 (0 + ii_) (5 * a1_ + 1).toNat) - (S0_.2.2.1 48 (0 + ii_) (5 * a2_ + 3).toNat)) rfl (bi_sub (by omega) (by omega) (by omega)) ?_ -- pc_ 62
    refine sm_T_nt (u := some (.inl (sm_mx ((S0_.2.2.1 48 (0 + ii_) (5 * a2_ + 1).toNat) - (S0_.2.2.1 48 (0 + ii_) (5 * a1_ + 3).toNat)) ((S0_.2.2.1 48 (0 + ii_) (5 * a1_ + 1).toNat) - (S0_.2.2.1 48 (0 + ii_) (5 * a2_ + 3).toNat))))) (S1 := S0_) rfl rfl rfl ?_
    have bx8_ := sm_mx_d ((S0_.2.2.1 48 (0 + ii_) (5 * a2_ + 1).toNat) - (S0_.2.2.1 48 (0 + ii_) (5 * a1_ + 3).toNat)) ((S0_.2.2.1 48 (0 + ii_) (5 * a1_ + 1).toNat) - (S0_.2.2.1 48 (0 + ii_) (5 * a2_ + 3).toNat))
    refine sm_T_go 3 (c1 := (71, [some (.inr (.inr (some (4, ii_)))), some (.inl a1_), some (.inl a2_), some (.inl (5 * a1_)), some (.inl (5 * a2_)), some (.inl (sm_mx ((S0_.2.2.1 48 (0 + ii_) (5 * a2_ + 1).toNat) - (S0_.2.2.1 48 (0 + ii_) (5 * a1_ + 3).toNat)) ((S0_.2.2.1 48 (0 + ii_) (5 * a1_ + 1).toNat) - (S0_.2.2.1 48 (0 + ii_) (5 * a2_ + 3).toNat)))), none], [.inl 2, .inl (sm_mx ((S0_.2.2.1 48 (0 + ii_) (5 * a2_ + 1).toNat) - (S0_.2.2.1 48 (0 + ii_) (5 * a1_ + 3).toNat)) ((S0_.2.2.1 48 (0 + ii_) (5 * a1_ + 1).toNat) - (S0_.2.2.1 48 (0 + ii_) (5 * a2_ + 3).toNat)))], S0_)) rfl ?_
    refine sm_T_br (a := 2) (z := 5) rfl (fun cx9_ => ?_) (fun cx9_ => ?_)
    · have cx9_ : (sm_mx ((S0_.2.2.1 48 (0 + ii_) (5 * a2_ + 1).toNat) - (S0_.2.2.1 48 (0 + ii_) (5 * a1_ + 3).toNat)) ((S0_.2.2.1 48 (0 + ii_) (5 * a1_ + 1).toNat) - (S0_.2.2.1 48 (0 + ii_) (5 * a2_ + 3).toNat))) < 2 := of_decide_eq_true cx9_
      refine sm_T_go 4 (c1 := (83, [some (.inr (.inr (some (4, ii_)))), some (.inl a1_), some (.inl a2_), some (.inl (5 * a1_)), some (.inl (5 * a2_)), some (.inl (sm_mx ((S0_.2.2.1 48 (0 + ii_) (5 * a2_ + 1).toNat) - (S0_.2.2.1 48 (0 + ii_) (5 * a1_ + 3).toNat)) ((S0_.2.2.1 48 (0 + ii_) (5 * a1_ + 1).toNat) - (S0_.2.2.1 48 (0 + ii_) (5 * a2_ + 3).toNat)))), none], [.inl 2, .inl (5 * a2_), .inr (.inr (some (48, (0 + ii_))))], S0_)) rfl ?_
      refine sm_T_bin (w := 5 * a2_ + 2) rfl (bi_add (by omega) (by omega) (by omega)) ?_ -- pc_ 83
      refine sm_T_iald (n := 10000) rfl rfl (by omega) (by omega) ?_
      have bx10_ : (-1000) ≤ S0_.2.2.1 48 (0 + ii_) (5 * a2_ + 2).toNat ∧ S0_.2.2.1 48 (0 + ii_) (5 * a2_ + 2).toNat ≤ 1000 := hI_.2 48 (0 + ii_) _
      refine sm_T_go 4 (c1 := (91, [some (.inr (.inr (some (4, ii_)))), some (.inl a1_), some (.inl a2_), some (.inl (5 * a1_)), some (.inl (5 * a2_)), some (.inl (sm_mx ((S0_.2.2.1 48 (0 + ii_) (5 * a2_ + 1).toNat) - (S0_.2.2.1 48 (0 + ii_) (5 * a1_ + 3).toNat)) ((S0_.2.2.1 48 (0 + ii_) (5 * a1_ + 1).toNat) - (S0_.2.2.1 48 (0 + ii_) (5 * a2_ + 3).toNat)))), none], [.inl 4, .inl (5 * a1_), .inr (.inr (some (48, (0 + ii_)))), .inl (S0_.2.2.1 48 (0 + ii_) (5 * a2_ + 2).toNat)], S0_)) rfl ?_
      refine sm_T_bin (w := 5 * a1_ + 4) rfl (bi_add (by omega) (by omega) (by omega)) ?_ -- pc_ 91
      refine sm_T_iald (n := 10000) rfl rfl (by omega) (by omega) ?_
      have bx11_ : (-1000) ≤ S0_.2.2.1 48 (0 + ii_) (5 * a1_ + 4).toNat ∧ S0_.2.2.1 48 (0 + ii_) (5 * a1_ + 4).toNat ≤ 1000 := hI_.2 48 (0 + ii_) _
      refine sm_T_bin (w := (S0_.2.2.1 48 (0 + ii_) (5 * a2_ + 2).toNat) - (S0_.2.2.1 48 (0 + ii_) (5 * a1_ + 4).toNat)) rfl (bi_sub (by omega) (by omega) (by omega)) ?_ -- pc_ 93
      refine sm_T_go 4 (c1 := (100, [some (.inr (.inr (some (4, ii_)))), some (.inl a1_), some (.inl a2_), some (.inl (5 * a1_)), some (.inl (5 * a2_)), some (.inl (sm_mx ((S0_.2.2.1 48 (0 + ii_) (5 * a2_ + 1).toNat) - (S0_.2.2.1 48 (0 + ii_) (5 * a1_ + 3).toNat)) ((S0_.2.2.1 48 (0 + ii_) (5 * a1_ + 1).toNat) - (S0_.2.2.1 48 (0 + ii_) (5 * a2_ + 3).toNat)))), none], [.inl 2, .inl (5 * a1_), .inr (.inr (some (48, (0 + ii_)))), .inl ((S0_.2.2.1 48 (0 + ii_) (5 * a2_ + 2).toNat) - (S0_.2.2.1 48 (0 + ii_) (5 * a1_ + 4).toNat))], S0_)) rfl ?_
      refine sm_T_bin (w := 5 * a1_ + 2) rfl (bi_add (by omega) (by omega) (by omega)) ?_ -- pc_ 100
      refine sm_T_iald (n := 10000) rfl rfl (by omega) (by omega) ?_
      have bx12_ : (-1000) ≤ S0_.2.2.1 48 (0 + ii_) (5 * a1_ + 2).toNat ∧ S0_.2.2.1 48 (0 + ii_) (5 * a1_ + 2).toNat ≤ 1000 := hI_.2 48 (0 + ii_) _
      refine sm_T_go 4 (c1 := (109, [some (.inr (.inr (some (4, ii_)))), some (.inl a1_), some (.inl a2_), some (.inl (5 * a1_)), some (.inl (5 * a2_)), some (.inl (sm_mx ((S0_.2.2.1 48 (0 + ii_) (5 * a2_ + 1).toNat) - (S0_.2.2.1 48 (0 + ii_) (5 * a1_ + 3).toNat)) ((S0_.2.2.1 48 (0 + ii_) (5 * a1_ + 1).toNat) - (S0_.2.2.1 48 (0 + ii_) (5 * a2_ + 3).toNat)))), none], [.inl 4, .inl (5 * a2_), .inr (.inr (some (48, (0 + ii_)))), .inl (S0_.2.2.1 48 (0 + ii_) (5 * a1_ + 2).toNat), .inl ((S0_.2.2.1 48 (0 + ii_) (5 * a2_ + 2).toNat) - (S0_.2.2.1 48 (0 + ii_) (5 * a1_ + 4).toNat))], S0_)) rfl ?_
      refine sm_T_bin (w := 5 * a2_ + 4) rfl (bi_add (by omega) (by omega) (by omega)) ?_ -- pc_ 109
      refine sm_T_iald (n := 10000) rfl rfl (by omega) (by omega) ?_
      have bx13_ : (-1000) ≤ S0_.2.2.1 48 (0 + ii_) (5 * a2_ + 4).toNat ∧ S0_.2.2.1 48 (0 + ii_) (5 * a2_ + 4).toNat ≤ 1000 := hI_.2 48 (0 + ii_) _
      refine sm_T_bin (w := (S0_.2.2.1 48 (0 + ii_) (5 * a1_ + 2).toNat) - (S0_.2.2.1 48 (0 + ii_) (5 * a2_ + 4).toNat)) rfl (bi_sub (by omega) (by omega) (by omega)) ?_ -- pc_ 111
      refine sm_T_nt (u := some (.inl (sm_mx ((S0_.2.2.1 48 (0 + ii_) (5 * a2_ + 2).toNat) - (S0_.2.2.1 48 (0 + ii_) (5 * a1_ + 4).toNat)) ((S0_.2.2.1 48 (0 + ii_) (5 * a1_ + 2).toNat) - (S0_.2.2.1 48 (0 + ii_) (5 * a2_ + 4).toNat))))) (S1 := S0_) rfl rfl rfl ?_
      have bx14_ := sm_mx_d ((S0_.2.2.1 48 (0 + ii_) (5 * a2_ + 2).toNat) - (S0_.2.2.1 48 (0 + ii_) (5 * a1_ + 4).toNat)) ((S0_.2.2.1 48 (0 + ii_) (5 * a1_ + 2).toNat) - (S0_.2.2.1 48 (0 + ii_) (5 * a2_ + 4).toNat))
      refine sm_T_go 3 (c1 := (120, [some (.inr (.inr (some (4, ii_)))), some (.inl a1_), some (.inl a2_), some (.inl (5 * a1_)), some (.inl (5 * a2_)), some (.inl (sm_mx ((S0_.2.2.1 48 (0 + ii_) (5 * a2_ + 1).toNat) - (S0_.2.2.1 48 (0 + ii_) (5 * a1_ + 3).toNat)) ((S0_.2.2.1 48 (0 + ii_) (5 * a1_ + 1).toNat) - (S0_.2.2.1 48 (0 + ii_) (5 * a2_ + 3).toNat)))), some (.inl (sm_mx ((S0_.2.2.1 48 (0 + ii_) (5 * a2_ + 2).toNat) - (S0_.2.2.1 48 (0 + ii_) (5 * a1_ + 4).toNat)) ((S0_.2.2.1 48 (0 + ii_) (5 * a1_ + 2).toNat) - (S0_.2.2.1 48 (0 + ii_) (5 * a2_ + 4).toNat))))], [.inl 2, .inl (sm_mx ((S0_.2.2.1 48 (0 + ii_) (5 * a2_ + 2).toNat) - (S0_.2.2.1 48 (0 + ii_) (5 * a1_ + 4).toNat)) ((S0_.2.2.1 48 (0 + ii_) (5 * a1_ + 2).toNat) - (S0_.2.2.1 48 (0 + ii_) (5 * a2_ + 4).toNat)))], S0_)) rfl ?_
      refine sm_T_br (a := 3) (z := 17) rfl (fun cx15_ => ?_) (fun cx15_ => ?_)
      · have cx15_ : 2 ≤ (sm_mx ((S0_.2.2.1 48 (0 + ii_) (5 * a2_ + 2).toNat) - (S0_.2.2.1 48 (0 + ii_) (5 * a1_ + 4).toNat)) ((S0_.2.2.1 48 (0 + ii_) (5 * a1_ + 2).toNat) - (S0_.2.2.1 48 (0 + ii_) (5 * a2_ + 4).toNat))) := of_decide_eq_true cx15_
        refine sm_T_go 1 (c1 := (138, [some (.inr (.inr (some (4, ii_)))), some (.inl a1_), some (.inl a2_), some (.inl (5 * a1_)), some (.inl (5 * a2_)), some (.inl (sm_mx ((S0_.2.2.1 48 (0 + ii_) (5 * a2_ + 1).toNat) - (S0_.2.2.1 48 (0 + ii_) (5 * a1_ + 3).toNat)) ((S0_.2.2.1 48 (0 + ii_) (5 * a1_ + 1).toNat) - (S0_.2.2.1 48 (0 + ii_) (5 * a2_ + 3).toNat)))), some (.inl (sm_mx ((S0_.2.2.1 48 (0 + ii_) (5 * a2_ + 2).toNat) - (S0_.2.2.1 48 (0 + ii_) (5 * a1_ + 4).toNat)) ((S0_.2.2.1 48 (0 + ii_) (5 * a1_ + 2).toNat) - (S0_.2.2.1 48 (0 + ii_) (5 * a2_ + 4).toNat))))], [.inl 0], S0_)) rfl ?_
        refine sm_T_rz rfl (by omega) ⟨_, _, rfl, rfl, _, rfl, ?_⟩
        refine ⟨by omega, by omega⟩
      · have cx15_ : ¬ (2 ≤ (sm_mx ((S0_.2.2.1 48 (0 + ii_) (5 * a2_ + 2).toNat) - (S0_.2.2.1 48 (0 + ii_) (5 * a1_ + 4).toNat)) ((S0_.2.2.1 48 (0 + ii_) (5 * a1_ + 2).toNat) - (S0_.2.2.1 48 (0 + ii_) (5 * a2_ + 4).toNat)))) := of_decide_eq_false cx15_
        refine sm_T_go 1 (c1 := (125, [some (.inr (.inr (some (4, ii_)))), some (.inl a1_), some (.inl a2_), some (.inl (5 * a1_)), some (.inl (5 * a2_)), some (.inl (sm_mx ((S0_.2.2.1 48 (0 + ii_) (5 * a2_ + 1).toNat) - (S0_.2.2.1 48 (0 + ii_) (5 * a1_ + 3).toNat)) ((S0_.2.2.1 48 (0 + ii_) (5 * a1_ + 1).toNat) - (S0_.2.2.1 48 (0 + ii_) (5 * a2_ + 3).toNat)))), some (.inl (sm_mx ((S0_.2.2.1 48 (0 + ii_) (5 * a2_ + 2).toNat) - (S0_.2.2.1 48 (0 + ii_) (5 * a1_ + 4).toNat)) ((S0_.2.2.1 48 (0 + ii_) (5 * a1_ + 2).toNat) - (S0_.2.2.1 48 (0 + ii_) (5 * a2_ + 4).toNat))))], [.inl (sm_mx ((S0_.2.2.1 48 (0 + ii_) (5 * a2_ + 1).toNat) - (S0_.2.2.1 48 (0 + ii_) (5 * a1_ + 3).toNat)) ((S0_.2.2.1 48 (0 + ii_) (5 * a1_ + 1).toNat) - (S0_.2.2.1 48 (0 + ii_) (5 * a2_ + 3).toNat)))], S0_)) rfl ?_
        refine sm_T_b0 (a := 4) (z := 8) rfl (fun cx16_ => ?_) (fun cx16_ => ?_)
        · have cx16_ : 0 < (sm_mx ((S0_.2.2.1 48 (0 + ii_) (5 * a2_ + 1).toNat) - (S0_.2.2.1 48 (0 + ii_) (5 * a1_ + 3).toNat)) ((S0_.2.2.1 48 (0 + ii_) (5 * a1_ + 1).toNat) - (S0_.2.2.1 48 (0 + ii_) (5 * a2_ + 3).toNat))) := of_decide_eq_true cx16_
          refine sm_T_go 2 (c1 := (138, [some (.inr (.inr (some (4, ii_)))), some (.inl a1_), some (.inl a2_), some (.inl (5 * a1_)), some (.inl (5 * a2_)), some (.inl (sm_mx ((S0_.2.2.1 48 (0 + ii_) (5 * a2_ + 1).toNat) - (S0_.2.2.1 48 (0 + ii_) (5 * a1_ + 3).toNat)) ((S0_.2.2.1 48 (0 + ii_) (5 * a1_ + 1).toNat) - (S0_.2.2.1 48 (0 + ii_) (5 * a2_ + 3).toNat)))), some (.inl (sm_mx ((S0_.2.2.1 48 (0 + ii_) (5 * a2_ + 2).toNat) - (S0_.2.2.1 48 (0 + ii_) (5 * a1_ + 4).toNat)) ((S0_.2.2.1 48 (0 + ii_) (5 * a1_ + 2).toNat) - (S0_.2.2.1 48 (0 + ii_) (5 * a2_ + 4).toNat))))], [.inl 1], S0_)) rfl ?_
          refine sm_T_rz rfl (by omega) ⟨_, _, rfl, rfl, _, rfl, ?_⟩
          refine ⟨by omega, by omega⟩
        · have cx16_ : ¬ (0 < (sm_mx ((S0_.2.2.1 48 (0 + ii_) (5 * a2_ + 1).toNat) - (S0_.2.2.1 48 (0 + ii_) (5 * a1_ + 3).toNat)) ((S0_.2.2.1 48 (0 + ii_) (5 * a1_ + 1).toNat) - (S0_.2.2.1 48 (0 + ii_) (5 * a2_ + 3).toNat)))) := of_decide_eq_false cx16_
          refine sm_T_go 1 (c1 := (130, [some (.inr (.inr (some (4, ii_)))), some (.inl a1_), some (.inl a2_), some (.inl (5 * a1_)), some (.inl (5 * a2_)), some (.inl (sm_mx ((S0_.2.2.1 48 (0 + ii_) (5 * a2_ + 1).toNat) - (S0_.2.2.1 48 (0 + ii_) (5 * a1_ + 3).toNat)) ((S0_.2.2.1 48 (0 + ii_) (5 * a1_ + 1).toNat) - (S0_.2.2.1 48 (0 + ii_) (5 * a2_ + 3).toNat)))), some (.inl (sm_mx ((S0_.2.2.1 48 (0 + ii_) (5 * a2_ + 2).toNat) - (S0_.2.2.1 48 (0 + ii_) (5 * a1_ + 4).toNat)) ((S0_.2.2.1 48 (0 + ii_) (5 * a1_ + 2).toNat) - (S0_.2.2.1 48 (0 + ii_) (5 * a2_ + 4).toNat))))], [.inl (sm_mx ((S0_.2.2.1 48 (0 + ii_) (5 * a2_ + 2).toNat) - (S0_.2.2.1 48 (0 + ii_) (5 * a1_ + 4).toNat)) ((S0_.2.2.1 48 (0 + ii_) (5 * a1_ + 2).toNat) - (S0_.2.2.1 48 (0 + ii_) (5 * a2_ + 4).toNat)))], S0_)) rfl ?_
          refine sm_T_b0 (a := 5) (z := 7) rfl (fun cx17_ => ?_) (fun cx17_ => ?_)
          · have cx17_ : (sm_mx ((S0_.2.2.1 48 (0 + ii_) (5 * a2_ + 2).toNat) - (S0_.2.2.1 48 (0 + ii_) (5 * a1_ + 4).toNat)) ((S0_.2.2.1 48 (0 + ii_) (5 * a1_ + 2).toNat) - (S0_.2.2.1 48 (0 + ii_) (5 * a2_ + 4).toNat))) ≤ 0 := of_decide_eq_true cx17_
            refine sm_T_go 1 (c1 := (138, [some (.inr (.inr (some (4, ii_)))), some (.inl a1_), some (.inl a2_), some (.inl (5 * a1_)), some (.inl (5 * a2_)), some (.inl (sm_mx ((S0_.2.2.1 48 (0 + ii_) (5 * a2_ + 1).toNat) - (S0_.2.2.1 48 (0 + ii_) (5 * a1_ + 3).toNat)) ((S0_.2.2.1 48 (0 + ii_) (5 * a1_ + 1).toNat) - (S0_.2.2.1 48 (0 + ii_) (5 * a2_ + 3).toNat)))), some (.inl (sm_mx ((S0_.2.2.1 48 (0 + ii_) (5 * a2_ + 2).toNat) - (S0_.2.2.1 48 (0 + ii_) (5 * a1_ + 4).toNat)) ((S0_.2.2.1 48 (0 + ii_) (5 * a1_ + 2).toNat) - (S0_.2.2.1 48 (0 + ii_) (5 * a2_ + 4).toNat))))], [.inl 0], S0_)) rfl ?_
            refine sm_T_rz rfl (by omega) ⟨_, _, rfl, rfl, _, rfl, ?_⟩
            refine ⟨by omega, by omega⟩
          · have cx17_ : ¬ ((sm_mx ((S0_.2.2.1 48 (0 + ii_) (5 * a2_ + 2).toNat) - (S0_.2.2.1 48 (0 + ii_) (5 * a1_ + 4).toNat)) ((S0_.2.2.1 48 (0 + ii_) (5 * a1_ + 2).toNat) - (S0_.2.2.1 48 (0 + ii_) (5 * a2_ + 4).toNat))) ≤ 0) := of_decide_eq_false cx17_
            refine sm_T_go 2 (c1 := (138, [some (.inr (.inr (some (4, ii_)))), some (.inl a1_), some (.inl a2_), some (.inl (5 * a1_)), some (.inl (5 * a2_)), some (.inl (sm_mx ((S0_.2.2.1 48 (0 + ii_) (5 * a2_ + 1).toNat) - (S0_.2.2.1 48 (0 + ii_) (5 * a1_ + 3).toNat)) ((S0_.2.2.1 48 (0 + ii_) (5 * a1_ + 1).toNat) - (S0_.2.2.1 48 (0 + ii_) (5 * a2_ + 3).toNat)))), some (.inl (sm_mx ((S0_.2.2.1 48 (0 + ii_) (5 * a2_ + 2).toNat) - (S0_.2.2.1 48 (0 + ii_) (5 * a1_ + 4).toNat)) ((S0_.2.2.1 48 (0 + ii_) (5 * a1_ + 2).toNat) - (S0_.2.2.1 48 (0 + ii_) (5 * a2_ + 4).toNat))))], [.inl 1], S0_)) rfl ?_
            refine sm_T_rz rfl (by omega) ⟨_, _, rfl, rfl, _, rfl, ?_⟩
            refine ⟨by omega, by omega⟩
    · have cx9_ : ¬ ((sm_mx ((S0_.2.2.1 48 (0 + ii_) (5 * a2_ + 1).toNat) - (S0_.2.2.1 48 (0 + ii_) (5 * a1_ + 3).toNat)) ((S0_.2.2.1 48 (0 + ii_) (5 * a1_ + 1).toNat) - (S0_.2.2.1 48 (0 + ii_) (5 * a2_ + 3).toNat))) < 2) := of_decide_eq_false cx9_
      refine sm_T_go 1 (c1 := (75, [some (.inr (.inr (some (4, ii_)))), some (.inl a1_), some (.inl a2_), some (.inl (5 * a1_)), some (.inl (5 * a2_)), some (.inl (sm_mx ((S0_.2.2.1 48 (0 + ii_) (5 * a2_ + 1).toNat) - (S0_.2.2.1 48 (0 + ii_) (5 * a1_ + 3).toNat)) ((S0_.2.2.1 48 (0 + ii_) (5 * a1_ + 1).toNat) - (S0_.2.2.1 48 (0 + ii_) (5 * a2_ + 3).toNat)))), none], [.inl 0], S0_)) rfl ?_
      refine sm_T_rz rfl (by omega) ⟨_, _, rfl, rfl, _, rfl, ?_⟩
      refine ⟨by omega, by omega⟩
  · have cx3_ : ¬ ((S0_.2.2.1 48 (0 + ii_) (5 * a1_).toNat) = (S0_.2.2.1 48 (0 + ii_) (5 * a2_).toNat)) := of_decide_eq_false cx3_
    refine sm_T_go 1 (c1 := (26, [some (.inr (.inr (some (4, ii_)))), some (.inl a1_), some (.inl a2_), some (.inl (5 * a1_)), some (.inl (5 * a2_)), none, none], [.inl 0], S0_)) rfl ?_
    refine sm_T_rz rfl (by omega) ⟨_, _, rfl, rfl, _, rfl, ?_⟩
    refine ⟨by omega, by omega⟩
end
/-! 99.zl4c -/
section
/-! Layout.isTouching -/
def vw_78 : sx_Wl := ([], [], [])
def vq_78 (a1_ : Int) (a2_ : Int) (ii_ : Nat) (S0_ : sm_S) (u_ : Option sm_V) (S1_ : sm_S) : Prop := S0_ = S1_ ∧ ∃ v_ : Int, u_ = some (.inl v_) ∧ ((0 ≤ v_ ∧ v_ ≤ 1))
set_option maxHeartbeats 400000 in
theorem vc_78 {sc_ : Nat × (Nat → Int)} (a1_ : Int) (a2_ : Int) (ii_ : Nat) (S0_ : sm_S) (hI_ : gi S0_) (ha1_ : 0 ≤ a1_ ∧ a1_ ≤ 1999) (ha2_ : 0 ≤ a2_ ∧ a2_ ≤ 1999) : sm_T (mt_P sc_) 0 78 (0, [some (.inr (.inr (some (4, ii_)))), some (.inl a1_), some (.inl a2_), none, none], [], S0_) (fun ro9_ => ∃ u_ S1_, ro9_ = (.inl u_, S1_, 0) ∧ vq_78 a1_ a2_ ii_ S0_ u_ S1_) := by
  have hF_ : ai_fr (sx_W vw_78) S0_ S0_ := ai_fr_rf
  refine sm_T_go 2 (c1 := (2, [some (.inr (.inr (some (4, ii_)))), some (.inl a1_), some (.inl a2_), none, none], [.inl a1_, .inl 5], S0_)) rfl ?_
  refine sm_T_bin (w := 5 * a1_) rfl (bi_mul (by omega) (by omega) (by omega)) ?_ -- pc_ 2
  refine sm_T_go 3 (c1 := (6, [some (.inr (.inr (some (4, ii_)))), some (.inl a1_), some (.inl a2_), some (.inl (5 * a1_)), none], [.inl a2_, .inl 5], S0_)) rfl ?_
  refine sm_T_bin (w := 5 * a2_) rfl (bi_mul (by omega) (by omega) (by omega)) ?_ -- pc_ 6
  refine sm_T_go 5 (c1 := (15, [some (.inr (.inr (some (4, ii_)))), some (.inl a1_), some (.inl a2_), some (.inl (5 * a1_)), some (.inl (5 * a2_))], [.inl 1, .inl (5 * a1_), .inr (.inr (some (48, (0 + ii_))))], S0_)) rfl ?_
  refine sm_T_bin (w := 5 * a1_ + 1) rfl (bi_add (by omega) (by omega) (by omega)) ?_ -- pc_ 15
  refine sm_T_iald (n := 10000) rfl rfl (by omega) (by omega) ?_
  have bx1_ : (-1000) ≤ S0_.2.2.1 48 (0 + ii_) (5 * a1_ + 1).toNat ∧ S0_.2.2.1 48 (0 + ii_) (5 * a1_ + 1).toNat ≤ 1000 := hI_.2 48 (0 + ii_) _
  refine sm_T_go 4 (c1 := (24, [some (.inr (.inr (some (4, ii_)))), some (.inl a1_), some (.inl a2_), some (.inl (5 * a1_)), some (.inl (5 * a2_))], [.inl 3, .inl (5 * a2_), .inr (.inr (some (48, (0 + ii_)))), .inl (S0_.2.2.1 48 (0 + ii_) (5 * a1_ + 1).toNat)], S0_)) rfl ?_
  refine sm_T_bin (w := 5 * a2_ + 3) rfl (bi_add (by omega) (by omega) (by omega)) ?_ -- pc_ 24
  refine sm_T_iald (n := 10000) rfl rfl (by omega) (by omega) ?_
  have bx2_ : (-1000) ≤ S0_.2.2.1 48 (0 + ii_) (5 * a2_ + 3).toNat ∧ S0_.2.2.1 48 (0 + ii_) (5 * a2_ + 3).toNat ≤ 1000 := hI_.2 48 (0 + ii_) _
  refine sm_T_br (a := 4) (z := 67) rfl (fun cx3_ => ?_) (fun cx3_ => ?_)
  · have cx3_ : (S0_.2.2.1 48 (0 + ii_) (5 * a2_ + 3).toNat) < (S0_.2.2.1 48 (0 + ii_) (5 * a1_ + 1).toNat) := of_decide_eq_true cx3_
    refine sm_T_go 1 (c1 := (94, [some (.inr (.inr (some (4, ii_)))), some (.inl a1_), some (.inl a2_), some (.inl (5 * a1_)), some (.inl (5 * a2_))], [.inl 0], S0_)) rfl ?_
    refine sm_T_rz rfl (by omega) ⟨_, _, rfl, rfl, _, rfl, ?_⟩
    refine ⟨by omega, by omega⟩
  · have cx3_ : ¬ ((S0_.2.2.1 48 (0 + ii_) (5 * a2_ + 3).toNat) < (S0_.2.2.1 48 (0 + ii_) (5 * a1_ + 1).toNat)) := of_decide_eq_false cx3_
    refine sm_T_go 4 (c1 := (36, [some (.inr (.inr (some (4, ii_)))), some (.inl a1_), some (.inl a2_), some (.inl (5 * a1_)), some (.inl (5 * a2_))], [.inl 1, .inl (5 * a2_), .inr (.inr (some (48, (0 + ii_))))], S0_)) rfl ?_
    refine sm_T_bin (w := 5 * a2_ + 1) rfl (bi_add (by omega) (by omega) (by omega)) ?_ -- pc_ 36
    refine sm_T_iald (n := 10000) rfl rfl (by omega) (by omega) ?_
    have bx4_ : (-1000) ≤ S0_.2.2.1 48 (0 + ii_) (5 * a2_ + 1).toNat ∧ S0_.2.2.1 48 (0 + ii_) (5 * a2_ + 1).toNat ≤ 1000 := hI_.2 48 (0 + ii_) _
    refine sm_T_go 4 (c1 := (44, [some (.inr (.inr (some (4, ii_)))), some (.inl a1_), some (.inl a2_), some (.inl (5 * a1_)), some (.inl (5 * a2_))], [.inl 3, .inl (5 * a1_), .inr (.inr (some (48, (0 + ii_)))), .inl (S0_.2.2.1 48 (0 + ii_) (5 * a2_ + 1).toNat)], S0_)) rfl ?_
    refine sm_T_bin (w := 5 * a1_ + 3) rfl (bi_add (by omega) (by omega) (by omega)) ?_ -- pc_ 44
    refine sm_T_iald (n := 10000) rfl rfl (by omega) (by omega) ?_
    have bx5_ : (-1000) ≤ S0_.2.2.1 48 (0 + ii_) (5 * a1_ + 3).toNat ∧ S0_.2.2.1 48 (0 + ii_) (5 * a1_ + 3).toNat ≤ 1000 := hI_.2 48 (0 + ii_) _
    refine sm_T_br (a := 4) (z := 47) rfl (fun cx6_ => ?_) (fun cx6_ => ?_)
    · have cx6_ : (S0_.2.2.1 48 (0 + ii_) (5 * a1_ + 3).toNat) < (S0_.2.2.1 48 (0 + ii_) (5 * a2_ + 1).toNat) := of_decide_eq_true cx6_
      refine sm_T_go 1 (c1 := (94, [some (.inr (.inr (some (4, ii_)))), some (.inl a1_), some (.inl a2_), some (.inl (5 * a1_)), some (.inl (5 * a2_))], [.inl 0], S0_)) rfl ?_
      refine sm_T_rz rfl (by omega) ⟨_, _, rfl, rfl, _, rfl, ?_⟩
      refine ⟨by omega, by omega⟩
    · have cx6_ : ¬ ((S0_.2.2.1 48 (0 + ii_) (5 * a1_ + 3).toNat) < (S0_.2.2.1 48 (0 + ii_) (5 * a2_ + 1).toNat)) := of_decide_eq_false cx6_
      refine sm_T_go 4 (c1 := (55, [some (.inr (.inr (some (4, ii_)))), some (.inl a1_), some (.inl a2_), some (.inl (5 * a1_)), some (.inl (5 * a2_))], [.inl 2, .inl (5 * a1_), .inr (.inr (some (48, (0 + ii_))))], S0_)) rfl ?_
      refine sm_T_bin (w := 5 * a1_ + 2) rfl (bi_add (by omega) (by omega) (by omega)) ?_ -- pc_ 55
      refine sm_T_iald (n := 10000) rfl rfl (by omega) (by omega) ?_
      have bx7_ : (-1000) ≤ S0_.2.2.1 48 (0 + ii_) (5 * a1_ + 2).toNat ∧ S0_.2.2.1 48 (0 + ii_) (5 * a1_ + 2).toNat ≤ 1000 := hI_.2 48 (0 + ii_) _
      refine sm_T_go 4 (c1 := (64, [some (.inr (.inr (some (4, ii_)))), some (.inl a1_), some (.inl a2_), some (.inl (5 * a1_)), some (.inl (5 * a2_))], [.inl 4, .inl (5 * a2_), .inr (.inr (some (48, (0 + ii_)))), .inl (S0_.2.2.1 48 (0 + ii_) (5 * a1_ + 2).toNat)], S0_)) rfl ?_
      refine sm_T_bin (w := 5 * a2_ + 4) rfl (bi_add (by omega) (by omega) (by omega)) ?_ -- pc_ 64
      refine sm_T_iald (n := 10000) rfl rfl (by omega) (by omega) ?_
      have bx8_ : (-1000) ≤ S0_.2.2.1 48 (0 + ii_) (5 * a2_ + 4).toNat ∧ S0_.2.2.1 48 (0 + ii_) (5 * a2_ + 4).toNat ≤ 1000 := hI_.2 48 (0 + ii_) _
      refine sm_T_br (a := 4) (z := 27) rfl (fun cx9_ => ?_) (fun cx9_ => ?_)
      · have cx9_ : (S0_.2.2.1 48 (0 + ii_) (5 * a2_ + 4).toNat) < (S0_.2.2.1 48 (0 + ii_) (5 * a1_ + 2).toNat) := of_decide_eq_true cx9_
        refine sm_T_go 1 (c1 := (94, [some (.inr (.inr (some (4, ii_)))), some (.inl a1_), some (.inl a2_), some (.inl (5 * a1_)), some (.inl (5 * a2_))], [.inl 0], S0_)) rfl ?_
        refine sm_T_rz rfl (by omega) ⟨_, _, rfl, rfl, _, rfl, ?_⟩
        refine ⟨by omega, by omega⟩
      · have cx9_ : ¬ ((S0_.2.2.1 48 (0 + ii_) (5 * a2_ + 4).toNat) < (S0_.2.2.1 48 (0 + ii_) (5 * a1_ + 2).toNat)) := of_decide_eq_false cx9_
        refine sm_T_go 4 (c1 := (76, [some (.inr (.inr (some (4, ii_)))), some (.inl a1_), some (.inl a2_), some (.inl (5 * a1_)), some (.inl (5 * a2_))], [.inl 2, .inl (5 * a2_), .inr (.inr (some (48, (0 + ii_))))], S0_)) rfl ?_
        refine sm_T_bin (w := 5 * a2_ + 2) rfl (bi_add (by omega) (by omega) (by omega)) ?_ -- pc_ 76
        refine sm_T_iald (n := 10000) rfl rfl (by omega) (by omega) ?_
        have bx10_ : (-1000) ≤ S0_.2.2.1 48 (0 + ii_) (5 * a2_ + 2).toNat ∧ S0_.2.2.1 48 (0 + ii_) (5 * a2_ + 2).toNat ≤ 1000 := hI_.2 48 (0 + ii_) _
        refine sm_T_go 4 (c1 := (84, [some (.inr (.inr (some (4, ii_)))), some (.inl a1_), some (.inl a2_), some (.inl (5 * a1_)), some (.inl (5 * a2_))], [.inl 4, .inl (5 * a1_), .inr (.inr (some (48, (0 + ii_)))), .inl (S0_.2.2.1 48 (0 + ii_) (5 * a2_ + 2).toNat)], S0_)) rfl ?_
        refine sm_T_bin (w := 5 * a1_ + 4) rfl (bi_add (by omega) (by omega) (by omega)) ?_ -- pc_ 84
        refine sm_T_iald (n := 10000) rfl rfl (by omega) (by omega) ?_
        have bx11_ : (-1000) ≤ S0_.2.2.1 48 (0 + ii_) (5 * a1_ + 4).toNat ∧ S0_.2.2.1 48 (0 + ii_) (5 * a1_ + 4).toNat ≤ 1000 := hI_.2 48 (0 + ii_) _
        refine sm_T_br (a := 4) (z := 7) rfl (fun cx12_ => ?_) (fun cx12_ => ?_)
        · have cx12_ : (S0_.2.2.1 48 (0 + ii_) (5 * a1_ + 4).toNat) < (S0_.2.2.1 48 (0 + ii_) (5 * a2_ + 2).toNat) := of_decide_eq_true cx12_
          refine sm_T_go 1 (c1 := (94, [some (.inr (.inr (some (4, ii_)))), some (.inl a1_), some (.inl a2_), some (.inl (5 * a1_)), some (.inl (5 * a2_))], [.inl 0], S0_)) rfl ?_
          refine sm_T_rz rfl (by omega) ⟨_, _, rfl, rfl, _, rfl, ?_⟩
          refine ⟨by omega, by omega⟩
        · have cx12_ : ¬ ((S0_.2.2.1 48 (0 + ii_) (5 * a1_ + 4).toNat) < (S0_.2.2.1 48 (0 + ii_) (5 * a2_ + 2).toNat)) := of_decide_eq_false cx12_
          refine sm_T_go 2 (c1 := (94, [some (.inr (.inr (some (4, ii_)))), some (.inl a1_), some (.inl a2_), some (.inl (5 * a1_)), some (.inl (5 * a2_))], [.inl 1], S0_)) rfl ?_
          refine sm_T_rz rfl (by omega) ⟨_, _, rfl, rfl, _, rfl, ?_⟩
          refine ⟨by omega, by omega⟩
end
/-! 99.zl4d -/
section
/-! Layout.topOf -/
def vw_84 : sx_Wl := ([], [51], [])
def vq_84 (a1_ : Int) (ii_ : Nat) (S0_ : sm_S) (u_ : Option sm_V) (S1_ : sm_S) : Prop := ∃ v_ : Int, u_ = some (.inl v_) ∧ gi S1_ ∧ ai_fr (sx_W vw_84) S0_ S1_ ∧ (cdf ii_ S0_ S1_ ∧ ((0 ≤ v_ ∧ v_ ≤ 1999)))
set_option maxHeartbeats 400000 in
theorem vl_84 {sc_ : Nat × (Nat → Int)} (a1_ : Int) (ii_ : Nat) (S0_ : sm_S) (ha1_ : 0 ≤ a1_ ∧ a1_ ≤ 1999) : ∀ nn_ : Nat, (∀ (x2_ : Int) (x3_ : Int) (S_ : sm_S), gi S_ → ai_fr (sx_W vw_84) S0_ S_ → ((0 ≤ a1_ ∧ a1_ ≤ 1999 ∧ 0 ≤ x2_ ∧ x2_ ≤ 1999 ∧ 0 ≤ x3_ ∧ x3_ ≤ 2000) ∧ (cdf ii_ S0_ S_) ∧ True) → ((78039 * 34 + 39 * (-x3_ + 2000) + 34 : Int).toNat) < nn_ → sm_T (mt_P sc_) 0 84 (4, [some (.inr (.inr (some (4, ii_)))), some (.inl a1_), some (.inl x2_), some (.inl x3_)], [], S_) (fun ro9_ => ∃ u_ S1_, ro9_ = (.inl u_, S1_, 0) ∧ vq_84 a1_ ii_ S0_ u_ S1_)) := by
  intro nn_
  induction nn_ with
  | zero => exact fun _ _ _ _ _ _ h_ => absurd h_ (Nat.not_lt_zero _)
  | succ nn_ ih_ =>
    rintro x2_ x3_ S_ hI_ hF_ ⟨b0_, hC_, -⟩ hm_
    refine sm_T_go 2 (c1 := (8, [some (.inr (.inr (some (4, ii_)))), some (.inl a1_), some (.inl x2_), some (.inl x3_)], [.inl 2000, .inl x3_], S_)) rfl ?_
    refine sm_T_br (a := 3) (z := 43) rfl (fun cx1_ => ?_) (fun cx1_ => ?_)
    · have cx1_ : 2000 ≤ x3_ := of_decide_eq_true cx1_
      refine sm_T_go 1 (c1 := (52, [some (.inr (.inr (some (4, ii_)))), some (.inl a1_), some (.inl x2_), some (.inl x3_)], [.inl x2_], S_)) rfl ?_
      refine sm_T_ri rfl ⟨_, _, rfl, _, rfl, hI_, hF_, ?_⟩
      refine ⟨hC_, ?_⟩
      refine ⟨by omega, by omega⟩
    · have cx1_ : ¬ (2000 ≤ x3_) := of_decide_eq_false cx1_
      refine sm_T_go 3 (c1 := (16, [some (.inr (.inr (some (4, ii_)))), some (.inl a1_), some (.inl x2_), some (.inl x3_)], [.inl x2_, .inr (.inr (some (51, (0 + ii_))))], S_)) rfl ?_
      refine sm_T_iald (n := 2000) rfl rfl (by omega) (by omega) ?_
      have bx2_ : 0 ≤ S_.2.2.1 51 (0 + ii_) x2_.toNat ∧ S_.2.2.1 51 (0 + ii_) x2_.toNat ≤ 1999 := hI_.2 51 (0 + ii_) _
      refine sm_T_go 1 (c1 := (18, [some (.inr (.inr (some (4, ii_)))), some (.inl a1_), some (.inl x2_), some (.inl x3_)], [.inl x2_, .inl (S_.2.2.1 51 (0 + ii_) x2_.toNat)], S_)) rfl ?_
      refine sm_T_br (a := 0) (z := 33) rfl (fun cx3_ => ?_) (fun cx3_ => ?_)
      · have cx3_ : (S_.2.2.1 51 (0 + ii_) x2_.toNat) = x2_ := of_decide_eq_true cx3_
        refine sm_T_go 1 (c1 := (52, [some (.inr (.inr (some (4, ii_)))), some (.inl a1_), some (.inl x2_), some (.inl x3_)], [.inl x2_], S_)) rfl ?_
        refine sm_T_ri rfl ⟨_, _, rfl, _, rfl, hI_, hF_, ?_⟩
        refine ⟨hC_, ?_⟩
        refine ⟨by omega, by omega⟩
      · have cx3_ : ¬ ((S_.2.2.1 51 (0 + ii_) x2_.toNat) = x2_) := of_decide_eq_false cx3_
        refine sm_T_go 8 (c1 := (35, [some (.inr (.inr (some (4, ii_)))), some (.inl a1_), some (.inl x2_), some (.inl x3_)], [.inl x2_, .inr (.inr (some (51, (0 + ii_)))), .inr (.inr (some (51, (0 + ii_)))), .inl x2_, .inr (.inr (some (51, (0 + ii_))))], S_)) rfl ?_
        refine sm_T_iald (n := 2000) rfl rfl (by omega) (by omega) ?_
        refine sm_T_iald (n := 2000) rfl rfl (by omega) (by omega) ?_
        have bx4_ : 0 ≤ S_.2.2.1 51 (0 + ii_) (S_.2.2.1 51 (0 + ii_) x2_.toNat).toNat ∧ S_.2.2.1 51 (0 + ii_) (S_.2.2.1 51 (0 + ii_) x2_.toNat).toNat ≤ 1999 := hI_.2 51 (0 + ii_) _
        refine sm_T_iast (n := 2000) rfl rfl (by omega) (by omega) ?_
        have hIx5_ : gi (sm_aI S_ 51 (0 + ii_) x2_.toNat (S_.2.2.1 51 (0 + ii_) (S_.2.2.1 51 (0 + ii_) x2_.toNat).toNat)) := gi_aI hI_ (show 0 ≤ (S_.2.2.1 51 (0 + ii_) (S_.2.2.1 51 (0 + ii_) x2_.toNat).toNat) ∧ (S_.2.2.1 51 (0 + ii_) (S_.2.2.1 51 (0 + ii_) x2_.toNat).toNat) ≤ 1999 from ⟨by omega, by omega⟩)
        have hFx6_ : ai_fr (sx_W vw_84) S0_ (sm_aI S_ 51 (0 + ii_) x2_.toNat (S_.2.2.1 51 (0 + ii_) (S_.2.2.1 51 (0 + ii_) x2_.toNat).toNat)) := ai_fr_tr hF_ (ai_fr_aI rfl)
        have hCx7_ : cdf ii_ S0_ (sm_aI S_ 51 (0 + ii_) x2_.toNat (S_.2.2.1 51 (0 + ii_) (S_.2.2.1 51 (0 + ii_) x2_.toNat).toNat)) := cdf_aI hC_ (Or.inr (by rw [show cof 51 = 0 from rfl] <;> omega))
        refine sm_T_go 3 (c1 := (43, [some (.inr (.inr (some (4, ii_)))), some (.inl a1_), some (.inl x2_), some (.inl x3_)], [.inl x2_, .inr (.inr (some (51, (0 + ii_))))], sm_aI S_ 51 (0 + ii_) x2_.toNat (S_.2.2.1 51 (0 + ii_) (S_.2.2.1 51 (0 + ii_) x2_.toNat).toNat))) rfl ?_
        refine sm_T_iald (n := 2000) rfl rfl (by omega) (by omega) ?_
        have bx8_ : 0 ≤ (sm_aI S_ 51 (0 + ii_) x2_.toNat (S_.2.2.1 51 (0 + ii_) (S_.2.2.1 51 (0 + ii_) x2_.toNat).toNat)).2.2.1 51 (0 + ii_) x2_.toNat ∧ (sm_aI S_ 51 (0 + ii_) x2_.toNat (S_.2.2.1 51 (0 + ii_) (S_.2.2.1 51 (0 + ii_) x2_.toNat).toNat)).2.2.1 51 (0 + ii_) x2_.toNat ≤ 1999 := hIx5_.2 51 (0 + ii_) _
        refine sm_T_go 1 (c1 := (45, [some (.inr (.inr (some (4, ii_)))), some (.inl a1_), some (.inl ((sm_aI S_ 51 (0 + ii_) x2_.toNat (S_.2.2.1 51 (0 + ii_) (S_.2.2.1 51 (0 + ii_) x2_.toNat).toNat)).2.2.1 51 (0 + ii_) x2_.toNat)), some (.inl x3_)], [], sm_aI S_ 51 (0 + ii_) x2_.toNat (S_.2.2.1 51 (0 + ii_) (S_.2.2.1 51 (0 + ii_) x2_.toNat).toNat))) rfl ?_
        refine sm_T_inc (a := 3) (z := 1) (v := x3_) (w := x3_ + 1) rfl rfl (by omega) (by omega) (by omega) ?_ -- pc_ 45
        refine sm_T_go 1 (c1 := (4, [some (.inr (.inr (some (4, ii_)))), some (.inl a1_), some (.inl ((sm_aI S_ 51 (0 + ii_) x2_.toNat (S_.2.2.1 51 (0 + ii_) (S_.2.2.1 51 (0 + ii_) x2_.toNat).toNat)).2.2.1 51 (0 + ii_) x2_.toNat)), some (.inl (x3_ + 1))], [], sm_aI S_ 51 (0 + ii_) x2_.toNat (S_.2.2.1 51 (0 + ii_) (S_.2.2.1 51 (0 + ii_) x2_.toNat).toNat))) rfl ?_
        refine ih_ ((sm_aI S_ 51 (0 + ii_) x2_.toNat (S_.2.2.1 51 (0 + ii_) (S_.2.2.1 51 (0 + ii_) x2_.toNat).toNat)).2.2.1 51 (0 + ii_) x2_.toNat) (x3_ + 1) (sm_aI S_ 51 (0 + ii_) x2_.toNat (S_.2.2.1 51 (0 + ii_) (S_.2.2.1 51 (0 + ii_) x2_.toNat).toNat)) hIx5_ hFx6_ ⟨?_, ?_, trivial⟩ ?_
        · omega
        · exact hCx7_
        · omega
set_option maxHeartbeats 400000 in
theorem vc_84 {sc_ : Nat × (Nat → Int)} (a1_ : Int) (ii_ : Nat) (S0_ : sm_S) (hI_ : gi S0_) (ha1_ : 0 ≤ a1_ ∧ a1_ ≤ 1999) : sm_T (mt_P sc_) 0 84 (0, [some (.inr (.inr (some (4, ii_)))), some (.inl a1_), none, none], [], S0_) (fun ro9_ => ∃ u_ S1_, ro9_ = (.inl u_, S1_, 0) ∧ vq_84 a1_ ii_ S0_ u_ S1_) := by
  have hF_ : ai_fr (sx_W vw_84) S0_ S0_ := ai_fr_rf
  have hC_ : cdf ii_ S0_ S0_ := cdf_rf
  refine sm_T_go 4 (c1 := (4, [some (.inr (.inr (some (4, ii_)))), some (.inl a1_), some (.inl a1_), some (.inl 0)], [], S0_)) rfl ?_
  refine (vl_84 a1_ ii_ S0_ ha1_ _) a1_ 0 S0_ hI_ hF_ ⟨?_, ?_, trivial⟩ (Nat.lt_succ_self _)
  · omega
  · exact hC_
end
/-! 99.zl4e -/
section
/-! java/lang/Long.bitCount -/
def vw_8 : sx_Wl := ([], [], [])
def vq_8 (y0_ : Int) (S0_ : sm_S) (u_ : Option sm_V) (S1_ : sm_S) : Prop := S0_ = S1_ ∧ ∃ v_ : Int, u_ = some (.inl v_) ∧ ((0 ≤ v_ ∧ v_ ≤ 127) ∧ (v_ = ((l_l2i ((l_0 ((l_0 ((l_0 ((l_3 ((l_0 ((l_0 ((l_3 ((l_1 y0_ ((l_3 ((l_s2 y0_ 1)) 6148914691236517205)))) 3689348814741910323)) ((l_3 ((l_s2 ((l_1 y0_ ((l_3 ((l_s2 y0_ 1)) 6148914691236517205)))) 2)) 3689348814741910323)))) ((l_s2 ((l_0 ((l_3 ((l_1 y0_ ((l_3 ((l_s2 y0_ 1)) 6148914691236517205)))) 3689348814741910323)) ((l_3 ((l_s2 ((l_1 y0_ ((l_3 ((l_s2 y0_ 1)) 6148914691236517205)))) 2)) 3689348814741910323)))) 4)))) 1085102592571150095)) ((l_s2 ((l_3 ((l_0 ((l_0 ((l_3 ((l_1 y0_ ((l_3 ((l_s2 y0_ 1)) 6148914691236517205)))) 3689348814741910323)) ((l_3 ((l_s2 ((l_1 y0_ ((l_3 ((l_s2 y0_ 1)) 6148914691236517205)))) 2)) 3689348814741910323)))) ((l_s2 ((l_0 ((l_3 ((l_1 y0_ ((l_3 ((l_s2 y0_ 1)) 6148914691236517205)))) 3689348814741910323)) ((l_3 ((l_s2 ((l_1 y0_ ((l_3 ((l_s2 y0_ 1)) 6148914691236517205)))) 2)) 3689348814741910323)))) 4)))) 1085102592571150095)) 8)))) ((l_s2 ((l_0 ((l_3 ((l_0 ((l_0 ((l_3 ((l_1 y0_ ((l_3 ((l_s2 y0_ 1)) 6148914691236517205)))) 3689348814741910323)) ((l_3 ((l_s2 ((l_1 y0_ ((l_3 ((l_s2 y0_ 1)) 6148914691236517205)))) 2)) 3689348814741910323)))) ((l_s2 ((l_0 ((l_3 ((l_1 y0_ ((l_3 ((l_s2 y0_ 1)) 6148914691236517205)))) 3689348814741910323)) ((l_3 ((l_s2 ((l_1 y0_ ((l_3 ((l_s2 y0_ 1)) 6148914691236517205)))) 2)) 3689348814741910323)))) 4)))) 1085102592571150095)) ((l_s2 ((l_3 ((l_0 ((l_0 ((l_3 ((l_1 y0_ ((l_3 ((l_s2 y0_ 1)) 6148914691236517205)))) 3689348814741910323)) ((l_3 ((l_s2 ((l_1 y0_ ((l_3 ((l_s2 y0_ 1)) 6148914691236517205)))) 2)) 3689348814741910323)))) ((l_s2 ((l_0 ((l_3 ((l_1 y0_ ((l_3 ((l_s2 y0_ 1)) 6148914691236517205)))) 3689348814741910323)) ((l_3 ((l_s2 ((l_1 y0_ ((l_3 ((l_s2 y0_ 1)) 6148914691236517205)))) 2)) 3689348814741910323)))) 4)))) 1085102592571150095)) 8)))) 16)))) ((l_s2 ((l_0 ((l_0 ((l_3 ((l_0 ((l_0 ((l_3 ((l_1 y0_ ((l_3 ((l_s2 y0_ 1)) 6148914691236517205)))) 3689348814741910323)) ((l_3 ((l_s2 ((l_1 y0_ ((l_3 ((l_s2 y0_ 1)) 6148914691236517205)))) 2)) 3689348814741910323)))) ((l_s2 ((l_0 ((l_3 ((l_1 y0_ ((l_3 ((l_s2 y0_ 1)) 6148914691236517205)))) 3689348814741910323)) ((l_3 ((l_s2 ((l_1 y0_ ((l_3 ((l_s2 y0_ 1)) 6148914691236517205)))) 2)) 3689348814741910323)))) 4)))) 1085102592571150095)) ((l_s2 ((l_3 ((l_0 ((l_0 ((l_3 ((l_1 y0_ ((l_3 ((l_s2 y0_ 1)) 6148914691236517205)))) 3689348814741910323)) ((l_3 ((l_s2 ((l_1 y0_ ((l_3 ((l_s2 y0_ 1)) 6148914691236517205)))) 2)) 3689348814741910323)))) ((l_s2 ((l_0 ((l_3 ((l_1 y0_ ((l_3 ((l_s2 y0_ 1)) 6148914691236517205)))) 3689348814741910323)) ((l_3 ((l_s2 ((l_1 y0_ ((l_3 ((l_s2 y0_ 1)) 6148914691236517205)))) 2)) 3689348814741910323)))) 4)))) 1085102592571150095)) 8)))) ((l_s2 ((l_0 ((l_3 ((l_0 ((l_0 ((l_3 ((l_1 y0_ ((l_3 ((l_s2 y0_ 1)) 6148914691236517205)))) 3689348814741910323)) ((l_3 ((l_s2 ((l_1 y0_ ((l_3 ((l_s2 y0_ 1)) 6148914691236517205)))) 2)) 3689348814741910323)))) ((l_s2 ((l_0 ((l_3 ((l_1 y0_ ((l_3 ((l_s2 y0_ 1)) 6148914691236517205)))) 3689348814741910323)) ((l_3 ((l_s2 ((l_1 y0_ ((l_3 ((l_s2 y0_ 1)) 6148914691236517205)))) 2)) 3689348814741910323)))) 4)))) 1085102592571150095)) ((l_s2 ((l_3 ((l_0 ((l_0 ((l_3 ((l_1 y0_ ((l_3 ((l_s2 y0_ 1)) 6148914691236517205)))) 3689348814741910323)) ((l_3 ((l_s2 ((l_1 y0_ ((l_3 ((l_s2 y0_ 1)) 6148914691236517205)))) 2)) 3689348814741910323)))) ((l_s2 ((l_0 ((l_3 ((l_1 y0_ ((l_3 ((l_s2 y0_ 1)) 6148914691236517205)))) 3689348814741910323)) ((l_3 ((l_s2 ((l_1 y0_ ((l_3 ((l_s2 y0_ 1)) 6148914691236517205)))) 2)) 3689348814741910323)))) 4)))) 1085102592571150095)) 8)))) 16)))) 32))))) % 128)))
set_option maxHeartbeats 400000 in
theorem vc_8 {sc_ : Nat × (Nat → Int)} (y0_ : Int) (S0_ : sm_S) (hI_ : gi S0_)  : sm_T (mt_P sc_) 0 8 (0, [some (.inr (.inl y0_)), none], [], S0_) (fun ro9_ => ∃ u_ S1_, ro9_ = (.inl u_, S1_, 0) ∧ vq_8 y0_ S0_ u_ S1_) := by
  have hF_ : ai_fr (sx_W vw_8) S0_ S0_ := ai_fr_rf
  refine sm_T_go 4 (c1 := (4, [some (.inr (.inl y0_)), none], [.inr (.inl (l_s2 y0_ 1)), .inr (.inl y0_)], S0_)) rfl ?_
  refine sm_T_nt (u := some (.inr (.inl 6148914691236517205))) (S1 := S0_) rfl rfl rfl ?_
  refine sm_T_go 4 (c1 := (11, [some (.inr (.inl (l_1 y0_ ((l_3 ((l_s2 y0_ 1)) 6148914691236517205))))), none], [.inr (.inl (l_1 y0_ ((l_3 ((l_s2 y0_ 1)) 6148914691236517205))))], S0_)) rfl ?_
  refine sm_T_nt (u := some (.inr (.inl 3689348814741910323))) (S1 := S0_) rfl rfl rfl ?_
  refine sm_T_go 4 (c1 := (18, [some (.inr (.inl (l_1 y0_ ((l_3 ((l_s2 y0_ 1)) 6148914691236517205))))), none], [.inr (.inl (l_s2 ((l_1 y0_ ((l_3 ((l_s2 y0_ 1)) 6148914691236517205)))) 2)), .inr (.inl (l_3 ((l_1 y0_ ((l_3 ((l_s2 y0_ 1)) 6148914691236517205)))) 3689348814741910323))], S0_)) rfl ?_
  refine sm_T_nt (u := some (.inr (.inl 3689348814741910323))) (S1 := S0_) rfl rfl rfl ?_
  refine sm_T_go 8 (c1 := (29, [some (.inr (.inl (l_0 ((l_3 ((l_1 y0_ ((l_3 ((l_s2 y0_ 1)) 6148914691236517205)))) 3689348814741910323)) ((l_3 ((l_s2 ((l_1 y0_ ((l_3 ((l_s2 y0_ 1)) 6148914691236517205)))) 2)) 3689348814741910323))))), none], [.inr (.inl (l_0 ((l_0 ((l_3 ((l_1 y0_ ((l_3 ((l_s2 y0_ 1)) 6148914691236517205)))) 3689348814741910323)) ((l_3 ((l_s2 ((l_1 y0_ ((l_3 ((l_s2 y0_ 1)) 6148914691236517205)))) 2)) 3689348814741910323)))) ((l_s2 ((l_0 ((l_3 ((l_1 y0_ ((l_3 ((l_s2 y0_ 1)) 6148914691236517205)))) 3689348814741910323)) ((l_3 ((l_s2 ((l_1 y0_ ((l_3 ((l_s2 y0_ 1)) 6148914691236517205)))) 2)) 3689348814741910323)))) 4))))], S0_)) rfl ?_
  refine sm_T_nt (u := some (.inr (.inl 1085102592571150095))) (S1 := S0_) rfl rfl rfl ?_
  have bx1_ := l_l2i_n ((l_0 ((l_0 ((l_0 ((l_3 ((l_0 ((l_0 ((l_3 ((l_1 y0_ ((l_3 ((l_s2 y0_ 1)) 6148914691236517205)))) 3689348814741910323)) ((l_3 ((l_s2 ((l_1 y0_ ((l_3 ((l_s2 y0_ 1)) 6148914691236517205)))) 2)) 3689348814741910323)))) ((l_s2 ((l_0 ((l_3 ((l_1 y0_ ((l_3 ((l_s2 y0_ 1)) 6148914691236517205)))) 3689348814741910323)) ((l_3 ((l_s2 ((l_1 y0_ ((l_3 ((l_s2 y0_ 1)) 6148914691236517205)))) 2)) 3689348814741910323)))) 4)))) 1085102592571150095)) ((l_s2 ((l_3 ((l_0 ((l_0 ((l_3 ((l_1 y0_ ((l_3 ((l_s2 y0_ 1)) 6148914691236517205)))) 3689348814741910323)) ((l_3 ((l_s2 ((l_1 y0_ ((l_3 ((l_s2 y0_ 1)) 6148914691236517205)))) 2)) 3689348814741910323)))) ((l_s2 ((l_0 ((l_3 ((l_1 y0_ ((l_3 ((l_s2 y0_ 1)) 6148914691236517205)))) 3689348814741910323)) ((l_3 ((l_s2 ((l_1 y0_ ((l_3 ((l_s2 y0_ 1)) 6148914691236517205)))) 2)) 3689348814741910323)))) 4)))) 1085102592571150095)) 8)))) ((l_s2 ((l_0 ((l_3 ((l_0 ((l_0 ((l_3 ((l_1 y0_ ((l_3 ((l_s2 y0_ 1)) 6148914691236517205)))) 3689348814741910323)) ((l_3 ((l_s2 ((l_1 y0_ ((l_3 ((l_s2 y0_ 1)) 6148914691236517205)))) 2)) 3689348814741910323)))) ((l_s2 ((l_0 ((l_3 ((l_1 y0_ ((l_3 ((l_s2 y0_ 1)) 6148914691236517205)))) 3689348814741910323)) ((l_3 ((l_s2 ((l_1 y0_ ((l_3 ((l_s2 y0_ 1)) 6148914691236517205)))) 2)) 3689348814741910323)))) 4)))) 1085102592571150095)) ((l_s2 ((l_3 ((l_0 ((l_0 ((l_3 ((l_1 y0_ ((l_3 ((l_s2 y0_ 1)) 6148914691236517205)))) 3689348814741910323)) ((l_3 ((l_s2 ((l_1 y0_ ((l_3 ((l_s2 y0_ 1)) 6148914691236517205)))) 2)) 3689348814741910323)))) ((l_s2 ((l_0 ((l_3 ((l_1 y0_ ((l_3 ((l_s2 y0_ 1)) 6148914691236517205)))) 3689348814741910323)) ((l_3 ((l_s2 ((l_1 y0_ ((l_3 ((l_s2 y0_ 1)) 6148914691236517205)))) 2)) 3689348814741910323)))) 4)))) 1085102592571150095)) 8)))) 16)))) ((l_s2 ((l_0 ((l_0 ((l_3 ((l_0 ((l_0 ((l_3 ((l_1 y0_ ((l_3 ((l_s2 y0_ 1)) 6148914691236517205)))) 3689348814741910323)) ((l_3 ((l_s2 ((l_1 y0_ ((l_3 ((l_s2 y0_ 1)) 6148914691236517205)))) 2)) 3689348814741910323)))) ((l_s2 ((l_0 ((l_3 ((l_1 y0_ ((l_3 ((l_s2 y0_ 1)) 6148914691236517205)))) 3689348814741910323)) ((l_3 ((l_s2 ((l_1 y0_ ((l_3 ((l_s2 y0_ 1)) 6148914691236517205)))) 2)) 3689348814741910323)))) 4)))) 1085102592571150095)) ((l_s2 ((l_3 ((l_0 ((l_0 ((l_3 ((l_1 y0_ ((l_3 ((l_s2 y0_ 1)) 6148914691236517205)))) 3689348814741910323)) ((l_3 ((l_s2 ((l_1 y0_ ((l_3 ((l_s2 y0_ 1)) 6148914691236517205)))) 2)) 3689348814741910323)))) ((l_s2 ((l_0 ((l_3 ((l_1 y0_ ((l_3 ((l_s2 y0_ 1)) 6148914691236517205)))) 3689348814741910323)) ((l_3 ((l_s2 ((l_1 y0_ ((l_3 ((l_s2 y0_ 1)) 6148914691236517205)))) 2)) 3689348814741910323)))) 4)))) 1085102592571150095)) 8)))) ((l_s2 ((l_0 ((l_3 ((l_0 ((l_0 ((l_3 ((l_1 y0_ ((l_3 ((l_s2 y0_ 1)) 6148914691236517205)))) 3689348814741910323)) ((l_3 ((l_s2 ((l_1 y0_ ((l_3 ((l_s2 y0_ 1)) 6148914691236517205)))) 2)) 3689348814741910323)))) ((l_s2 ((l_0 ((l_3 ((l_1 y0_ ((l_3 ((l_s2 y0_ 1)) 6148914691236517205)))) 3689348814741910323)) ((l_3 ((l_s2 ((l_1 y0_ ((l_3 ((l_s2 y0_ 1)) 6148914691236517205)))) 2)) 3689348814741910323)))) 4)))) 1085102592571150095)) ((l_s2 ((l_3 ((l_0 ((l_0 ((l_3 ((l_1 y0_ ((l_3 ((l_s2 y0_ 1)) 6148914691236517205)))) 3689348814741910323)) ((l_3 ((l_s2 ((l_1 y0_ ((l_3 ((l_s2 y0_ 1)) 6148914691236517205)))) 2)) 3689348814741910323)))) ((l_s2 ((l_0 ((l_3 ((l_1 y0_ ((l_3 ((l_s2 y0_ 1)) 6148914691236517205)))) 3689348814741910323)) ((l_3 ((l_s2 ((l_1 y0_ ((l_3 ((l_s2 y0_ 1)) 6148914691236517205)))) 2)) 3689348814741910323)))) 4)))) 1085102592571150095)) 8)))) 16)))) 32))))
  refine sm_T_go 23 (c1 := (59, [some (.inr (.inl (l_0 ((l_0 ((l_0 ((l_3 ((l_0 ((l_0 ((l_3 ((l_1 y0_ ((l_3 ((l_s2 y0_ 1)) 6148914691236517205)))) 3689348814741910323)) ((l_3 ((l_s2 ((l_1 y0_ ((l_3 ((l_s2 y0_ 1)) 6148914691236517205)))) 2)) 3689348814741910323)))) ((l_s2 ((l_0 ((l_3 ((l_1 y0_ ((l_3 ((l_s2 y0_ 1)) 6148914691236517205)))) 3689348814741910323)) ((l_3 ((l_s2 ((l_1 y0_ ((l_3 ((l_s2 y0_ 1)) 6148914691236517205)))) 2)) 3689348814741910323)))) 4)))) 1085102592571150095)) ((l_s2 ((l_3 ((l_0 ((l_0 ((l_3 ((l_1 y0_ ((l_3 ((l_s2 y0_ 1)) 6148914691236517205)))) 3689348814741910323)) ((l_3 ((l_s2 ((l_1 y0_ ((l_3 ((l_s2 y0_ 1)) 6148914691236517205)))) 2)) 3689348814741910323)))) ((l_s2 ((l_0 ((l_3 ((l_1 y0_ ((l_3 ((l_s2 y0_ 1)) 6148914691236517205)))) 3689348814741910323)) ((l_3 ((l_s2 ((l_1 y0_ ((l_3 ((l_s2 y0_ 1)) 6148914691236517205)))) 2)) 3689348814741910323)))) 4)))) 1085102592571150095)) 8)))) ((l_s2 ((l_0 ((l_3 ((l_0 ((l_0 ((l_3 ((l_1 y0_ ((l_3 ((l_s2 y0_ 1)) 6148914691236517205)))) 3689348814741910323)) ((l_3 ((l_s2 ((l_1 y0_ ((l_3 ((l_s2 y0_ 1)) 6148914691236517205)))) 2)) 3689348814741910323)))) ((l_s2 ((l_0 ((l_3 ((l_1 y0_ ((l_3 ((l_s2 y0_ 1)) 6148914691236517205)))) 3689348814741910323)) ((l_3 ((l_s2 ((l_1 y0_ ((l_3 ((l_s2 y0_ 1)) 6148914691236517205)))) 2)) 3689348814741910323)))) 4)))) 1085102592571150095)) ((l_s2 ((l_3 ((l_0 ((l_0 ((l_3 ((l_1 y0_ ((l_3 ((l_s2 y0_ 1)) 6148914691236517205)))) 3689348814741910323)) ((l_3 ((l_s2 ((l_1 y0_ ((l_3 ((l_s2 y0_ 1)) 6148914691236517205)))) 2)) 3689348814741910323)))) ((l_s2 ((l_0 ((l_3 ((l_1 y0_ ((l_3 ((l_s2 y0_ 1)) 6148914691236517205)))) 3689348814741910323)) ((l_3 ((l_s2 ((l_1 y0_ ((l_3 ((l_s2 y0_ 1)) 6148914691236517205)))) 2)) 3689348814741910323)))) 4)))) 1085102592571150095)) 8)))) 16)))) ((l_s2 ((l_0 ((l_0 ((l_3 ((l_0 ((l_0 ((l_3 ((l_1 y0_ ((l_3 ((l_s2 y0_ 1)) 6148914691236517205)))) 3689348814741910323)) ((l_3 ((l_s2 ((l_1 y0_ ((l_3 ((l_s2 y0_ 1)) 6148914691236517205)))) 2)) 3689348814741910323)))) ((l_s2 ((l_0 ((l_3 ((l_1 y0_ ((l_3 ((l_s2 y0_ 1)) 6148914691236517205)))) 3689348814741910323)) ((l_3 ((l_s2 ((l_1 y0_ ((l_3 ((l_s2 y0_ 1)) 6148914691236517205)))) 2)) 3689348814741910323)))) 4)))) 1085102592571150095)) ((l_s2 ((l_3 ((l_0 ((l_0 ((l_3 ((l_1 y0_ ((l_3 ((l_s2 y0_ 1)) 6148914691236517205)))) 3689348814741910323)) ((l_3 ((l_s2 ((l_1 y0_ ((l_3 ((l_s2 y0_ 1)) 6148914691236517205)))) 2)) 3689348814741910323)))) ((l_s2 ((l_0 ((l_3 ((l_1 y0_ ((l_3 ((l_s2 y0_ 1)) 6148914691236517205)))) 3689348814741910323)) ((l_3 ((l_s2 ((l_1 y0_ ((l_3 ((l_s2 y0_ 1)) 6148914691236517205)))) 2)) 3689348814741910323)))) 4)))) 1085102592571150095)) 8)))) ((l_s2 ((l_0 ((l_3 ((l_0 ((l_0 ((l_3 ((l_1 y0_ ((l_3 ((l_s2 y0_ 1)) 6148914691236517205)))) 3689348814741910323)) ((l_3 ((l_s2 ((l_1 y0_ ((l_3 ((l_s2 y0_ 1)) 6148914691236517205)))) 2)) 3689348814741910323)))) ((l_s2 ((l_0 ((l_3 ((l_1 y0_ ((l_3 ((l_s2 y0_ 1)) 6148914691236517205)))) 3689348814741910323)) ((l_3 ((l_s2 ((l_1 y0_ ((l_3 ((l_s2 y0_ 1)) 6148914691236517205)))) 2)) 3689348814741910323)))) 4)))) 1085102592571150095)) ((l_s2 ((l_3 ((l_0 ((l_0 ((l_3 ((l_1 y0_ ((l_3 ((l_s2 y0_ 1)) 6148914691236517205)))) 3689348814741910323)) ((l_3 ((l_s2 ((l_1 y0_ ((l_3 ((l_s2 y0_ 1)) 6148914691236517205)))) 2)) 3689348814741910323)))) ((l_s2 ((l_0 ((l_3 ((l_1 y0_ ((l_3 ((l_s2 y0_ 1)) 6148914691236517205)))) 3689348814741910323)) ((l_3 ((l_s2 ((l_1 y0_ ((l_3 ((l_s2 y0_ 1)) 6148914691236517205)))) 2)) 3689348814741910323)))) 4)))) 1085102592571150095)) 8)))) 16)))) 32))))), none], [.inl 127, .inl (l_l2i ((l_0 ((l_0 ((l_0 ((l_3 ((l_0 ((l_0 ((l_3 ((l_1 y0_ ((l_3 ((l_s2 y0_ 1)) 6148914691236517205)))) 3689348814741910323)) ((l_3 ((l_s2 ((l_1 y0_ ((l_3 ((l_s2 y0_ 1)) 6148914691236517205)))) 2)) 3689348814741910323)))) ((l_s2 ((l_0 ((l_3 ((l_1 y0_ ((l_3 ((l_s2 y0_ 1)) 6148914691236517205)))) 3689348814741910323)) ((l_3 ((l_s2 ((l_1 y0_ ((l_3 ((l_s2 y0_ 1)) 6148914691236517205)))) 2)) 3689348814741910323)))) 4)))) 1085102592571150095)) ((l_s2 ((l_3 ((l_0 ((l_0 ((l_3 ((l_1 y0_ ((l_3 ((l_s2 y0_ 1)) 6148914691236517205)))) 3689348814741910323)) ((l_3 ((l_s2 ((l_1 y0_ ((l_3 ((l_s2 y0_ 1)) 6148914691236517205)))) 2)) 3689348814741910323)))) ((l_s2 ((l_0 ((l_3 ((l_1 y0_ ((l_3 ((l_s2 y0_ 1)) 6148914691236517205)))) 3689348814741910323)) ((l_3 ((l_s2 ((l_1 y0_ ((l_3 ((l_s2 y0_ 1)) 6148914691236517205)))) 2)) 3689348814741910323)))) 4)))) 1085102592571150095)) 8)))) ((l_s2 ((l_0 ((l_3 ((l_0 ((l_0 ((l_3 ((l_1 y0_ ((l_3 ((l_s2 y0_ 1)) 6148914691236517205)))) 3689348814741910323)) ((l_3 ((l_s2 ((l_1 y0_ ((l_3 ((l_s2 y0_ 1)) 6148914691236517205)))) 2)) 3689348814741910323)))) ((l_s2 ((l_0 ((l_3 ((l_1 y0_ ((l_3 ((l_s2 y0_ 1)) 6148914691236517205)))) 3689348814741910323)) ((l_3 ((l_s2 ((l_1 y0_ ((l_3 ((l_s2 y0_ 1)) 6148914691236517205)))) 2)) 3689348814741910323)))) 4)))) 1085102592571150095)) ((l_s2 ((l_3 ((l_0 ((l_0 ((l_3 ((l_1 y0_ ((l_3 ((l_s2 y0_ 1)) 6148914691236517205)))) 3689348814741910323)) ((l_3 ((l_s2 ((l_1 y0_ ((l_3 ((l_s2 y0_ 1)) 6148914691236517205)))) 2)) 3689348814741910323)))) ((l_s2 ((l_0 ((l_3 ((l_1 y0_ ((l_3 ((l_s2 y0_ 1)) 6148914691236517205)))) 3689348814741910323)) ((l_3 ((l_s2 ((l_1 y0_ ((l_3 ((l_s2 y0_ 1)) 6148914691236517205)))) 2)) 3689348814741910323)))) 4)))) 1085102592571150095)) 8)))) 16)))) ((l_s2 ((l_0 ((l_0 ((l_3 ((l_0 ((l_0 ((l_3 ((l_1 y0_ ((l_3 ((l_s2 y0_ 1)) 6148914691236517205)))) 3689348814741910323)) ((l_3 ((l_s2 ((l_1 y0_ ((l_3 ((l_s2 y0_ 1)) 6148914691236517205)))) 2)) 3689348814741910323)))) ((l_s2 ((l_0 ((l_3 ((l_1 y0_ ((l_3 ((l_s2 y0_ 1)) 6148914691236517205)))) 3689348814741910323)) ((l_3 ((l_s2 ((l_1 y0_ ((l_3 ((l_s2 y0_ 1)) 6148914691236517205)))) 2)) 3689348814741910323)))) 4)))) 1085102592571150095)) ((l_s2 ((l_3 ((l_0 ((l_0 ((l_3 ((l_1 y0_ ((l_3 ((l_s2 y0_ 1)) 6148914691236517205)))) 3689348814741910323)) ((l_3 ((l_s2 ((l_1 y0_ ((l_3 ((l_s2 y0_ 1)) 6148914691236517205)))) 2)) 3689348814741910323)))) ((l_s2 ((l_0 ((l_3 ((l_1 y0_ ((l_3 ((l_s2 y0_ 1)) 6148914691236517205)))) 3689348814741910323)) ((l_3 ((l_s2 ((l_1 y0_ ((l_3 ((l_s2 y0_ 1)) 6148914691236517205)))) 2)) 3689348814741910323)))) 4)))) 1085102592571150095)) 8)))) ((l_s2 ((l_0 ((l_3 ((l_0 ((l_0 ((l_3 ((l_1 y0_ ((l_3 ((l_s2 y0_ 1)) 6148914691236517205)))) 3689348814741910323)) ((l_3 ((l_s2 ((l_1 y0_ ((l_3 ((l_s2 y0_ 1)) 6148914691236517205)))) 2)) 3689348814741910323)))) ((l_s2 ((l_0 ((l_3 ((l_1 y0_ ((l_3 ((l_s2 y0_ 1)) 6148914691236517205)))) 3689348814741910323)) ((l_3 ((l_s2 ((l_1 y0_ ((l_3 ((l_s2 y0_ 1)) 6148914691236517205)))) 2)) 3689348814741910323)))) 4)))) 1085102592571150095)) ((l_s2 ((l_3 ((l_0 ((l_0 ((l_3 ((l_1 y0_ ((l_3 ((l_s2 y0_ 1)) 6148914691236517205)))) 3689348814741910323)) ((l_3 ((l_s2 ((l_1 y0_ ((l_3 ((l_s2 y0_ 1)) 6148914691236517205)))) 2)) 3689348814741910323)))) ((l_s2 ((l_0 ((l_3 ((l_1 y0_ ((l_3 ((l_s2 y0_ 1)) 6148914691236517205)))) 3689348814741910323)) ((l_3 ((l_s2 ((l_1 y0_ ((l_3 ((l_s2 y0_ 1)) 6148914691236517205)))) 2)) 3689348814741910323)))) 4)))) 1085102592571150095)) 8)))) 16)))) 32)))))], S0_)) rfl ?_
  refine sm_T_bin (w := ((l_l2i ((l_0 ((l_0 ((l_0 ((l_3 ((l_0 ((l_0 ((l_3 ((l_1 y0_ ((l_3 ((l_s2 y0_ 1)) 6148914691236517205)))) 3689348814741910323)) ((l_3 ((l_s2 ((l_1 y0_ ((l_3 ((l_s2 y0_ 1)) 6148914691236517205)))) 2)) 3689348814741910323)))) ((l_s2 ((l_0 ((l_3 ((l_1 y0_ ((l_3 ((l_s2 y0_ 1)) 6148914691236517205)))) 3689348814741910323)) ((l_3 ((l_s2 ((l_1 y0_ ((l_3 ((l_s2 y0_ 1)) 6148914691236517205)))) 2)) 3689348814741910323)))) 4)))) 1085102592571150095)) ((l_s2 ((l_3 ((l_0 ((l_0 ((l_3 ((l_1 y0_ ((l_3 ((l_s2 y0_ 1)) 6148914691236517205)))) 3689348814741910323)) ((l_3 ((l_s2 ((l_1 y0_ ((l_3 ((l_s2 y0_ 1)) 6148914691236517205)))) 2)) 3689348814741910323)))) ((l_s2 ((l_0 ((l_3 ((l_1 y0_ ((l_3 ((l_s2 y0_ 1)) 6148914691236517205)))) 3689348814741910323)) ((l_3 ((l_s2 ((l_1 y0_ ((l_3 ((l_s2 y0_ 1)) 6148914691236517205)))) 2)) 3689348814741910323)))) 4)))) 1085102592571150095)) 8)))) ((l_s2 ((l_0 ((l_3 ((l_0 ((l_0 ((l_3 ((l_1 y0_ ((l_3 ((l_s2 y0_ 1)) 6148914691236517205)))) 3689348814741910323)) ((l_3 ((l_s2 ((l_1 y0_ ((l_3 ((l_s2 y0_ 1)) 6148914691236517205)))) 2)) 3689348814741910323)))) ((l_s2 ((l_0 ((l_3 ((l_1 y0_ ((l_3 ((l_s2 y0_ 1)) 6148914691236517205)))) 3689348814741910323)) ((l_3 ((l_s2 ((l_1 y0_ ((l_3 ((l_s2 y0_ 1)) 6148914691236517205)))) 2)) 3689348814741910323)))) 4)))) 1085102592571150095)) ((l_s2 ((l_3 ((l_0 ((l_0 ((l_3 ((l_1 y0_ ((l_3 ((l_s2 y0_ 1)) 6148914691236517205)))) 3689348814741910323)) ((l_3 ((l_s2 ((l_1 y0_ ((l_3 ((l_s2 y0_ 1)) 6148914691236517205)))) 2)) 3689348814741910323)))) ((l_s2 ((l_0 ((l_3 ((l_1 y0_ ((l_3 ((l_s2 y0_ 1)) 6148914691236517205)))) 3689348814741910323)) ((l_3 ((l_s2 ((l_1 y0_ ((l_3 ((l_s2 y0_ 1)) 6148914691236517205)))) 2)) 3689348814741910323)))) 4)))) 1085102592571150095)) 8)))) 16)))) ((l_s2 ((l_0 ((l_0 ((l_3 ((l_0 ((l_0 ((l_3 ((l_1 y0_ ((l_3 ((l_s2 y0_ 1)) 6148914691236517205)))) 3689348814741910323)) ((l_3 ((l_s2 ((l_1 y0_ ((l_3 ((l_s2 y0_ 1)) 6148914691236517205)))) 2)) 3689348814741910323)))) ((l_s2 ((l_0 ((l_3 ((l_1 y0_ ((l_3 ((l_s2 y0_ 1)) 6148914691236517205)))) 3689348814741910323)) ((l_3 ((l_s2 ((l_1 y0_ ((l_3 ((l_s2 y0_ 1)) 6148914691236517205)))) 2)) 3689348814741910323)))) 4)))) 1085102592571150095)) ((l_s2 ((l_3 ((l_0 ((l_0 ((l_3 ((l_1 y0_ ((l_3 ((l_s2 y0_ 1)) 6148914691236517205)))) 3689348814741910323)) ((l_3 ((l_s2 ((l_1 y0_ ((l_3 ((l_s2 y0_ 1)) 6148914691236517205)))) 2)) 3689348814741910323)))) ((l_s2 ((l_0 ((l_3 ((l_1 y0_ ((l_3 ((l_s2 y0_ 1)) 6148914691236517205)))) 3689348814741910323)) ((l_3 ((l_s2 ((l_1 y0_ ((l_3 ((l_s2 y0_ 1)) 6148914691236517205)))) 2)) 3689348814741910323)))) 4)))) 1085102592571150095)) 8)))) ((l_s2 ((l_0 ((l_3 ((l_0 ((l_0 ((l_3 ((l_1 y0_ ((l_3 ((l_s2 y0_ 1)) 6148914691236517205)))) 3689348814741910323)) ((l_3 ((l_s2 ((l_1 y0_ ((l_3 ((l_s2 y0_ 1)) 6148914691236517205)))) 2)) 3689348814741910323)))) ((l_s2 ((l_0 ((l_3 ((l_1 y0_ ((l_3 ((l_s2 y0_ 1)) 6148914691236517205)))) 3689348814741910323)) ((l_3 ((l_s2 ((l_1 y0_ ((l_3 ((l_s2 y0_ 1)) 6148914691236517205)))) 2)) 3689348814741910323)))) 4)))) 1085102592571150095)) ((l_s2 ((l_3 ((l_0 ((l_0 ((l_3 ((l_1 y0_ ((l_3 ((l_s2 y0_ 1)) 6148914691236517205)))) 3689348814741910323)) ((l_3 ((l_s2 ((l_1 y0_ ((l_3 ((l_s2 y0_ 1)) 6148914691236517205)))) 2)) 3689348814741910323)))) ((l_s2 ((l_0 ((l_3 ((l_1 y0_ ((l_3 ((l_s2 y0_ 1)) 6148914691236517205)))) 3689348814741910323)) ((l_3 ((l_s2 ((l_1 y0_ ((l_3 ((l_s2 y0_ 1)) 6148914691236517205)))) 2)) 3689348814741910323)))) 4)))) 1085102592571150095)) 8)))) 16)))) 32))))) % 128)) rfl (bi_msk (k := 7) (by decide)) ?_ -- pc_ 59
  refine sm_T_ri rfl ⟨_, _, rfl, rfl, _, rfl, ?_⟩
  first | (refine ⟨⟨?_, ?_⟩, rfl⟩ <;> omega) | omega | (refine ⟨by omega, ?_⟩; omega)
end
/-! 99.zl4f -/
section
/-! Layout.thinBox -/
def vw_81 : sx_Wl := ([], [], [])
def vq_81 (a1_ : Int) (ii_ : Nat) (S0_ : sm_S) (u_ : Option sm_V) (S1_ : sm_S) : Prop := S0_ = S1_ ∧ ∃ v_ : Int, u_ = some (.inl v_) ∧ (-1 ≤ v_ ∧ v_ ≤ 1999)
set_option maxHeartbeats 400000 in
theorem vl_81 {sc_ : Nat × (Nat → Int)} (a1_ : Int) (ii_ : Nat) (S0_ : sm_S) (h1_ : 0 ≤ a1_ ∧ a1_ ≤ 2147483647) : ∀ nn_ : Nat, (∀ (rs_ : Int) (k_ : Int) (S_ : sm_S), gi S_ → ai_fr (sx_W vw_81) S0_ S_ → ((0 ≤ k_ ∧ k_ ≤ 2000 ∧ -2147483648 ≤ rs_ ∧ rs_ ≤ 2147483647) ∧ (S_ = S0_) ∧ True) → ((3000 - k_).toNat) < nn_ → sm_T (mt_P sc_) 1 81 (4, [some (.inr (.inr (some (4, ii_)))), some (.inl a1_), some (.inl rs_), some (.inl k_)], [], S_) (fun ro9_ => ∃ u_ S1_, ro9_ = (.inl u_, S1_, 0) ∧ vq_81 a1_ ii_ S0_ u_ S1_)) := by
  intro nn_
  induction nn_ with
  | zero => exact fun _ _ _ _ _ _ h_ => absurd h_ (Nat.not_lt_zero _)
  | succ nn_ ih_ =>
    rintro rs_ k_ S_ hI_ hF_ ⟨h0_, hS_, -⟩ hm_
    have cn_ : 0 ≤ S_.1 4 ii_ 1 ∧ S_.1 4 ii_ 1 ≤ 2000 := hI_.1 4 ii_ 1 rfl
    have bx1_ : 0 ≤ S_.1 4 ii_ 1 ∧ S_.1 4 ii_ 1 ≤ 2000 := hI_.1 4 ii_ 1 rfl
    refine sm_T_go 3 (c1 := (9, [some (.inr (.inr (some (4, ii_)))), some (.inl a1_), some (.inl rs_), some (.inl k_)], [.inl (S_.1 4 ii_ 1), .inl k_], S_)) rfl ?_
    refine sm_T_br (a := 3) (z := 26) rfl (fun cx2_ => ?_) (fun cx2_ => ?_)
    · have cx2_ : (S_.1 4 ii_ 1) ≤ k_ := of_decide_eq_true cx2_
      refine sm_T_go 1 (c1 := (36, [some (.inr (.inr (some (4, ii_)))), some (.inl a1_), some (.inl rs_), some (.inl k_)], [.inl (-1)], S_)) rfl ?_
      refine sm_T_ri rfl ⟨_, _, rfl, (by first | rfl | exact hS_.symm), _, rfl, ?_⟩
      omega
    · have cx2_ : ¬ ((S_.1 4 ii_ 1) ≤ k_) := of_decide_eq_false cx2_
      refine sm_T_go 2 (c1 := (14, [some (.inr (.inr (some (4, ii_)))), some (.inl a1_), some (.inl rs_), some (.inl k_)], [.inl k_, .inr (.inr (some (4, ii_)))], S_)) rfl ?_
      refine sm_T_cal (d1 := 0) (Q1 := vq_76 k_ ii_ S_) rfl rfl (by decide) (vc_76 k_ ii_ S_ hI_ (by omega)) (fun u_ Sx3_ px6_ => ?_)
      obtain ⟨rfl, vx8_, rfl, px6_⟩ := px6_
      refine sm_T_b0 (a := 0) (z := 12) rfl (fun cx9_ => ?_) (fun cx9_ => ?_)
      · have cx9_ : vx8_ = 0 := of_decide_eq_true cx9_
        refine sm_T_inc (a := 3) (z := 1) (v := k_) (w := k_ + 1) rfl rfl (by omega) (by omega) (by omega) ?_ -- pc_ 29
        refine sm_T_go 1 (c1 := (4, [some (.inr (.inr (some (4, ii_)))), some (.inl a1_), some (.inl rs_), some (.inl (k_ + 1))], [], S_)) rfl ?_
        refine ih_ rs_ (k_ + 1) S_ hI_ hF_ ⟨?_, ?_, trivial⟩ ?_
        · omega
        · first | rfl | exact hS_
        · omega
      · have cx9_ : ¬ (vx8_ = 0) := of_decide_eq_false cx9_
        refine sm_T_go 1 (c1 := (21, [some (.inr (.inr (some (4, ii_)))), some (.inl a1_), some (.inl rs_), some (.inl k_)], [.inl rs_], S_)) rfl ?_
        refine sm_T_b0 (a := 1) (z := 5) rfl (fun cx10_ => ?_) (fun cx10_ => ?_)
        · have cx10_ : rs_ ≠ 0 := of_decide_eq_true cx10_
          refine sm_T_incw (a_ := 2) (z_ := (-1)) (v_ := rs_) rfl rfl ?_ -- pc_ 26
          have bx11_ := i_add_r rs_ (-1)
          refine sm_T_inc (a := 3) (z := 1) (v := k_) (w := k_ + 1) rfl rfl (by omega) (by omega) (by omega) ?_ -- pc_ 29
          refine sm_T_go 1 (c1 := (4, [some (.inr (.inr (some (4, ii_)))), some (.inl a1_), some (.inl (i_add rs_ (-1))), some (.inl (k_ + 1))], [], S_)) rfl ?_
          refine ih_ (i_add rs_ (-1)) (k_ + 1) S_ hI_ hF_ ⟨?_, ?_, trivial⟩ ?_
          · omega
          · first | rfl | exact hS_
          · omega
        · have cx10_ : ¬ (rs_ ≠ 0) := of_decide_eq_false cx10_
          refine sm_T_go 1 (c1 := (25, [some (.inr (.inr (some (4, ii_)))), some (.inl a1_), some (.inl rs_), some (.inl k_)], [.inl k_], S_)) rfl ?_
          refine sm_T_ri rfl ⟨_, _, rfl, (by first | rfl | exact hS_.symm), _, rfl, ?_⟩
          omega
set_option maxHeartbeats 400000 in
theorem vc_81 {sc_ : Nat × (Nat → Int)} (a1_ : Int) (ii_ : Nat) (S0_ : sm_S) (hI_ : gi S0_) (h1_ : 0 ≤ a1_ ∧ a1_ ≤ 2147483647) : sm_T (mt_P sc_) 1 81 (0, [some (.inr (.inr (some (4, ii_)))), some (.inl a1_), none, none], [], S0_) (fun ro9_ => ∃ u_ S1_, ro9_ = (.inl u_, S1_, 0) ∧ vq_81 a1_ ii_ S0_ u_ S1_) := by
  have hF_ : ai_fr (sx_W vw_81) S0_ S0_ := ai_fr_rf
  refine sm_T_go 4 (c1 := (4, [some (.inr (.inr (some (4, ii_)))), some (.inl a1_), some (.inl a1_), some (.inl 0)], [], S0_)) rfl ?_
  refine (vl_81 a1_ ii_ S0_ h1_ _) a1_ 0 S0_ hI_ hF_ ⟨?_, ?_, trivial⟩ (Nat.lt_succ_self _)
  · omega
  · first | rfl | exact hS_
end
/-! 99.zl4g -/
section
/-! Layout.sideOf -/
def vw_80 : sx_Wl := ([], [], [])
def vq_80 (a1_ : Int) (a2_ : Int) (ii_ : Nat) (S0_ : sm_S) (u_ : Option sm_V) (S1_ : sm_S) : Prop := S0_ = S1_ ∧ ∃ v_ : Int, u_ = some (.inl v_) ∧ (-1 ≤ v_ ∧ v_ ≤ 2000)
set_option maxHeartbeats 400000 in
theorem vl_80 {sc_ : Nat × (Nat → Int)} (a1_ : Int) (a2_ : Int) (ii_ : Nat) (S0_ : sm_S) (h1_ : 0 ≤ a1_ ∧ a1_ ≤ 2147483647) : ∀ nn_ : Nat, (∀ (rs_ : Int) (a_ : Int) (S_ : sm_S), gi S_ → ai_fr (sx_W vw_80) S0_ S_ → ((0 ≤ a_ ∧ a_ ≤ 1999 ∧ -2147483648 ≤ rs_ ∧ rs_ ≤ 2147483647) ∧ (S_ = S0_) ∧ True) → ((9000 - a_).toNat) < nn_ → sm_T (mt_P sc_) 2 80 (32, [some (.inr (.inr (some (4, ii_)))), some (.inl a1_), some (.inl a2_), some (.inl rs_), some (.inl a_), none], [], S_) (fun ro9_ => ∃ u_ S1_, ro9_ = (.inl u_, S1_, 0) ∧ vq_80 a1_ a2_ ii_ S0_ u_ S1_)) ∧ (∀ (rs_ : Int) (a_ : Int) (b_ : Int) (S_ : sm_S), gi S_ → ai_fr (sx_W vw_80) S0_ S_ → ((0 ≤ a_ ∧ a_ ≤ 1999 ∧ a_ < b_ ∧ b_ ≤ 2000 ∧ -2147483648 ≤ rs_ ∧ rs_ ≤ 2147483647) ∧ (S_ = S0_) ∧ True) → ((4000 - b_).toNat) < nn_ → sm_T (mt_P sc_) 2 80 (83, [some (.inr (.inr (some (4, ii_)))), some (.inl a1_), some (.inl a2_), some (.inl rs_), some (.inl a_), some (.inl b_)], [], S_) (fun ro9_ => ∃ u_ S1_, ro9_ = (.inl u_, S1_, 0) ∧ vq_80 a1_ a2_ ii_ S0_ u_ S1_)) := by
  intro nn_
  induction nn_ with
  | zero => exact ⟨fun _ _ _ _ _ _ h_ => absurd h_ (Nat.not_lt_zero _), fun _ _ _ _ _ _ _ h_ => absurd h_ (Nat.not_lt_zero _)⟩
  | succ nn_ ih_ =>
    refine ⟨?_, ?_⟩
    · rintro rs_ a_ S_ hI_ hF_ ⟨h0_, hS_, -⟩ hm_
      have cn_ : 0 ≤ S_.1 4 ii_ 1 ∧ S_.1 4 ii_ 1 ≤ 2000 := hI_.1 4 ii_ 1 rfl
      have bx1_ : 0 ≤ S_.1 4 ii_ 1 ∧ S_.1 4 ii_ 1 ≤ 2000 := hI_.1 4 ii_ 1 rfl
      refine sm_T_go 4 (c1 := (39, [some (.inr (.inr (some (4, ii_)))), some (.inl a1_), some (.inl a2_), some (.inl rs_), some (.inl a_), none], [.inl 1, .inl (S_.1 4 ii_ 1), .inl a_], S_)) rfl ?_
      refine sm_T_bin (w := (S_.1 4 ii_ 1) - 1) rfl (bi_sub (by omega) (by omega) (by omega)) ?_ -- pc_ 39
      refine sm_T_br (a := 3) (z := 30) rfl (fun cx2_ => ?_) (fun cx2_ => ?_)
      · have cx2_ : (S_.1 4 ii_ 1) - 1 ≤ a_ := of_decide_eq_true cx2_
        refine sm_T_go 1 (c1 := (71, [some (.inr (.inr (some (4, ii_)))), some (.inl a1_), some (.inl a2_), some (.inl rs_), some (.inl a_), none], [.inl a2_], S_)) rfl ?_
        refine sm_T_b0 (a := 1) (z := 6) rfl (fun cx3_ => ?_) (fun cx3_ => ?_)
        · have cx3_ : a2_ ≠ 0 := of_decide_eq_true cx3_
          refine sm_T_go 2 (c1 := (80, [some (.inr (.inr (some (4, ii_)))), some (.inl a1_), some (.inl a2_), some (.inl rs_), some (.inl a_), none], [.inl 1, .inl a_], S_)) rfl ?_
          refine sm_T_bin (w := a_ + 1) rfl (bi_add (by omega) (by omega) (by omega)) ?_ -- pc_ 80
          refine sm_T_go 1 (c1 := (83, [some (.inr (.inr (some (4, ii_)))), some (.inl a1_), some (.inl a2_), some (.inl rs_), some (.inl a_), some (.inl (a_ + 1))], [], S_)) rfl ?_
          refine ih_.2 rs_ a_ (a_ + 1) S_ hI_ hF_ ⟨?_, ?_, trivial⟩ ?_
          · omega
          · first | rfl | exact hS_
          · omega
        · have cx3_ : ¬ (a2_ ≠ 0) := of_decide_eq_false cx3_
          refine sm_T_go 1 (c1 := (76, [some (.inr (.inr (some (4, ii_)))), some (.inl a1_), some (.inl a2_), some (.inl rs_), some (.inl a_), none], [.inl a_], S_)) rfl ?_
          refine sm_T_ri rfl ⟨_, _, rfl, (by first | rfl | exact hS_.symm), _, rfl, ?_⟩
          omega
      · have cx2_ : ¬ ((S_.1 4 ii_ 1) - 1 ≤ a_) := of_decide_eq_false cx2_
        refine sm_T_go 4 (c1 := (50, [some (.inr (.inr (some (4, ii_)))), some (.inl a1_), some (.inl a2_), some (.inl rs_), some (.inl a_), none], [.inl a_, .inr (.inr (some (50, (0 + ii_)))), .inl rs_], S_)) rfl ?_
        refine sm_T_iald (n := 2000) rfl rfl (by omega) (by omega) ?_
        have bx4_ : (-2147483648) ≤ S_.2.2.1 50 (0 + ii_) a_.toNat ∧ S_.2.2.1 50 (0 + ii_) a_.toNat ≤ 2147483647 := hI_.2 50 (0 + ii_) _
        refine sm_T_br (a := 2) (z := 19) rfl (fun cx5_ => ?_) (fun cx5_ => ?_)
        · have cx5_ : rs_ < (S_.2.2.1 50 (0 + ii_) a_.toNat) := of_decide_eq_true cx5_
          refine sm_T_go 1 (c1 := (71, [some (.inr (.inr (some (4, ii_)))), some (.inl a1_), some (.inl a2_), some (.inl rs_), some (.inl a_), none], [.inl a2_], S_)) rfl ?_
          refine sm_T_b0 (a := 1) (z := 6) rfl (fun cx6_ => ?_) (fun cx6_ => ?_)
          · have cx6_ : a2_ ≠ 0 := of_decide_eq_true cx6_
            refine sm_T_go 2 (c1 := (80, [some (.inr (.inr (some (4, ii_)))), some (.inl a1_), some (.inl a2_), some (.inl rs_), some (.inl a_), none], [.inl 1, .inl a_], S_)) rfl ?_
            refine sm_T_bin (w := a_ + 1) rfl (bi_add (by omega) (by omega) (by omega)) ?_ -- pc_ 80
            refine sm_T_go 1 (c1 := (83, [some (.inr (.inr (some (4, ii_)))), some (.inl a1_), some (.inl a2_), some (.inl rs_), some (.inl a_), some (.inl (a_ + 1))], [], S_)) rfl ?_
            refine ih_.2 rs_ a_ (a_ + 1) S_ hI_ hF_ ⟨?_, ?_, trivial⟩ ?_
            · omega
            · first | rfl | exact hS_
            · omega
          · have cx6_ : ¬ (a2_ ≠ 0) := of_decide_eq_false cx6_
            refine sm_T_go 1 (c1 := (76, [some (.inr (.inr (some (4, ii_)))), some (.inl a1_), some (.inl a2_), some (.inl rs_), some (.inl a_), none], [.inl a_], S_)) rfl ?_
            refine sm_T_ri rfl ⟨_, _, rfl, (by first | rfl | exact hS_.symm), _, rfl, ?_⟩
            omega
        · have cx5_ : ¬ (rs_ < (S_.2.2.1 50 (0 + ii_) a_.toNat)) := of_decide_eq_false cx5_
          refine sm_T_go 4 (c1 := (61, [some (.inr (.inr (some (4, ii_)))), some (.inl a1_), some (.inl a2_), some (.inl rs_), some (.inl a_), none], [.inl a_, .inr (.inr (some (50, (0 + ii_)))), .inl rs_], S_)) rfl ?_
          refine sm_T_iald (n := 2000) rfl rfl (by omega) (by omega) ?_
          refine sm_T_bin (w := (i_sub rs_ (S_.2.2.1 50 (0 + ii_) a_.toNat))) rfl rfl ?_ -- pc_ 62
          have bx7_ := i_sub_r rs_ (S_.2.2.1 50 (0 + ii_) a_.toNat)
          refine sm_T_go 1 (c1 := (64, [some (.inr (.inr (some (4, ii_)))), some (.inl a1_), some (.inl a2_), some (.inl (i_sub rs_ (S_.2.2.1 50 (0 + ii_) a_.toNat))), some (.inl a_), none], [], S_)) rfl ?_
          refine sm_T_inc (a := 4) (z := 1) (v := a_) (w := a_ + 1) rfl rfl (by omega) (by omega) (by omega) ?_ -- pc_ 64
          refine sm_T_go 1 (c1 := (32, [some (.inr (.inr (some (4, ii_)))), some (.inl a1_), some (.inl a2_), some (.inl (i_sub rs_ (S_.2.2.1 50 (0 + ii_) a_.toNat))), some (.inl (a_ + 1)), none], [], S_)) rfl ?_
          refine ih_.1 (i_sub rs_ (S_.2.2.1 50 (0 + ii_) a_.toNat)) (a_ + 1) S_ hI_ hF_ ⟨?_, ?_, trivial⟩ ?_
          · omega
          · first | rfl | exact hS_
          · omega
    · rintro rs_ a_ b_ S_ hI_ hF_ ⟨h0_, hS_, -⟩ hm_
      have cn_ : 0 ≤ S_.1 4 ii_ 1 ∧ S_.1 4 ii_ 1 ≤ 2000 := hI_.1 4 ii_ 1 rfl
      have bx1_ : 0 ≤ S_.1 4 ii_ 1 ∧ S_.1 4 ii_ 1 ≤ 2000 := hI_.1 4 ii_ 1 rfl
      refine sm_T_go 3 (c1 := (89, [some (.inr (.inr (some (4, ii_)))), some (.inl a1_), some (.inl a2_), some (.inl rs_), some (.inl a_), some (.inl b_)], [.inl (S_.1 4 ii_ 1), .inl b_], S_)) rfl ?_
      refine sm_T_br (a := 3) (z := 30) rfl (fun cx2_ => ?_) (fun cx2_ => ?_)
      · have cx2_ : (S_.1 4 ii_ 1) ≤ b_ := of_decide_eq_true cx2_
        refine sm_T_go 1 (c1 := (120, [some (.inr (.inr (some (4, ii_)))), some (.inl a1_), some (.inl a2_), some (.inl rs_), some (.inl a_), some (.inl b_)], [.inl (-1)], S_)) rfl ?_
        refine sm_T_ri rfl ⟨_, _, rfl, (by first | rfl | exact hS_.symm), _, rfl, ?_⟩
        omega
      · have cx2_ : ¬ ((S_.1 4 ii_ 1) ≤ b_) := of_decide_eq_false cx2_
        refine sm_T_go 3 (c1 := (97, [some (.inr (.inr (some (4, ii_)))), some (.inl a1_), some (.inl a2_), some (.inl rs_), some (.inl a_), some (.inl b_)], [.inl b_, .inl a_, .inr (.inr (some (4, ii_)))], S_)) rfl ?_
        refine sm_T_cal (d1 := 0) (Q1 := vq_77 a_ b_ ii_ S_) rfl rfl (by decide) (vc_77 a_ b_ ii_ S_ hI_ (by omega) (by omega)) (fun u_ Sx3_ px6_ => ?_)
        obtain ⟨rfl, vx8_, rfl, px6_⟩ := px6_
        refine sm_T_b0 (a := 0) (z := 13) rfl (fun cx9_ => ?_) (fun cx9_ => ?_)
        · have cx9_ : vx8_ = 0 := of_decide_eq_true cx9_
          refine sm_T_inc (a := 5) (z := 1) (v := b_) (w := b_ + 1) rfl rfl (by omega) (by omega) (by omega) ?_ -- pc_ 113
          refine sm_T_go 1 (c1 := (83, [some (.inr (.inr (some (4, ii_)))), some (.inl a1_), some (.inl a2_), some (.inl rs_), some (.inl a_), some (.inl (b_ + 1))], [], S_)) rfl ?_
          refine ih_.2 rs_ a_ (b_ + 1) S_ hI_ hF_ ⟨?_, ?_, trivial⟩ ?_
          · omega
          · first | rfl | exact hS_
          · omega
        · have cx9_ : ¬ (vx8_ = 0) := of_decide_eq_false cx9_
          refine sm_T_go 1 (c1 := (104, [some (.inr (.inr (some (4, ii_)))), some (.inl a1_), some (.inl a2_), some (.inl rs_), some (.inl a_), some (.inl b_)], [.inl rs_], S_)) rfl ?_
          refine sm_T_b0 (a := 1) (z := 6) rfl (fun cx10_ => ?_) (fun cx10_ => ?_)
          · have cx10_ : rs_ ≠ 0 := of_decide_eq_true cx10_
            refine sm_T_incw (a_ := 3) (z_ := (-1)) (v_ := rs_) rfl rfl ?_ -- pc_ 110
            have bx11_ := i_add_r rs_ (-1)
            refine sm_T_inc (a := 5) (z := 1) (v := b_) (w := b_ + 1) rfl rfl (by omega) (by omega) (by omega) ?_ -- pc_ 113
            refine sm_T_go 1 (c1 := (83, [some (.inr (.inr (some (4, ii_)))), some (.inl a1_), some (.inl a2_), some (.inl (i_add rs_ (-1))), some (.inl a_), some (.inl (b_ + 1))], [], S_)) rfl ?_
            refine ih_.2 (i_add rs_ (-1)) a_ (b_ + 1) S_ hI_ hF_ ⟨?_, ?_, trivial⟩ ?_
            · omega
            · first | rfl | exact hS_
            · omega
          · have cx10_ : ¬ (rs_ ≠ 0) := of_decide_eq_false cx10_
            refine sm_T_go 1 (c1 := (109, [some (.inr (.inr (some (4, ii_)))), some (.inl a1_), some (.inl a2_), some (.inl rs_), some (.inl a_), some (.inl b_)], [.inl b_], S_)) rfl ?_
            refine sm_T_ri rfl ⟨_, _, rfl, (by first | rfl | exact hS_.symm), _, rfl, ?_⟩
            omega
set_option maxHeartbeats 400000 in
theorem vc_80 {sc_ : Nat × (Nat → Int)} (a1_ : Int) (a2_ : Int) (ii_ : Nat) (S0_ : sm_S) (hI_ : gi S0_) (h1_ : 0 ≤ a1_ ∧ a1_ ≤ 2147483647) : sm_T (mt_P sc_) 2 80 (0, [some (.inr (.inr (some (4, ii_)))), some (.inl a1_), some (.inl a2_), none, none, none], [], S0_) (fun ro9_ => ∃ u_ S1_, ro9_ = (.inl u_, S1_, 0) ∧ vq_80 a1_ a2_ ii_ S0_ u_ S1_) := by
  have hF_ : ai_fr (sx_W vw_80) S0_ S0_ := ai_fr_rf
  have bx1_ : 0 ≤ S0_.1 4 ii_ 8 ∧ S0_.1 4 ii_ 8 ≤ 2000 := hI_.1 4 ii_ 8 rfl
  refine sm_T_go 3 (c1 := (5, [some (.inr (.inr (some (4, ii_)))), some (.inl a1_), some (.inl a2_), none, none, none], [.inl (S0_.1 4 ii_ 8), .inl a1_], S0_)) rfl ?_
  refine sm_T_br (a := 3) (z := 17) rfl (fun cx2_ => ?_) (fun cx2_ => ?_)
  · have cx2_ : (S0_.1 4 ii_ 8) ≤ a1_ := of_decide_eq_true cx2_
    refine sm_T_go 3 (c1 := (27, [some (.inr (.inr (some (4, ii_)))), some (.inl a1_), some (.inl a2_), none, none, none], [.inl (S0_.1 4 ii_ 8), .inl a1_], S0_)) rfl ?_
    refine sm_T_bin (w := a1_ - (S0_.1 4 ii_ 8)) rfl (bi_sub (by omega) (by omega) (by omega)) ?_ -- pc_ 27
    refine sm_T_go 3 (c1 := (32, [some (.inr (.inr (some (4, ii_)))), some (.inl a1_), some (.inl a2_), some (.inl (a1_ - (S0_.1 4 ii_ 8))), some (.inl 0), none], [], S0_)) rfl ?_
    refine (vl_80 a1_ a2_ ii_ S0_ h1_ _).1 (a1_ - (S0_.1 4 ii_ 8)) 0 S0_ hI_ hF_ ⟨?_, ?_, trivial⟩ (Nat.lt_succ_self _)
    · omega
    · first | rfl | exact hS_
  · have cx2_ : ¬ ((S0_.1 4 ii_ 8) ≤ a1_) := of_decide_eq_false cx2_
    refine sm_T_go 1 (c1 := (9, [some (.inr (.inr (some (4, ii_)))), some (.inl a1_), some (.inl a2_), none, none, none], [.inl a2_], S0_)) rfl ?_
    refine sm_T_b0 (a := 1) (z := 11) rfl (fun cx3_ => ?_) (fun cx3_ => ?_)
    · have cx3_ : a2_ ≠ 0 := of_decide_eq_true cx3_
      refine sm_T_go 1 (c1 := (21, [some (.inr (.inr (some (4, ii_)))), some (.inl a1_), some (.inl a2_), none, none, none], [.inl (-1)], S0_)) rfl ?_
      refine sm_T_ri rfl ⟨_, _, rfl, (by first | rfl | exact hS_.symm), _, rfl, ?_⟩
      omega
    · have cx3_ : ¬ (a2_ ≠ 0) := of_decide_eq_false cx3_
      refine sm_T_go 2 (c1 := (14, [some (.inr (.inr (some (4, ii_)))), some (.inl a1_), some (.inl a2_), none, none, none], [.inl a1_, .inr (.inr (some (4, ii_)))], S0_)) rfl ?_
      refine sm_T_cal (d1 := 1) (Q1 := vq_81 a1_ ii_ S0_) rfl rfl (by decide) (vc_81 a1_ ii_ S0_ hI_ (by omega)) (fun u_ Sx4_ px7_ => ?_)
      obtain ⟨rfl, vx9_, rfl, px7_⟩ := px7_
      have t9_ := px7_
      refine sm_T_go 1 (c1 := (21, [some (.inr (.inr (some (4, ii_)))), some (.inl a1_), some (.inl a2_), none, none, none], [.inl vx9_], S0_)) rfl ?_
      refine sm_T_ri rfl ⟨_, _, rfl, (by first | rfl | exact hS_.symm), _, rfl, ?_⟩
      omega
end
/-! 99.zl4h -/
section
/-! Layout.joinBoxes -/
def vw_83 : sx_Wl := ([], [51], [])
def vq_83 (ii_ : Nat) (S0_ : sm_S) (u_ : Option sm_V) (S1_ : sm_S) : Prop := u_ = none ∧ gi S1_ ∧ ai_fr (sx_W vw_83) S0_ S1_ ∧ (cdf ii_ S0_ S1_ ∧ (True))
set_option maxHeartbeats 400000 in
theorem vl_83 {sc_ : Nat × (Nat → Int)} (ii_ : Nat) (S0_ : sm_S)  : ∀ nn_ : Nat, (∀ (x1_ : Int) (S_ : sm_S), gi S_ → ai_fr (sx_W vw_83) S0_ S_ → ((0 ≤ x1_ ∧ x1_ ≤ 2000) ∧ (cdf ii_ S0_ S_) ∧ True) → ((30000000 - x1_).toNat) < nn_ → sm_T (mt_P sc_) 1 83 (2, [some (.inr (.inr (some (4, ii_)))), some (.inl x1_), none, none, none, none], [], S_) (fun ro9_ => ∃ u_ S1_, ro9_ = (.inl u_, S1_, 0) ∧ vq_83 ii_ S0_ u_ S1_)) ∧ (∀ (x1_ : Int) (S_ : sm_S), gi S_ → ai_fr (sx_W vw_83) S0_ S_ → ((0 ≤ x1_ ∧ x1_ ≤ 2000) ∧ (cdf ii_ S0_ S_) ∧ True) → ((10000 * (2010 - x1_) + 9000).toNat) < nn_ → sm_T (mt_P sc_) 1 83 (25, [some (.inr (.inr (some (4, ii_)))), some (.inl x1_), none, none, none, none], [], S_) (fun ro9_ => ∃ u_ S1_, ro9_ = (.inl u_, S1_, 0) ∧ vq_83 ii_ S0_ u_ S1_)) ∧ (∀ (x1_ : Int) (x2_ : Int) (x3_ : Int) (S_ : sm_S), gi S_ → ai_fr (sx_W vw_83) S0_ S_ → ((0 ≤ x1_ ∧ x1_ < 2000 ∧ x1_ < x3_ ∧ x3_ ≤ 2000) ∧ (cdf ii_ S0_ S_) ∧ True) → ((10000 * (2010 - x1_) + 8000 - x3_).toNat) < nn_ → sm_T (mt_P sc_) 1 83 (46, [some (.inr (.inr (some (4, ii_)))), some (.inl x1_), some (.inl x2_), some (.inl x3_), none, none], [], S_) (fun ro9_ => ∃ u_ S1_, ro9_ = (.inl u_, S1_, 0) ∧ vq_83 ii_ S0_ u_ S1_)) := by
  intro nn_
  induction nn_ with
  | zero => exact ⟨fun _ _ _ _ _ h_ => absurd h_ (Nat.not_lt_zero _), fun _ _ _ _ _ h_ => absurd h_ (Nat.not_lt_zero _), fun _ _ _ _ _ _ _ h_ => absurd h_ (Nat.not_lt_zero _)⟩
  | succ nn_ ih_ =>
    refine ⟨?_, ?_, ?_⟩
    · rintro x1_ S_ hI_ hF_ ⟨h0_, hC_, -⟩ hm_
      have cn_ : 0 ≤ S_.1 4 ii_ 1 ∧ S_.1 4 ii_ 1 ≤ 2000 := hI_.1 4 ii_ 1 rfl
      have bx1_ : 0 ≤ S_.1 4 ii_ 1 ∧ S_.1 4 ii_ 1 ≤ 2000 := hI_.1 4 ii_ 1 rfl
      refine sm_T_go 3 (c1 := (7, [some (.inr (.inr (some (4, ii_)))), some (.inl x1_), none, none, none, none], [.inl (S_.1 4 ii_ 1), .inl x1_], S_)) rfl ?_
      refine sm_T_br (a := 3) (z := 16) rfl (fun cx2_ => ?_) (fun cx2_ => ?_)
      · have cx2_ : (S_.1 4 ii_ 1) ≤ x1_ := of_decide_eq_true cx2_
        refine sm_T_go 2 (c1 := (25, [some (.inr (.inr (some (4, ii_)))), some (.inl 0), none, none, none, none], [], S_)) rfl ?_
        refine ih_.2.1 0 S_ hI_ hF_ ⟨?_, ?_, trivial⟩ ?_
        · omega
        · exact hC_
        · omega
      · have cx2_ : ¬ ((S_.1 4 ii_ 1) ≤ x1_) := of_decide_eq_false cx2_
        refine sm_T_go 4 (c1 := (16, [some (.inr (.inr (some (4, ii_)))), some (.inl x1_), none, none, none, none], [.inl x1_, .inl x1_, .inr (.inr (some (51, (0 + ii_))))], S_)) rfl ?_
        refine sm_T_iast (n := 2000) rfl rfl (by omega) (by omega) ?_
        have hIx3_ : gi (sm_aI S_ 51 (0 + ii_) x1_.toNat x1_) := gi_aI hI_ (show 0 ≤ x1_ ∧ x1_ ≤ 1999 from ⟨by omega, by omega⟩)
        have hFx4_ : ai_fr (sx_W vw_83) S0_ (sm_aI S_ 51 (0 + ii_) x1_.toNat x1_) := ai_fr_tr hF_ (ai_fr_aI rfl)
        have hCx5_ : cdf ii_ S0_ (sm_aI S_ 51 (0 + ii_) x1_.toNat x1_) := cdf_aI hC_ (Or.inr (by rw [show cof 51 = 0 from rfl] <;> omega))
        refine sm_T_inc (a := 1) (z := 1) (v := x1_) (w := x1_ + 1) rfl rfl (by omega) (by omega) (by omega) ?_ -- pc_ 17
        refine sm_T_go 1 (c1 := (2, [some (.inr (.inr (some (4, ii_)))), some (.inl (x1_ + 1)), none, none, none, none], [], sm_aI S_ 51 (0 + ii_) x1_.toNat x1_)) rfl ?_
        refine ih_.1 (x1_ + 1) (sm_aI S_ 51 (0 + ii_) x1_.toNat x1_) hIx3_ hFx4_ ⟨?_, ?_, trivial⟩ ?_
        · omega
        · exact hCx5_
        · omega
    · rintro x1_ S_ hI_ hF_ ⟨h0_, hC_, -⟩ hm_
      have cn_ : 0 ≤ S_.1 4 ii_ 1 ∧ S_.1 4 ii_ 1 ≤ 2000 := hI_.1 4 ii_ 1 rfl
      have bx1_ : 0 ≤ S_.1 4 ii_ 1 ∧ S_.1 4 ii_ 1 ≤ 2000 := hI_.1 4 ii_ 1 rfl
      refine sm_T_go 3 (c1 := (30, [some (.inr (.inr (some (4, ii_)))), some (.inl x1_), none, none, none, none], [.inl (S_.1 4 ii_ 1), .inl x1_], S_)) rfl ?_
      refine sm_T_br (a := 3) (z := 112) rfl (fun cx2_ => ?_) (fun cx2_ => ?_)
      · have cx2_ : (S_.1 4 ii_ 1) ≤ x1_ := of_decide_eq_true cx2_
        refine sm_T_rv rfl ⟨_, _, rfl, rfl, hI_, hF_, ?_⟩
        refine ⟨hC_, ?_⟩
        trivial
      · have cx2_ : ¬ ((S_.1 4 ii_ 1) ≤ x1_) := of_decide_eq_false cx2_
        refine sm_T_go 4 (c1 := (39, [some (.inr (.inr (some (4, ii_)))), some (.inl x1_), none, none, none, none], [.inl x1_, .inl 5, .inr (.inr (some (48, (0 + ii_))))], S_)) rfl ?_
        refine sm_T_bin (w := 5 * x1_) rfl (bi_mul (by omega) (by omega) (by omega)) ?_ -- pc_ 39
        refine sm_T_iald (n := 10000) rfl rfl (by omega) (by omega) ?_
        have bx3_ : (-1000) ≤ S_.2.2.1 48 (0 + ii_) (5 * x1_).toNat ∧ S_.2.2.1 48 (0 + ii_) (5 * x1_).toNat ≤ 1000 := hI_.2 48 (0 + ii_) _
        refine sm_T_go 3 (c1 := (44, [some (.inr (.inr (some (4, ii_)))), some (.inl x1_), some (.inl (S_.2.2.1 48 (0 + ii_) (5 * x1_).toNat)), none, none, none], [.inl 1, .inl x1_], S_)) rfl ?_
        refine sm_T_bin (w := x1_ + 1) rfl (bi_add (by omega) (by omega) (by omega)) ?_ -- pc_ 44
        refine sm_T_go 1 (c1 := (46, [some (.inr (.inr (some (4, ii_)))), some (.inl x1_), some (.inl (S_.2.2.1 48 (0 + ii_) (5 * x1_).toNat)), some (.inl (x1_ + 1)), none, none], [], S_)) rfl ?_
        refine ih_.2.2 x1_ (S_.2.2.1 48 (0 + ii_) (5 * x1_).toNat) (x1_ + 1) S_ hI_ hF_ ⟨?_, ?_, trivial⟩ ?_
        · omega
        · exact hC_
        · omega
    · rintro x1_ x2_ x3_ S_ hI_ hF_ ⟨h0_, hC_, -⟩ hm_
      have cn_ : 0 ≤ S_.1 4 ii_ 1 ∧ S_.1 4 ii_ 1 ≤ 2000 := hI_.1 4 ii_ 1 rfl
      have bx1_ : 0 ≤ S_.1 4 ii_ 1 ∧ S_.1 4 ii_ 1 ≤ 2000 := hI_.1 4 ii_ 1 rfl
      refine sm_T_go 3 (c1 := (51, [some (.inr (.inr (some (4, ii_)))), some (.inl x1_), some (.inl x2_), some (.inl x3_), none, none], [.inl (S_.1 4 ii_ 1), .inl x3_], S_)) rfl ?_
      refine sm_T_br (a := 3) (z := 85) rfl (fun cx2_ => ?_) (fun cx2_ => ?_)
      · have cx2_ : (S_.1 4 ii_ 1) ≤ x3_ := of_decide_eq_true cx2_
        refine sm_T_inc (a := 1) (z := 1) (v := x1_) (w := x1_ + 1) rfl rfl (by omega) (by omega) (by omega) ?_ -- pc_ 136
        refine sm_T_go 1 (c1 := (25, [some (.inr (.inr (some (4, ii_)))), some (.inl (x1_ + 1)), some (.inl x2_), some (.inl x3_), none, none], [], S_)) rfl ?_
        refine sm_T_wk [some (.inr (.inr (some (4, ii_)))), some (.inl (x1_ + 1)), none, none, none, none] (by exact ⟨rfl, rfl, trivial⟩) ?_
        refine ih_.2.1 (x1_ + 1) S_ hI_ hF_ ⟨?_, ?_, trivial⟩ ?_
        · omega
        · exact hC_
        · omega
      · have cx2_ : ¬ ((S_.1 4 ii_ 1) ≤ x3_) := of_decide_eq_false cx2_
        refine sm_T_go 4 (c1 := (60, [some (.inr (.inr (some (4, ii_)))), some (.inl x1_), some (.inl x2_), some (.inl x3_), none, none], [.inl x3_, .inl 5, .inr (.inr (some (48, (0 + ii_))))], S_)) rfl ?_
        refine sm_T_bin (w := 5 * x3_) rfl (bi_mul (by omega) (by omega) (by omega)) ?_ -- pc_ 60
        refine sm_T_iald (n := 10000) rfl rfl (by omega) (by omega) ?_
        have bx3_ : (-1000) ≤ S_.2.2.1 48 (0 + ii_) (5 * x3_).toNat ∧ S_.2.2.1 48 (0 + ii_) (5 * x3_).toNat ≤ 1000 := hI_.2 48 (0 + ii_) _
        refine sm_T_go 3 (c1 := (67, [some (.inr (.inr (some (4, ii_)))), some (.inl x1_), some (.inl x2_), some (.inl x3_), some (.inl (S_.2.2.1 48 (0 + ii_) (5 * x3_).toNat)), none], [.inl (S_.2.2.1 48 (0 + ii_) (5 * x3_).toNat), .inl x2_], S_)) rfl ?_
        refine sm_T_br (a := 1) (z := 16) rfl (fun cx4_ => ?_) (fun cx4_ => ?_)
        · have cx4_ : x2_ ≠ (S_.2.2.1 48 (0 + ii_) (5 * x3_).toNat) := of_decide_eq_true cx4_
          refine sm_T_go 2 (c1 := (85, [some (.inr (.inr (some (4, ii_)))), some (.inl x1_), some (.inl x2_), some (.inl x3_), some (.inl (S_.2.2.1 48 (0 + ii_) (5 * x3_).toNat)), none], [.inl 2, .inl x2_], S_)) rfl ?_
          refine sm_T_br (a := 0) (z := 9) rfl (fun cx5_ => ?_) (fun cx5_ => ?_)
          · have cx5_ : x2_ = 2 := of_decide_eq_true cx5_
            refine sm_T_go 8 (c1 := (109, [some (.inr (.inr (some (4, ii_)))), some (.inl x1_), some (.inl x2_), some (.inl x3_), some (.inl (S_.2.2.1 48 (0 + ii_) (5 * x3_).toNat)), some (.inl 1)], [.inl x3_, .inl x1_, .inr (.inr (some (4, ii_)))], S_)) rfl ?_
            refine sm_T_cal (d1 := 0) (Q1 := vq_78 x1_ x3_ ii_ S_) rfl rfl (by decide) (vc_78 x1_ x3_ ii_ S_ hI_ (by omega) (by omega)) (fun u_ Sx6_ px9_ => ?_)
            obtain ⟨rfl, vx11_, rfl, px9_⟩ := px9_
            refine sm_T_b0 (a := 0) (z := 18) rfl (fun cx12_ => ?_) (fun cx12_ => ?_)
            · have cx12_ : vx11_ = 0 := of_decide_eq_true cx12_
              refine sm_T_inc (a := 3) (z := 1) (v := x3_) (w := x3_ + 1) rfl rfl (by omega) (by omega) (by omega) ?_ -- pc_ 130
              refine sm_T_go 1 (c1 := (46, [some (.inr (.inr (some (4, ii_)))), some (.inl x1_), some (.inl x2_), some (.inl (x3_ + 1)), some (.inl (S_.2.2.1 48 (0 + ii_) (5 * x3_).toNat)), some (.inl 1)], [], S_)) rfl ?_
              refine sm_T_wk [some (.inr (.inr (some (4, ii_)))), some (.inl x1_), some (.inl x2_), some (.inl (x3_ + 1)), none, none] (by exact ⟨rfl, rfl, rfl, rfl, trivial⟩) ?_
              refine ih_.2.2 x1_ x2_ (x3_ + 1) S_ hI_ hF_ ⟨?_, ?_, trivial⟩ ?_
              · omega
              · exact hC_
              · omega
            · have cx12_ : ¬ (vx11_ = 0) := of_decide_eq_false cx12_
              refine sm_T_go 4 (c1 := (121, [some (.inr (.inr (some (4, ii_)))), some (.inl x1_), some (.inl x2_), some (.inl x3_), some (.inl (S_.2.2.1 48 (0 + ii_) (5 * x3_).toNat)), some (.inl 1)], [.inl x1_, .inr (.inr (some (4, ii_))), .inr (.inr (some (51, (0 + ii_))))], S_)) rfl ?_
              refine sm_T_cal (d1 := 0) (Q1 := vq_84 x1_ ii_ S_) rfl rfl (by decide) (vc_84 x1_ ii_ S_ hI_ (by omega)) (fun u_ Sx13_ px16_ => ?_)
              obtain ⟨vx18_, rfl, hIx14_, hFx15_, px16_⟩ := px16_
              have hFx17_ : ai_fr (sx_W vw_83) S0_ Sx13_ := ai_fr_tr hF_ (fr_le hFx15_ rfl)
              obtain ⟨dx20_, px16_⟩ := px16_
              have hCx19_ : cdf ii_ S0_ Sx13_ := cdf_tr hC_ (cdf_cg (by omega) dx20_)
              have ex21_ : Sx13_.1 4 ii_ 1 = S_.1 4 ii_ 1 := hFx15_.1 4 ii_ 1 rfl
              have t1_ := px16_
              refine sm_T_go 2 (c1 := (126, [some (.inr (.inr (some (4, ii_)))), some (.inl x1_), some (.inl x2_), some (.inl x3_), some (.inl (S_.2.2.1 48 (0 + ii_) (5 * x3_).toNat)), some (.inl 1)], [.inl x3_, .inr (.inr (some (4, ii_))), .inl vx18_, .inr (.inr (some (51, (0 + ii_))))], Sx13_)) rfl ?_
              refine sm_T_cal (d1 := 0) (Q1 := vq_84 x3_ ii_ Sx13_) rfl rfl (by decide) (vc_84 x3_ ii_ Sx13_ hIx14_ (by omega)) (fun u_ Sx22_ px25_ => ?_)
              obtain ⟨vx27_, rfl, hIx23_, hFx24_, px25_⟩ := px25_
              have hFx26_ : ai_fr (sx_W vw_83) S0_ Sx22_ := ai_fr_tr hFx17_ (fr_le hFx24_ rfl)
              obtain ⟨dx29_, px25_⟩ := px25_
              have hCx28_ : cdf ii_ S0_ Sx22_ := cdf_tr hCx19_ (cdf_cg (by omega) dx29_)
              have t2_ := px25_
              refine sm_T_iast (n := 2000) rfl rfl (by omega) (by omega) ?_
              have hIx30_ : gi (sm_aI Sx22_ 51 (0 + ii_) vx18_.toNat vx27_) := gi_aI hIx23_ (show 0 ≤ vx27_ ∧ vx27_ ≤ 1999 from ⟨by omega, by omega⟩)
              have hFx31_ : ai_fr (sx_W vw_83) S0_ (sm_aI Sx22_ 51 (0 + ii_) vx18_.toNat vx27_) := ai_fr_tr hFx26_ (ai_fr_aI rfl)
              have hCx32_ : cdf ii_ S0_ (sm_aI Sx22_ 51 (0 + ii_) vx18_.toNat vx27_) := cdf_aI hCx28_ (Or.inr (by rw [show cof 51 = 0 from rfl] <;> omega))
              refine sm_T_inc (a := 3) (z := 1) (v := x3_) (w := x3_ + 1) rfl rfl (by omega) (by omega) (by omega) ?_ -- pc_ 130
              refine sm_T_go 1 (c1 := (46, [some (.inr (.inr (some (4, ii_)))), some (.inl x1_), some (.inl x2_), some (.inl (x3_ + 1)), some (.inl (S_.2.2.1 48 (0 + ii_) (5 * x3_).toNat)), some (.inl 1)], [], sm_aI Sx22_ 51 (0 + ii_) vx18_.toNat vx27_)) rfl ?_
              refine sm_T_wk [some (.inr (.inr (some (4, ii_)))), some (.inl x1_), some (.inl x2_), some (.inl (x3_ + 1)), none, none] (by exact ⟨rfl, rfl, rfl, rfl, trivial⟩) ?_
              refine ih_.2.2 x1_ x2_ (x3_ + 1) (sm_aI Sx22_ 51 (0 + ii_) vx18_.toNat vx27_) hIx30_ hFx31_ ⟨?_, ?_, trivial⟩ ?_
              · omega
              · exact hCx32_
              · omega
          · have cx5_ : ¬ (x2_ = 2) := of_decide_eq_false cx5_
            refine sm_T_go 2 (c1 := (91, [some (.inr (.inr (some (4, ii_)))), some (.inl x1_), some (.inl x2_), some (.inl x3_), some (.inl (S_.2.2.1 48 (0 + ii_) (5 * x3_).toNat)), none], [.inl 2, .inl (S_.2.2.1 48 (0 + ii_) (5 * x3_).toNat)], S_)) rfl ?_
            refine sm_T_br (a := 1) (z := 7) rfl (fun cx33_ => ?_) (fun cx33_ => ?_)
            · have cx33_ : (S_.2.2.1 48 (0 + ii_) (5 * x3_).toNat) ≠ 2 := of_decide_eq_true cx33_
              refine sm_T_go 4 (c1 := (130, [some (.inr (.inr (some (4, ii_)))), some (.inl x1_), some (.inl x2_), some (.inl x3_), some (.inl (S_.2.2.1 48 (0 + ii_) (5 * x3_).toNat)), some (.inl 0)], [], S_)) rfl ?_
              refine sm_T_inc (a := 3) (z := 1) (v := x3_) (w := x3_ + 1) rfl rfl (by omega) (by omega) (by omega) ?_ -- pc_ 130
              refine sm_T_go 1 (c1 := (46, [some (.inr (.inr (some (4, ii_)))), some (.inl x1_), some (.inl x2_), some (.inl (x3_ + 1)), some (.inl (S_.2.2.1 48 (0 + ii_) (5 * x3_).toNat)), some (.inl 0)], [], S_)) rfl ?_
              refine sm_T_wk [some (.inr (.inr (some (4, ii_)))), some (.inl x1_), some (.inl x2_), some (.inl (x3_ + 1)), none, none] (by exact ⟨rfl, rfl, rfl, rfl, trivial⟩) ?_
              refine ih_.2.2 x1_ x2_ (x3_ + 1) S_ hI_ hF_ ⟨?_, ?_, trivial⟩ ?_
              · omega
              · exact hC_
              · omega
            · have cx33_ : ¬ ((S_.2.2.1 48 (0 + ii_) (5 * x3_).toNat) ≠ 2) := of_decide_eq_false cx33_
              refine sm_T_go 8 (c1 := (109, [some (.inr (.inr (some (4, ii_)))), some (.inl x1_), some (.inl x2_), some (.inl x3_), some (.inl (S_.2.2.1 48 (0 + ii_) (5 * x3_).toNat)), some (.inl 1)], [.inl x3_, .inl x1_, .inr (.inr (some (4, ii_)))], S_)) rfl ?_
              refine sm_T_cal (d1 := 0) (Q1 := vq_78 x1_ x3_ ii_ S_) rfl rfl (by decide) (vc_78 x1_ x3_ ii_ S_ hI_ (by omega) (by omega)) (fun u_ Sx34_ px37_ => ?_)
              obtain ⟨rfl, vx39_, rfl, px37_⟩ := px37_
              refine sm_T_b0 (a := 0) (z := 18) rfl (fun cx40_ => ?_) (fun cx40_ => ?_)
              · have cx40_ : vx39_ = 0 := of_decide_eq_true cx40_
                refine sm_T_inc (a := 3) (z := 1) (v := x3_) (w := x3_ + 1) rfl rfl (by omega) (by omega) (by omega) ?_ -- pc_ 130
                refine sm_T_go 1 (c1 := (46, [some (.inr (.inr (some (4, ii_)))), some (.inl x1_), some (.inl x2_), some (.inl (x3_ + 1)), some (.inl (S_.2.2.1 48 (0 + ii_) (5 * x3_).toNat)), some (.inl 1)], [], S_)) rfl ?_
                refine sm_T_wk [some (.inr (.inr (some (4, ii_)))), some (.inl x1_), some (.inl x2_), some (.inl (x3_ + 1)), none, none] (by exact ⟨rfl, rfl, rfl, rfl, trivial⟩) ?_
                refine ih_.2.2 x1_ x2_ (x3_ + 1) S_ hI_ hF_ ⟨?_, ?_, trivial⟩ ?_
                · omega
                · exact hC_
                · omega
              · have cx40_ : ¬ (vx39_ = 0) := of_decide_eq_false cx40_
                refine sm_T_go 4 (c1 := (121, [some (.inr (.inr (some (4, ii_)))), some (.inl x1_), some (.inl x2_), some (.inl x3_), some (.inl (S_.2.2.1 48 (0 + ii_) (5 * x3_).toNat)), some (.inl 1)], [.inl x1_, .inr (.inr (some (4, ii_))), .inr (.inr (some (51, (0 + ii_))))], S_)) rfl ?_
                refine sm_T_cal (d1 := 0) (Q1 := vq_84 x1_ ii_ S_) rfl rfl (by decide) (vc_84 x1_ ii_ S_ hI_ (by omega)) (fun u_ Sx41_ px44_ => ?_)
                obtain ⟨vx46_, rfl, hIx42_, hFx43_, px44_⟩ := px44_
                have hFx45_ : ai_fr (sx_W vw_83) S0_ Sx41_ := ai_fr_tr hF_ (fr_le hFx43_ rfl)
                obtain ⟨dx48_, px44_⟩ := px44_
                have hCx47_ : cdf ii_ S0_ Sx41_ := cdf_tr hC_ (cdf_cg (by omega) dx48_)
                have ex49_ : Sx41_.1 4 ii_ 1 = S_.1 4 ii_ 1 := hFx43_.1 4 ii_ 1 rfl
                have t1_ := px44_
                refine sm_T_go 2 (c1 := (126, [some (.inr (.inr (some (4, ii_)))), some (.inl x1_), some (.inl x2_), some (.inl x3_), some (.inl (S_.2.2.1 48 (0 + ii_) (5 * x3_).toNat)), some (.inl 1)], [.inl x3_, .inr (.inr (some (4, ii_))), .inl vx46_, .inr (.inr (some (51, (0 + ii_))))], Sx41_)) rfl ?_
                refine sm_T_cal (d1 := 0) (Q1 := vq_84 x3_ ii_ Sx41_) rfl rfl (by decide) (vc_84 x3_ ii_ Sx41_ hIx42_ (by omega)) (fun u_ Sx50_ px53_ => ?_)
                obtain ⟨vx55_, rfl, hIx51_, hFx52_, px53_⟩ := px53_
                have hFx54_ : ai_fr (sx_W vw_83) S0_ Sx50_ := ai_fr_tr hFx45_ (fr_le hFx52_ rfl)
                obtain ⟨dx57_, px53_⟩ := px53_
                have hCx56_ : cdf ii_ S0_ Sx50_ := cdf_tr hCx47_ (cdf_cg (by omega) dx57_)
                have t2_ := px53_
                refine sm_T_iast (n := 2000) rfl rfl (by omega) (by omega) ?_
                have hIx58_ : gi (sm_aI Sx50_ 51 (0 + ii_) vx46_.toNat vx55_) := gi_aI hIx51_ (show 0 ≤ vx55_ ∧ vx55_ ≤ 1999 from ⟨by omega, by omega⟩)
                have hFx59_ : ai_fr (sx_W vw_83) S0_ (sm_aI Sx50_ 51 (0 + ii_) vx46_.toNat vx55_) := ai_fr_tr hFx54_ (ai_fr_aI rfl)
                have hCx60_ : cdf ii_ S0_ (sm_aI Sx50_ 51 (0 + ii_) vx46_.toNat vx55_) := cdf_aI hCx56_ (Or.inr (by rw [show cof 51 = 0 from rfl] <;> omega))
                refine sm_T_inc (a := 3) (z := 1) (v := x3_) (w := x3_ + 1) rfl rfl (by omega) (by omega) (by omega) ?_ -- pc_ 130
                refine sm_T_go 1 (c1 := (46, [some (.inr (.inr (some (4, ii_)))), some (.inl x1_), some (.inl x2_), some (.inl (x3_ + 1)), some (.inl (S_.2.2.1 48 (0 + ii_) (5 * x3_).toNat)), some (.inl 1)], [], sm_aI Sx50_ 51 (0 + ii_) vx46_.toNat vx55_)) rfl ?_
                refine sm_T_wk [some (.inr (.inr (some (4, ii_)))), some (.inl x1_), some (.inl x2_), some (.inl (x3_ + 1)), none, none] (by exact ⟨rfl, rfl, rfl, rfl, trivial⟩) ?_
                refine ih_.2.2 x1_ x2_ (x3_ + 1) (sm_aI Sx50_ 51 (0 + ii_) vx46_.toNat vx55_) hIx58_ hFx59_ ⟨?_, ?_, trivial⟩ ?_
                · omega
                · exact hCx60_
                · omega
        · have cx4_ : ¬ (x2_ ≠ (S_.2.2.1 48 (0 + ii_) (5 * x3_).toNat)) := of_decide_eq_false cx4_
          refine sm_T_go 2 (c1 := (72, [some (.inr (.inr (some (4, ii_)))), some (.inl x1_), some (.inl x2_), some (.inl x3_), some (.inl (S_.2.2.1 48 (0 + ii_) (5 * x3_).toNat)), none], [.inl 2, .inl x2_], S_)) rfl ?_
          refine sm_T_br (a := 3) (z := 7) rfl (fun cx61_ => ?_) (fun cx61_ => ?_)
          · have cx61_ : 2 ≤ x2_ := of_decide_eq_true cx61_
            refine sm_T_go 5 (c1 := (130, [some (.inr (.inr (some (4, ii_)))), some (.inl x1_), some (.inl x2_), some (.inl x3_), some (.inl (S_.2.2.1 48 (0 + ii_) (5 * x3_).toNat)), some (.inl 0)], [], S_)) rfl ?_
            refine sm_T_inc (a := 3) (z := 1) (v := x3_) (w := x3_ + 1) rfl rfl (by omega) (by omega) (by omega) ?_ -- pc_ 130
            refine sm_T_go 1 (c1 := (46, [some (.inr (.inr (some (4, ii_)))), some (.inl x1_), some (.inl x2_), some (.inl (x3_ + 1)), some (.inl (S_.2.2.1 48 (0 + ii_) (5 * x3_).toNat)), some (.inl 0)], [], S_)) rfl ?_
            refine sm_T_wk [some (.inr (.inr (some (4, ii_)))), some (.inl x1_), some (.inl x2_), some (.inl (x3_ + 1)), none, none] (by exact ⟨rfl, rfl, rfl, rfl, trivial⟩) ?_
            refine ih_.2.2 x1_ x2_ (x3_ + 1) S_ hI_ hF_ ⟨?_, ?_, trivial⟩ ?_
            · omega
            · exact hC_
            · omega
          · have cx61_ : ¬ (2 ≤ x2_) := of_decide_eq_false cx61_
            refine sm_T_go 8 (c1 := (109, [some (.inr (.inr (some (4, ii_)))), some (.inl x1_), some (.inl x2_), some (.inl x3_), some (.inl (S_.2.2.1 48 (0 + ii_) (5 * x3_).toNat)), some (.inl 1)], [.inl x3_, .inl x1_, .inr (.inr (some (4, ii_)))], S_)) rfl ?_
            refine sm_T_cal (d1 := 0) (Q1 := vq_78 x1_ x3_ ii_ S_) rfl rfl (by decide) (vc_78 x1_ x3_ ii_ S_ hI_ (by omega) (by omega)) (fun u_ Sx62_ px65_ => ?_)
            obtain ⟨rfl, vx67_, rfl, px65_⟩ := px65_
            refine sm_T_b0 (a := 0) (z := 18) rfl (fun cx68_ => ?_) (fun cx68_ => ?_)
            · have cx68_ : vx67_ = 0 := of_decide_eq_true cx68_
              refine sm_T_inc (a := 3) (z := 1) (v := x3_) (w := x3_ + 1) rfl rfl (by omega) (by omega) (by omega) ?_ -- pc_ 130
              refine sm_T_go 1 (c1 := (46, [some (.inr (.inr (some (4, ii_)))), some (.inl x1_), some (.inl x2_), some (.inl (x3_ + 1)), some (.inl (S_.2.2.1 48 (0 + ii_) (5 * x3_).toNat)), some (.inl 1)], [], S_)) rfl ?_
              refine sm_T_wk [some (.inr (.inr (some (4, ii_)))), some (.inl x1_), some (.inl x2_), some (.inl (x3_ + 1)), none, none] (by exact ⟨rfl, rfl, rfl, rfl, trivial⟩) ?_
              refine ih_.2.2 x1_ x2_ (x3_ + 1) S_ hI_ hF_ ⟨?_, ?_, trivial⟩ ?_
              · omega
              · exact hC_
              · omega
            · have cx68_ : ¬ (vx67_ = 0) := of_decide_eq_false cx68_
              refine sm_T_go 4 (c1 := (121, [some (.inr (.inr (some (4, ii_)))), some (.inl x1_), some (.inl x2_), some (.inl x3_), some (.inl (S_.2.2.1 48 (0 + ii_) (5 * x3_).toNat)), some (.inl 1)], [.inl x1_, .inr (.inr (some (4, ii_))), .inr (.inr (some (51, (0 + ii_))))], S_)) rfl ?_
              refine sm_T_cal (d1 := 0) (Q1 := vq_84 x1_ ii_ S_) rfl rfl (by decide) (vc_84 x1_ ii_ S_ hI_ (by omega)) (fun u_ Sx69_ px72_ => ?_)
              obtain ⟨vx74_, rfl, hIx70_, hFx71_, px72_⟩ := px72_
              have hFx73_ : ai_fr (sx_W vw_83) S0_ Sx69_ := ai_fr_tr hF_ (fr_le hFx71_ rfl)
              obtain ⟨dx76_, px72_⟩ := px72_
              have hCx75_ : cdf ii_ S0_ Sx69_ := cdf_tr hC_ (cdf_cg (by omega) dx76_)
              have ex77_ : Sx69_.1 4 ii_ 1 = S_.1 4 ii_ 1 := hFx71_.1 4 ii_ 1 rfl
              have t1_ := px72_
              refine sm_T_go 2 (c1 := (126, [some (.inr (.inr (some (4, ii_)))), some (.inl x1_), some (.inl x2_), some (.inl x3_), some (.inl (S_.2.2.1 48 (0 + ii_) (5 * x3_).toNat)), some (.inl 1)], [.inl x3_, .inr (.inr (some (4, ii_))), .inl vx74_, .inr (.inr (some (51, (0 + ii_))))], Sx69_)) rfl ?_
              refine sm_T_cal (d1 := 0) (Q1 := vq_84 x3_ ii_ Sx69_) rfl rfl (by decide) (vc_84 x3_ ii_ Sx69_ hIx70_ (by omega)) (fun u_ Sx78_ px81_ => ?_)
              obtain ⟨vx83_, rfl, hIx79_, hFx80_, px81_⟩ := px81_
              have hFx82_ : ai_fr (sx_W vw_83) S0_ Sx78_ := ai_fr_tr hFx73_ (fr_le hFx80_ rfl)
              obtain ⟨dx85_, px81_⟩ := px81_
              have hCx84_ : cdf ii_ S0_ Sx78_ := cdf_tr hCx75_ (cdf_cg (by omega) dx85_)
              have t2_ := px81_
              refine sm_T_iast (n := 2000) rfl rfl (by omega) (by omega) ?_
              have hIx86_ : gi (sm_aI Sx78_ 51 (0 + ii_) vx74_.toNat vx83_) := gi_aI hIx79_ (show 0 ≤ vx83_ ∧ vx83_ ≤ 1999 from ⟨by omega, by omega⟩)
              have hFx87_ : ai_fr (sx_W vw_83) S0_ (sm_aI Sx78_ 51 (0 + ii_) vx74_.toNat vx83_) := ai_fr_tr hFx82_ (ai_fr_aI rfl)
              have hCx88_ : cdf ii_ S0_ (sm_aI Sx78_ 51 (0 + ii_) vx74_.toNat vx83_) := cdf_aI hCx84_ (Or.inr (by rw [show cof 51 = 0 from rfl] <;> omega))
              refine sm_T_inc (a := 3) (z := 1) (v := x3_) (w := x3_ + 1) rfl rfl (by omega) (by omega) (by omega) ?_ -- pc_ 130
              refine sm_T_go 1 (c1 := (46, [some (.inr (.inr (some (4, ii_)))), some (.inl x1_), some (.inl x2_), some (.inl (x3_ + 1)), some (.inl (S_.2.2.1 48 (0 + ii_) (5 * x3_).toNat)), some (.inl 1)], [], sm_aI Sx78_ 51 (0 + ii_) vx74_.toNat vx83_)) rfl ?_
              refine sm_T_wk [some (.inr (.inr (some (4, ii_)))), some (.inl x1_), some (.inl x2_), some (.inl (x3_ + 1)), none, none] (by exact ⟨rfl, rfl, rfl, rfl, trivial⟩) ?_
              refine ih_.2.2 x1_ x2_ (x3_ + 1) (sm_aI Sx78_ 51 (0 + ii_) vx74_.toNat vx83_) hIx86_ hFx87_ ⟨?_, ?_, trivial⟩ ?_
              · omega
              · exact hCx88_
              · omega
set_option maxHeartbeats 400000 in
theorem vc_83 {sc_ : Nat × (Nat → Int)} (ii_ : Nat) (S0_ : sm_S) (hI_ : gi S0_)  : sm_T (mt_P sc_) 1 83 (0, [some (.inr (.inr (some (4, ii_)))), none, none, none, none, none], [], S0_) (fun ro9_ => ∃ u_ S1_, ro9_ = (.inl u_, S1_, 0) ∧ vq_83 ii_ S0_ u_ S1_) := by
  have hF_ : ai_fr (sx_W vw_83) S0_ S0_ := ai_fr_rf
  have hC_ : cdf ii_ S0_ S0_ := cdf_rf
  refine sm_T_go 2 (c1 := (2, [some (.inr (.inr (some (4, ii_)))), some (.inl 0), none, none, none, none], [], S0_)) rfl ?_
  refine (vl_83 ii_ S0_ _).1 0 S0_ hI_ hF_ ⟨?_, ?_, trivial⟩ (Nat.lt_succ_self _)
  · omega
  · exact hC_
end
/-! 99.zl4i -/
section
/-! Layout.judge -/
def vw_79 : sx_Wl := ([(4, 3), (4, 8), (4, 9)], [50], [])
def vq_79 (ii_ : Nat) (S0_ : sm_S) (u_ : Option sm_V) (S1_ : sm_S) : Prop := u_ = none ∧ gi S1_ ∧ ai_fr (sx_W vw_79) S0_ S1_ ∧ (cdf ii_ S0_ S1_ ∧ (True))
set_option maxHeartbeats 400000 in
theorem vl_79 {sc_ : Nat × (Nat → Int)} (ii_ : Nat) (S0_ : sm_S)  : ∀ nn_ : Nat, (∀ (a_ : Int) (S_ : sm_S), gi S_ → ai_fr (sx_W vw_79) S0_ S_ → ((0 ≤ a_ ∧ a_ ≤ 2000 ∧ 0 ≤ S_.1 4 ii_ 8 ∧ S_.1 4 ii_ 8 ≤ a_ ∧ 0 ≤ S_.1 4 ii_ 3 ∧ S_.1 4 ii_ 3 ≤ 2000 * a_) ∧ (cdf ii_ S0_ S_) ∧ True) → ((10000 * (2010 - a_) + 9000).toNat) < nn_ → sm_T (mt_P sc_) 1 79 (25, [some (.inr (.inr (some (4, ii_)))), some (.inl a_), none], [], S_) (fun ro9_ => ∃ u_ S1_, ro9_ = (.inl u_, S1_, 0) ∧ vq_79 ii_ S0_ u_ S1_)) ∧ (∀ (a_ : Int) (b_ : Int) (S_ : sm_S), gi S_ → ai_fr (sx_W vw_79) S0_ S_ → ((0 ≤ a_ ∧ a_ < 2000 ∧ a_ < b_ ∧ b_ ≤ 2000 ∧ 0 ≤ S_.1 4 ii_ 8 ∧ S_.1 4 ii_ 8 ≤ a_ + 1 ∧ 0 ≤ S_.1 4 ii_ 3 ∧ S_.1 4 ii_ 3 ≤ 2000 * a_) ∧ (0 ≤ S_.2.2.1 50 (0 + ii_) a_.toNat ∧ S_.2.2.1 50 (0 + ii_) a_.toNat ≤ b_) ∧ (cdf ii_ S0_ S_) ∧ True) → ((10000 * (2010 - a_) + 8000 - b_).toNat) < nn_ → sm_T (mt_P sc_) 1 79 (66, [some (.inr (.inr (some (4, ii_)))), some (.inl a_), some (.inl b_)], [], S_) (fun ro9_ => ∃ u_ S1_, ro9_ = (.inl u_, S1_, 0) ∧ vq_79 ii_ S0_ u_ S1_)) := by
  intro nn_
  induction nn_ with
  | zero => exact ⟨fun _ _ _ _ _ h_ => absurd h_ (Nat.not_lt_zero _), fun _ _ _ _ _ _ h_ => absurd h_ (Nat.not_lt_zero _)⟩
  | succ nn_ ih_ =>
    refine ⟨?_, ?_⟩
    · rintro a_ S_ hI_ hF_ ⟨h0_, hC_, -⟩ hm_
      have cn_ : 0 ≤ S_.1 4 ii_ 1 ∧ S_.1 4 ii_ 1 ≤ 2000 := hI_.1 4 ii_ 1 rfl
      have bx1_ : 0 ≤ S_.1 4 ii_ 1 ∧ S_.1 4 ii_ 1 ≤ 2000 := hI_.1 4 ii_ 1 rfl
      refine sm_T_go 3 (c1 := (30, [some (.inr (.inr (some (4, ii_)))), some (.inl a_), none], [.inl (S_.1 4 ii_ 1), .inl a_], S_)) rfl ?_
      refine sm_T_br (a := 3) (z := 90) rfl (fun cx2_ => ?_) (fun cx2_ => ?_)
      · have cx2_ : (S_.1 4 ii_ 1) ≤ a_ := of_decide_eq_true cx2_
        have bx3_ : 0 ≤ S_.1 4 ii_ 3 ∧ S_.1 4 ii_ 3 ≤ 1073741823 := hI_.1 4 ii_ 3 rfl
        have bx4_ : 0 ≤ S_.1 4 ii_ 8 ∧ S_.1 4 ii_ 8 ≤ 2000 := hI_.1 4 ii_ 8 rfl
        refine sm_T_go 5 (c1 := (129, [some (.inr (.inr (some (4, ii_)))), some (.inl a_), none], [.inl (S_.1 4 ii_ 8), .inl (S_.1 4 ii_ 3), .inr (.inr (some (4, ii_)))], S_)) rfl ?_
        refine sm_T_bin (w := (S_.1 4 ii_ 3) + (S_.1 4 ii_ 8)) rfl (bi_add (by omega) (by omega) (by omega)) ?_ -- pc_ 129
        have hIx5_ : gi (sm_pI S_ 4 ii_ 3 ((S_.1 4 ii_ 3) + (S_.1 4 ii_ 8))) := gi_pI hI_ (show 0 ≤ (S_.1 4 ii_ 3) + (S_.1 4 ii_ 8) ∧ (S_.1 4 ii_ 3) + (S_.1 4 ii_ 8) ≤ 1073741823 from ⟨by omega, by omega⟩)
        have hFx6_ : ai_fr (sx_W vw_79) S0_ (sm_pI S_ 4 ii_ 3 ((S_.1 4 ii_ 3) + (S_.1 4 ii_ 8))) := ai_fr_tr hF_ (ai_fr_pI rfl)
        have hCx7_ : cdf ii_ S0_ (sm_pI S_ 4 ii_ 3 ((S_.1 4 ii_ 3) + (S_.1 4 ii_ 8))) := cdf_pI hC_ (Or.inr (by rw [show cof 4 = 0 from rfl] <;> omega))
        refine sm_T_go 1 (c1 := (133, [some (.inr (.inr (some (4, ii_)))), some (.inl a_), none], [], sm_pI S_ 4 ii_ 3 ((S_.1 4 ii_ 3) + (S_.1 4 ii_ 8)))) rfl ?_
        refine sm_T_rv rfl ⟨_, _, rfl, rfl, hIx5_, hFx6_, ?_⟩
        refine ⟨hCx7_, ?_⟩
        trivial
      · have cx2_ : ¬ ((S_.1 4 ii_ 1) ≤ a_) := of_decide_eq_false cx2_
        have bx8_ : 0 ≤ S_.1 4 ii_ 8 ∧ S_.1 4 ii_ 8 ≤ 2000 := hI_.1 4 ii_ 8 rfl
        refine sm_T_go 5 (c1 := (40, [some (.inr (.inr (some (4, ii_)))), some (.inl a_), none], [.inl a_, .inr (.inr (some (4, ii_))), .inl (S_.1 4 ii_ 8), .inr (.inr (some (4, ii_)))], S_)) rfl ?_
        refine sm_T_cal (d1 := 0) (Q1 := vq_76 a_ ii_ S_) rfl rfl (by decide) (vc_76 a_ ii_ S_ hI_ (by omega)) (fun u_ Sx9_ px12_ => ?_)
        obtain ⟨rfl, vx14_, rfl, px12_⟩ := px12_
        have t1_ := px12_
        refine sm_T_b0 (a := 0) (z := 7) rfl (fun cx15_ => ?_) (fun cx15_ => ?_)
        · have cx15_ : vx14_ = 0 := of_decide_eq_true cx15_
          refine sm_T_go 1 (c1 := (51, [some (.inr (.inr (some (4, ii_)))), some (.inl a_), none], [.inl 0, .inl (S_.1 4 ii_ 8), .inr (.inr (some (4, ii_)))], S_)) rfl ?_
          refine sm_T_bin (w := (S_.1 4 ii_ 8)) rfl (bi_add (by omega) (by omega) (by omega)) ?_ -- pc_ 51
          have hIx16_ : gi (sm_pI S_ 4 ii_ 8 (S_.1 4 ii_ 8)) := gi_pI hI_ (show 0 ≤ (S_.1 4 ii_ 8) ∧ (S_.1 4 ii_ 8) ≤ 2000 from ⟨by omega, by omega⟩)
          have hFx17_ : ai_fr (sx_W vw_79) S0_ (sm_pI S_ 4 ii_ 8 (S_.1 4 ii_ 8)) := ai_fr_tr hF_ (ai_fr_pI rfl)
          have hCx18_ : cdf ii_ S0_ (sm_pI S_ 4 ii_ 8 (S_.1 4 ii_ 8)) := cdf_pI hC_ (Or.inr (by rw [show cof 4 = 0 from rfl] <;> omega))
          refine sm_T_go 5 (c1 := (61, [some (.inr (.inr (some (4, ii_)))), some (.inl a_), none], [.inl 0, .inl a_, .inr (.inr (some (50, (0 + ii_))))], sm_pI S_ 4 ii_ 8 (S_.1 4 ii_ 8))) rfl ?_
          refine sm_T_iast (n := 2000) rfl rfl (by omega) (by omega) ?_
          have hIx19_ : gi (sm_aI (sm_pI S_ 4 ii_ 8 (S_.1 4 ii_ 8)) 50 (0 + ii_) a_.toNat 0) := gi_aI hIx16_ (show (-2147483648) ≤ 0 ∧ 0 ≤ 2147483647 from ⟨by omega, by omega⟩)
          have hFx20_ : ai_fr (sx_W vw_79) S0_ (sm_aI (sm_pI S_ 4 ii_ 8 (S_.1 4 ii_ 8)) 50 (0 + ii_) a_.toNat 0) := ai_fr_tr hFx17_ (ai_fr_aI rfl)
          have hCx21_ : cdf ii_ S0_ (sm_aI (sm_pI S_ 4 ii_ 8 (S_.1 4 ii_ 8)) 50 (0 + ii_) a_.toNat 0) := cdf_aI hCx18_ (Or.inr (by rw [show cof 50 = 0 from rfl] <;> omega))
          refine sm_T_go 2 (c1 := (64, [some (.inr (.inr (some (4, ii_)))), some (.inl a_), none], [.inl 1, .inl a_], sm_aI (sm_pI S_ 4 ii_ 8 (S_.1 4 ii_ 8)) 50 (0 + ii_) a_.toNat 0)) rfl ?_
          refine sm_T_bin (w := a_ + 1) rfl (bi_add (by omega) (by omega) (by omega)) ?_ -- pc_ 64
          refine sm_T_go 1 (c1 := (66, [some (.inr (.inr (some (4, ii_)))), some (.inl a_), some (.inl (a_ + 1))], [], sm_aI (sm_pI S_ 4 ii_ 8 (S_.1 4 ii_ 8)) 50 (0 + ii_) a_.toNat 0)) rfl ?_
          refine ih_.2 a_ (a_ + 1) (sm_aI (sm_pI S_ 4 ii_ 8 (S_.1 4 ii_ 8)) 50 (0 + ii_) a_.toNat 0) hIx19_ hFx20_ ⟨?_, ?_, ?_, trivial⟩ ?_
          · ((try simp only [rd_lf, rd_fl, rf_eq, rf_nk, rf_nt, rd_fa, rd_af, ne_eq, Nat.reduceEqDiff, not_false_eq_true]); omega)
          · (rw [rd_eq, if_pos rfl]; omega)
          · exact hCx21_
          · omega
        · have cx15_ : ¬ (vx14_ = 0) := of_decide_eq_false cx15_
          refine sm_T_go 2 (c1 := (51, [some (.inr (.inr (some (4, ii_)))), some (.inl a_), none], [.inl 1, .inl (S_.1 4 ii_ 8), .inr (.inr (some (4, ii_)))], S_)) rfl ?_
          refine sm_T_bin (w := (S_.1 4 ii_ 8) + 1) rfl (bi_add (by omega) (by omega) (by omega)) ?_ -- pc_ 51
          have hIx22_ : gi (sm_pI S_ 4 ii_ 8 ((S_.1 4 ii_ 8) + 1)) := gi_pI hI_ (show 0 ≤ (S_.1 4 ii_ 8) + 1 ∧ (S_.1 4 ii_ 8) + 1 ≤ 2000 from ⟨by omega, by omega⟩)
          have hFx23_ : ai_fr (sx_W vw_79) S0_ (sm_pI S_ 4 ii_ 8 ((S_.1 4 ii_ 8) + 1)) := ai_fr_tr hF_ (ai_fr_pI rfl)
          have hCx24_ : cdf ii_ S0_ (sm_pI S_ 4 ii_ 8 ((S_.1 4 ii_ 8) + 1)) := cdf_pI hC_ (Or.inr (by rw [show cof 4 = 0 from rfl] <;> omega))
          refine sm_T_go 5 (c1 := (61, [some (.inr (.inr (some (4, ii_)))), some (.inl a_), none], [.inl 0, .inl a_, .inr (.inr (some (50, (0 + ii_))))], sm_pI S_ 4 ii_ 8 ((S_.1 4 ii_ 8) + 1))) rfl ?_
          refine sm_T_iast (n := 2000) rfl rfl (by omega) (by omega) ?_
          have hIx25_ : gi (sm_aI (sm_pI S_ 4 ii_ 8 ((S_.1 4 ii_ 8) + 1)) 50 (0 + ii_) a_.toNat 0) := gi_aI hIx22_ (show (-2147483648) ≤ 0 ∧ 0 ≤ 2147483647 from ⟨by omega, by omega⟩)
          have hFx26_ : ai_fr (sx_W vw_79) S0_ (sm_aI (sm_pI S_ 4 ii_ 8 ((S_.1 4 ii_ 8) + 1)) 50 (0 + ii_) a_.toNat 0) := ai_fr_tr hFx23_ (ai_fr_aI rfl)
          have hCx27_ : cdf ii_ S0_ (sm_aI (sm_pI S_ 4 ii_ 8 ((S_.1 4 ii_ 8) + 1)) 50 (0 + ii_) a_.toNat 0) := cdf_aI hCx24_ (Or.inr (by rw [show cof 50 = 0 from rfl] <;> omega))
          refine sm_T_go 2 (c1 := (64, [some (.inr (.inr (some (4, ii_)))), some (.inl a_), none], [.inl 1, .inl a_], sm_aI (sm_pI S_ 4 ii_ 8 ((S_.1 4 ii_ 8) + 1)) 50 (0 + ii_) a_.toNat 0)) rfl ?_
          refine sm_T_bin (w := a_ + 1) rfl (bi_add (by omega) (by omega) (by omega)) ?_ -- pc_ 64
          refine sm_T_go 1 (c1 := (66, [some (.inr (.inr (some (4, ii_)))), some (.inl a_), some (.inl (a_ + 1))], [], sm_aI (sm_pI S_ 4 ii_ 8 ((S_.1 4 ii_ 8) + 1)) 50 (0 + ii_) a_.toNat 0)) rfl ?_
          refine ih_.2 a_ (a_ + 1) (sm_aI (sm_pI S_ 4 ii_ 8 ((S_.1 4 ii_ 8) + 1)) 50 (0 + ii_) a_.toNat 0) hIx25_ hFx26_ ⟨?_, ?_, ?_, trivial⟩ ?_
          · ((try simp only [rd_lf, rd_fl, rf_eq, rf_nk, rf_nt, rd_fa, rd_af, ne_eq, Nat.reduceEqDiff, not_false_eq_true]); omega)
          · (rw [rd_eq, if_pos rfl]; omega)
          · exact hCx27_
          · omega
    · rintro a_ b_ S_ hI_ hF_ ⟨h0_, hn_, hC_, -⟩ hm_
      have cn_ : 0 ≤ S_.1 4 ii_ 1 ∧ S_.1 4 ii_ 1 ≤ 2000 := hI_.1 4 ii_ 1 rfl
      have bx1_ : 0 ≤ S_.1 4 ii_ 1 ∧ S_.1 4 ii_ 1 ≤ 2000 := hI_.1 4 ii_ 1 rfl
      refine sm_T_go 3 (c1 := (71, [some (.inr (.inr (some (4, ii_)))), some (.inl a_), some (.inl b_)], [.inl (S_.1 4 ii_ 1), .inl b_], S_)) rfl ?_
      refine sm_T_br (a := 3) (z := 28) rfl (fun cx2_ => ?_) (fun cx2_ => ?_)
      · have cx2_ : (S_.1 4 ii_ 1) ≤ b_ := of_decide_eq_true cx2_
        have bx3_ : 0 ≤ S_.1 4 ii_ 3 ∧ S_.1 4 ii_ 3 ≤ 1073741823 := hI_.1 4 ii_ 3 rfl
        refine sm_T_go 6 (c1 := (109, [some (.inr (.inr (some (4, ii_)))), some (.inl a_), some (.inl b_)], [.inl a_, .inr (.inr (some (50, (0 + ii_)))), .inl (S_.1 4 ii_ 3), .inr (.inr (some (4, ii_)))], S_)) rfl ?_
        refine sm_T_iald (n := 2000) rfl rfl (by omega) (by omega) ?_
        have bx4_ : (-2147483648) ≤ S_.2.2.1 50 (0 + ii_) a_.toNat ∧ S_.2.2.1 50 (0 + ii_) a_.toNat ≤ 2147483647 := hI_.2 50 (0 + ii_) _
        refine sm_T_bin (w := (S_.1 4 ii_ 3) + (S_.2.2.1 50 (0 + ii_) a_.toNat)) rfl (bi_add (by omega) (by omega) (by omega)) ?_ -- pc_ 110
        have hIx5_ : gi (sm_pI S_ 4 ii_ 3 ((S_.1 4 ii_ 3) + (S_.2.2.1 50 (0 + ii_) a_.toNat))) := gi_pI hI_ (show 0 ≤ (S_.1 4 ii_ 3) + (S_.2.2.1 50 (0 + ii_) a_.toNat) ∧ (S_.1 4 ii_ 3) + (S_.2.2.1 50 (0 + ii_) a_.toNat) ≤ 1073741823 from ⟨by omega, by omega⟩)
        have hFx6_ : ai_fr (sx_W vw_79) S0_ (sm_pI S_ 4 ii_ 3 ((S_.1 4 ii_ 3) + (S_.2.2.1 50 (0 + ii_) a_.toNat))) := ai_fr_tr hF_ (ai_fr_pI rfl)
        have hCx7_ : cdf ii_ S0_ (sm_pI S_ 4 ii_ 3 ((S_.1 4 ii_ 3) + (S_.2.2.1 50 (0 + ii_) a_.toNat))) := cdf_pI hC_ (Or.inr (by rw [show cof 4 = 0 from rfl] <;> omega))
        refine sm_T_go 1 (c1 := (114, [some (.inr (.inr (some (4, ii_)))), some (.inl a_), some (.inl b_)], [], sm_pI S_ 4 ii_ 3 ((S_.1 4 ii_ 3) + (S_.2.2.1 50 (0 + ii_) a_.toNat)))) rfl ?_
        refine sm_T_inc (a := 1) (z := 1) (v := a_) (w := a_ + 1) rfl rfl (by omega) (by omega) (by omega) ?_ -- pc_ 114
        refine sm_T_go 1 (c1 := (25, [some (.inr (.inr (some (4, ii_)))), some (.inl (a_ + 1)), some (.inl b_)], [], sm_pI S_ 4 ii_ 3 ((S_.1 4 ii_ 3) + (S_.2.2.1 50 (0 + ii_) a_.toNat)))) rfl ?_
        refine sm_T_wk [some (.inr (.inr (some (4, ii_)))), some (.inl (a_ + 1)), none] (by exact ⟨rfl, rfl, trivial⟩) ?_
        refine ih_.1 (a_ + 1) (sm_pI S_ 4 ii_ 3 ((S_.1 4 ii_ 3) + (S_.2.2.1 50 (0 + ii_) a_.toNat))) hIx5_ hFx6_ ⟨?_, ?_, trivial⟩ ?_
        · ((try simp only [rd_lf, rd_fl, rf_eq, rf_nk, rf_nt, rd_fa, rd_af, ne_eq, Nat.reduceEqDiff, not_false_eq_true]); omega)
        · exact hCx7_
        · omega
      · have cx2_ : ¬ ((S_.1 4 ii_ 1) ≤ b_) := of_decide_eq_false cx2_
        refine sm_T_go 3 (c1 := (77, [some (.inr (.inr (some (4, ii_)))), some (.inl a_), some (.inl b_)], [.inl b_, .inl a_, .inr (.inr (some (4, ii_)))], S_)) rfl ?_
        refine sm_T_cal (d1 := 0) (Q1 := vq_77 a_ b_ ii_ S_) rfl rfl (by decide) (vc_77 a_ b_ ii_ S_ hI_ (by omega) (by omega)) (fun u_ Sx8_ px11_ => ?_)
        obtain ⟨rfl, vx13_, rfl, px11_⟩ := px11_
        have t2_ := px11_
        refine sm_T_b0 (a := 0) (z := 13) rfl (fun cx14_ => ?_) (fun cx14_ => ?_)
        · have cx14_ : vx13_ = 0 := of_decide_eq_true cx14_
          refine sm_T_inc (a := 2) (z := 1) (v := b_) (w := b_ + 1) rfl rfl (by omega) (by omega) (by omega) ?_ -- pc_ 93
          refine sm_T_go 1 (c1 := (66, [some (.inr (.inr (some (4, ii_)))), some (.inl a_), some (.inl (b_ + 1))], [], S_)) rfl ?_
          refine ih_.2 a_ (b_ + 1) S_ hI_ hF_ ⟨?_, ?_, ?_, trivial⟩ ?_
          · ((try simp only [rd_lf, rd_fl, rf_eq, rf_nk, rf_nt, rd_fa, rd_af, ne_eq, Nat.reduceEqDiff, not_false_eq_true]); omega)
          · omega
          · exact hC_
          · omega
        · have cx14_ : ¬ (vx13_ = 0) := of_decide_eq_false cx14_
          refine sm_T_go 4 (c1 := (89, [some (.inr (.inr (some (4, ii_)))), some (.inl a_), some (.inl b_)], [.inl a_, .inr (.inr (some (50, (0 + ii_)))), .inl a_, .inr (.inr (some (50, (0 + ii_))))], S_)) rfl ?_
          refine sm_T_iald (n := 2000) rfl rfl (by omega) (by omega) ?_
          have bx15_ : (-2147483648) ≤ S_.2.2.1 50 (0 + ii_) a_.toNat ∧ S_.2.2.1 50 (0 + ii_) a_.toNat ≤ 2147483647 := hI_.2 50 (0 + ii_) _
          refine sm_T_go 1 (c1 := (91, [some (.inr (.inr (some (4, ii_)))), some (.inl a_), some (.inl b_)], [.inl 1, .inl (S_.2.2.1 50 (0 + ii_) a_.toNat), .inl a_, .inr (.inr (some (50, (0 + ii_))))], S_)) rfl ?_
          refine sm_T_bin (w := (S_.2.2.1 50 (0 + ii_) a_.toNat) + 1) rfl (bi_add (by omega) (by omega) (by omega)) ?_ -- pc_ 91
          refine sm_T_iast (n := 2000) rfl rfl (by omega) (by omega) ?_
          have hIx16_ : gi (sm_aI S_ 50 (0 + ii_) a_.toNat ((S_.2.2.1 50 (0 + ii_) a_.toNat) + 1)) := gi_aI hI_ (show (-2147483648) ≤ (S_.2.2.1 50 (0 + ii_) a_.toNat) + 1 ∧ (S_.2.2.1 50 (0 + ii_) a_.toNat) + 1 ≤ 2147483647 from ⟨by omega, by omega⟩)
          have hFx17_ : ai_fr (sx_W vw_79) S0_ (sm_aI S_ 50 (0 + ii_) a_.toNat ((S_.2.2.1 50 (0 + ii_) a_.toNat) + 1)) := ai_fr_tr hF_ (ai_fr_aI rfl)
          have hCx18_ : cdf ii_ S0_ (sm_aI S_ 50 (0 + ii_) a_.toNat ((S_.2.2.1 50 (0 + ii_) a_.toNat) + 1)) := cdf_aI hC_ (Or.inr (by rw [show cof 50 = 0 from rfl] <;> omega))
          refine sm_T_inc (a := 2) (z := 1) (v := b_) (w := b_ + 1) rfl rfl (by omega) (by omega) (by omega) ?_ -- pc_ 93
          refine sm_T_go 1 (c1 := (66, [some (.inr (.inr (some (4, ii_)))), some (.inl a_), some (.inl (b_ + 1))], [], sm_aI S_ 50 (0 + ii_) a_.toNat ((S_.2.2.1 50 (0 + ii_) a_.toNat) + 1))) rfl ?_
          refine ih_.2 a_ (b_ + 1) (sm_aI S_ 50 (0 + ii_) a_.toNat ((S_.2.2.1 50 (0 + ii_) a_.toNat) + 1)) hIx16_ hFx17_ ⟨?_, ?_, ?_, trivial⟩ ?_
          · ((try simp only [rd_lf, rd_fl, rf_eq, rf_nk, rf_nt, rd_fa, rd_af, ne_eq, Nat.reduceEqDiff, not_false_eq_true]); omega)
          · (rw [rd_eq, if_pos rfl]; omega)
          · exact hCx18_
          · omega
set_option maxHeartbeats 400000 in
theorem vc_79 {sc_ : Nat × (Nat → Int)} (ii_ : Nat) (S0_ : sm_S) (hI_ : gi S0_)  : sm_T (mt_P sc_) 1 79 (0, [some (.inr (.inr (some (4, ii_)))), none, none], [], S0_) (fun ro9_ => ∃ u_ S1_, ro9_ = (.inl u_, S1_, 0) ∧ vq_79 ii_ S0_ u_ S1_) := by
  have hF_ : ai_fr (sx_W vw_79) S0_ S0_ := ai_fr_rf
  have hC_ : cdf ii_ S0_ S0_ := cdf_rf
  have bx1_ : 0 ≤ S0_.1 4 ii_ 9 ∧ S0_.1 4 ii_ 9 ≤ 1 := hI_.1 4 ii_ 9 rfl
  refine sm_T_go 2 (c1 := (4, [some (.inr (.inr (some (4, ii_)))), none, none], [.inl (S0_.1 4 ii_ 9)], S0_)) rfl ?_
  refine sm_T_b0 (a := 0) (z := 4) rfl (fun cx2_ => ?_) (fun cx2_ => ?_)
  · have cx2_ : (S0_.1 4 ii_ 9) = 0 := of_decide_eq_true cx2_
    have hIx3_ : gi (sm_pI S0_ 4 ii_ 9 1) := gi_pI hI_ (show 0 ≤ 1 ∧ 1 ≤ 1 from ⟨by omega, by omega⟩)
    have hFx4_ : ai_fr (sx_W vw_79) S0_ (sm_pI S0_ 4 ii_ 9 1) := ai_fr_tr hF_ (ai_fr_pI rfl)
    have hCx5_ : cdf ii_ S0_ (sm_pI S0_ 4 ii_ 9 1) := cdf_pI hC_ (Or.inr (by rw [show cof 4 = 0 from rfl] <;> omega))
    have hIx6_ : gi (sm_pI (sm_pI S0_ 4 ii_ 9 1) 4 ii_ 8 0) := gi_pI hIx3_ (show 0 ≤ 0 ∧ 0 ≤ 2000 from ⟨by omega, by omega⟩)
    have hFx7_ : ai_fr (sx_W vw_79) S0_ (sm_pI (sm_pI S0_ 4 ii_ 9 1) 4 ii_ 8 0) := ai_fr_tr hFx4_ (ai_fr_pI rfl)
    have hCx8_ : cdf ii_ S0_ (sm_pI (sm_pI S0_ 4 ii_ 9 1) 4 ii_ 8 0) := cdf_pI hCx5_ (Or.inr (by rw [show cof 4 = 0 from rfl] <;> omega))
    have hIx9_ : gi (sm_pI (sm_pI (sm_pI S0_ 4 ii_ 9 1) 4 ii_ 8 0) 4 ii_ 3 0) := gi_pI hIx6_ (show 0 ≤ 0 ∧ 0 ≤ 1073741823 from ⟨by omega, by omega⟩)
    have hFx10_ : ai_fr (sx_W vw_79) S0_ (sm_pI (sm_pI (sm_pI S0_ 4 ii_ 9 1) 4 ii_ 8 0) 4 ii_ 3 0) := ai_fr_tr hFx7_ (ai_fr_pI rfl)
    have hCx11_ : cdf ii_ S0_ (sm_pI (sm_pI (sm_pI S0_ 4 ii_ 9 1) 4 ii_ 8 0) 4 ii_ 3 0) := cdf_pI hCx8_ (Or.inr (by rw [show cof 4 = 0 from rfl] <;> omega))
    refine sm_T_go 11 (c1 := (25, [some (.inr (.inr (some (4, ii_)))), some (.inl 0), none], [], sm_pI (sm_pI (sm_pI S0_ 4 ii_ 9 1) 4 ii_ 8 0) 4 ii_ 3 0)) rfl ?_
    refine (vl_79 ii_ S0_ _).1 0 (sm_pI (sm_pI (sm_pI S0_ 4 ii_ 9 1) 4 ii_ 8 0) 4 ii_ 3 0) hIx9_ hFx10_ ⟨?_, ?_, trivial⟩ (Nat.lt_succ_self _)
    · ((try simp only [rd_lf, rd_fl, rf_eq, rf_nk, rf_nt, rd_fa, rd_af, ne_eq, Nat.reduceEqDiff, not_false_eq_true]); omega)
    · exact hCx11_
  · have cx2_ : ¬ ((S0_.1 4 ii_ 9) = 0) := of_decide_eq_false cx2_
    refine sm_T_rv rfl ⟨_, _, rfl, rfl, hI_, hF_, ?_⟩
    refine ⟨hC_, ?_⟩
    trivial
end
/-! 99.zl4j -/
section
/-! Layout.findPin -/
def vw_85 : sx_Wl := ([(4, 6)], [51, 52, 53], [])
def vq_85 (a2_ : Int) (a3_ : Int) (ii_ : Nat) (bb_ : Nat) (S0_ : sm_S) (u_ : Option sm_V) (S1_ : sm_S) : Prop := u_ = none ∧ gi S1_ ∧ ai_fr (sx_W vw_85) S0_ S1_ ∧ (cdf ii_ S0_ S1_ ∧ (S1_.1 4 ii_ 6 ≤ S0_.1 4 ii_ 6 + 1))
set_option maxHeartbeats 400000 in
set_option maxRecDepth 20000 in
theorem vl_85 {sc_ : Nat × (Nat → Int)} (a2_ : Int) (a3_ : Int) (ii_ : Nat) (bb_ : Nat) (S0_ : sm_S) (h2_ : 0 ≤ a2_ ∧ a2_ ≤ 651) (h3_ : 0 ≤ a3_ ∧ a3_ ≤ 6) (hp_ : S0_.1 4 ii_ 6 ≤ 2651) : ∀ nn_ : Nat, (∀ (td_ : Int) (x_ : Int) (y_ : Int) (k_ : Int) (S_ : sm_S), gi S_ → ai_fr (sx_W vw_85) S0_ S_ → ((0 ≤ td_ ∧ td_ ≤ 1 ∧ 0 ≤ k_ ∧ k_ ≤ 2000 ∧ 0 ≤ x_ ∧ x_ ≤ 300 ∧ 0 ≤ y_ ∧ y_ ≤ 300) ∧ (S_.1 4 ii_ 6 = S0_.1 4 ii_ 6) ∧ (cdf ii_ S0_ S_) ∧ True) → ((3000 - k_).toNat) < nn_ → sm_T (mt_P sc_) 1 85 (76, [some (.inr (.inr (some (4, ii_)))), some (.inr (.inr (some (0, bb_)))), some (.inl a2_), some (.inl a3_), some (.inl td_), some (.inl x_), some (.inl y_), some (.inl k_), none, none], [], S_) (fun ro9_ => ∃ u_ S1_, ro9_ = (.inl u_, S1_, 0) ∧ vq_85 a2_ a3_ ii_ bb_ S0_ u_ S1_)) := by
  intro nn_
  induction nn_ with
  | zero => exact fun _ _ _ _ _ _ _ _ h_ => absurd h_ (Nat.not_lt_zero _)
  | succ nn_ ih_ =>
    rintro td_ x_ y_ k_ S_ hI_ hF_ ⟨h0_, h6_, hC_, -⟩ hm_
    have cn_ : 0 ≤ S_.1 4 ii_ 1 ∧ S_.1 4 ii_ 1 ≤ 2000 := hI_.1 4 ii_ 1 rfl
    have bx1_ : 0 ≤ S_.1 4 ii_ 1 ∧ S_.1 4 ii_ 1 ≤ 2000 := hI_.1 4 ii_ 1 rfl
    refine sm_T_go 3 (c1 := (82, [some (.inr (.inr (some (4, ii_)))), some (.inr (.inr (some (0, bb_)))), some (.inl a2_), some (.inl a3_), some (.inl td_), some (.inl x_), some (.inl y_), some (.inl k_), none, none], [.inl (S_.1 4 ii_ 1), .inl k_], S_)) rfl ?_
    refine sm_T_br (a := 3) (z := 118) rfl (fun cx2_ => ?_) (fun cx2_ => ?_)
    · have cx2_ : (S_.1 4 ii_ 1) ≤ k_ := of_decide_eq_true cx2_
      have bx3_ : 0 ≤ S_.1 4 ii_ 6 ∧ S_.1 4 ii_ 6 ≤ 2652 := hI_.1 4 ii_ 6 rfl
      refine sm_T_go 4 (c1 := (207, [some (.inr (.inr (some (4, ii_)))), some (.inr (.inr (some (0, bb_)))), some (.inl a2_), some (.inl a3_), some (.inl td_), some (.inl x_), some (.inl y_), some (.inl k_), none, none], [.inl td_, .inl (S_.1 4 ii_ 6), .inr (.inr (some (4, ii_)))], S_)) rfl ?_
      refine sm_T_b0 (a := 0) (z := 7) rfl (fun cx4_ => ?_) (fun cx4_ => ?_)
      · have cx4_ : td_ = 0 := of_decide_eq_true cx4_
        refine sm_T_go 1 (c1 := (215, [some (.inr (.inr (some (4, ii_)))), some (.inr (.inr (some (0, bb_)))), some (.inl a2_), some (.inl a3_), some (.inl td_), some (.inl x_), some (.inl y_), some (.inl k_), none, none], [.inl 1, .inl (S_.1 4 ii_ 6), .inr (.inr (some (4, ii_)))], S_)) rfl ?_
        refine sm_T_bin (w := (S_.1 4 ii_ 6) + 1) rfl (bi_add (by omega) (by omega) (by omega)) ?_ -- pc_ 215
        have hIx5_ : gi (sm_pI S_ 4 ii_ 6 ((S_.1 4 ii_ 6) + 1)) := gi_pI hI_ (show 0 ≤ (S_.1 4 ii_ 6) + 1 ∧ (S_.1 4 ii_ 6) + 1 ≤ 2652 from ⟨by omega, by omega⟩)
        have hFx6_ : ai_fr (sx_W vw_85) S0_ (sm_pI S_ 4 ii_ 6 ((S_.1 4 ii_ 6) + 1)) := ai_fr_tr hF_ (ai_fr_pI rfl)
        have hCx7_ : cdf ii_ S0_ (sm_pI S_ 4 ii_ 6 ((S_.1 4 ii_ 6) + 1)) := cdf_pI hC_ (Or.inr (by rw [show cof 4 = 0 from rfl] <;> omega))
        refine sm_T_go 1 (c1 := (219, [some (.inr (.inr (some (4, ii_)))), some (.inr (.inr (some (0, bb_)))), some (.inl a2_), some (.inl a3_), some (.inl td_), some (.inl x_), some (.inl y_), some (.inl k_), none, none], [], sm_pI S_ 4 ii_ 6 ((S_.1 4 ii_ 6) + 1))) rfl ?_
        refine sm_T_rv rfl ⟨_, _, rfl, rfl, hIx5_, hFx6_, ?_⟩
        refine ⟨hCx7_, ?_⟩
        ((try simp only [rd_lf, rd_fl, rf_eq, rf_nk, rf_nt, rd_fa, rd_af, ne_eq, Nat.reduceEqDiff, not_false_eq_true]); omega)
      · have cx4_ : ¬ (td_ = 0) := of_decide_eq_false cx4_
        refine sm_T_go 2 (c1 := (215, [some (.inr (.inr (some (4, ii_)))), some (.inr (.inr (some (0, bb_)))), some (.inl a2_), some (.inl a3_), some (.inl td_), some (.inl x_), some (.inl y_), some (.inl k_), none, none], [.inl 0, .inl (S_.1 4 ii_ 6), .inr (.inr (some (4, ii_)))], S_)) rfl ?_
        refine sm_T_bin (w := (S_.1 4 ii_ 6)) rfl (bi_add (by omega) (by omega) (by omega)) ?_ -- pc_ 215
        have hIx8_ : gi (sm_pI S_ 4 ii_ 6 (S_.1 4 ii_ 6)) := gi_pI hI_ (show 0 ≤ (S_.1 4 ii_ 6) ∧ (S_.1 4 ii_ 6) ≤ 2652 from ⟨by omega, by omega⟩)
        have hFx9_ : ai_fr (sx_W vw_85) S0_ (sm_pI S_ 4 ii_ 6 (S_.1 4 ii_ 6)) := ai_fr_tr hF_ (ai_fr_pI rfl)
        have hCx10_ : cdf ii_ S0_ (sm_pI S_ 4 ii_ 6 (S_.1 4 ii_ 6)) := cdf_pI hC_ (Or.inr (by rw [show cof 4 = 0 from rfl] <;> omega))
        refine sm_T_go 1 (c1 := (219, [some (.inr (.inr (some (4, ii_)))), some (.inr (.inr (some (0, bb_)))), some (.inl a2_), some (.inl a3_), some (.inl td_), some (.inl x_), some (.inl y_), some (.inl k_), none, none], [], sm_pI S_ 4 ii_ 6 (S_.1 4 ii_ 6))) rfl ?_
        refine sm_T_rv rfl ⟨_, _, rfl, rfl, hIx8_, hFx9_, ?_⟩
        refine ⟨hCx10_, ?_⟩
        ((try simp only [rd_lf, rd_fl, rf_eq, rf_nk, rf_nt, rd_fa, rd_af, ne_eq, Nat.reduceEqDiff, not_false_eq_true]); omega)
    · have cx2_ : ¬ ((S_.1 4 ii_ 1) ≤ k_) := of_decide_eq_false cx2_
      refine sm_T_go 2 (c1 := (88, [some (.inr (.inr (some (4, ii_)))), some (.inr (.inr (some (0, bb_)))), some (.inl a2_), some (.inl a3_), some (.inl td_), some (.inl x_), some (.inl y_), some (.inl k_), none, none], [.inl k_, .inl 5], S_)) rfl ?_
      refine sm_T_bin (w := 5 * k_) rfl (bi_mul (by omega) (by omega) (by omega)) ?_ -- pc_ 88
      refine sm_T_go 4 (c1 := (97, [some (.inr (.inr (some (4, ii_)))), some (.inr (.inr (some (0, bb_)))), some (.inl a2_), some (.inl a3_), some (.inl td_), some (.inl x_), some (.inl y_), some (.inl k_), some (.inl (5 * k_)), none], [.inl (5 * k_), .inr (.inr (some (48, (0 + ii_))))], S_)) rfl ?_
      refine sm_T_iald (n := 10000) rfl rfl (by omega) (by omega) ?_
      have bx11_ : (-1000) ≤ S_.2.2.1 48 (0 + ii_) (5 * k_).toNat ∧ S_.2.2.1 48 (0 + ii_) (5 * k_).toNat ≤ 1000 := hI_.2 48 (0 + ii_) _
      refine sm_T_b0 (a := 1) (z := 63) rfl (fun cx12_ => ?_) (fun cx12_ => ?_)
      · have cx12_ : (S_.2.2.1 48 (0 + ii_) (5 * k_).toNat) ≠ 0 := of_decide_eq_true cx12_
        refine sm_T_go 4 (c1 := (194, [some (.inr (.inr (some (4, ii_)))), some (.inr (.inr (some (0, bb_)))), some (.inl a2_), some (.inl a3_), some (.inl td_), some (.inl x_), some (.inl y_), some (.inl k_), some (.inl (5 * k_)), some (.inl 0)], [], S_)) rfl ?_
        refine sm_T_inc (a := 7) (z := 1) (v := k_) (w := k_ + 1) rfl rfl (by omega) (by omega) (by omega) ?_ -- pc_ 194
        refine sm_T_go 1 (c1 := (76, [some (.inr (.inr (some (4, ii_)))), some (.inr (.inr (some (0, bb_)))), some (.inl a2_), some (.inl a3_), some (.inl td_), some (.inl x_), some (.inl y_), some (.inl (k_ + 1)), some (.inl (5 * k_)), some (.inl 0)], [], S_)) rfl ?_
        refine sm_T_wk [some (.inr (.inr (some (4, ii_)))), some (.inr (.inr (some (0, bb_)))), some (.inl a2_), some (.inl a3_), some (.inl td_), some (.inl x_), some (.inl y_), some (.inl (k_ + 1)), none, none] (by exact ⟨rfl, rfl, rfl, rfl, rfl, rfl, rfl, rfl, trivial⟩) ?_
        refine ih_ td_ x_ y_ (k_ + 1) S_ hI_ hF_ ⟨?_, ?_, ?_, trivial⟩ ?_
        · omega
        · exact h6_
        · exact hC_
        · omega
      · have cx12_ : ¬ ((S_.2.2.1 48 (0 + ii_) (5 * k_).toNat) ≠ 0) := of_decide_eq_false cx12_
        refine sm_T_go 4 (c1 := (108, [some (.inr (.inr (some (4, ii_)))), some (.inr (.inr (some (0, bb_)))), some (.inl a2_), some (.inl a3_), some (.inl td_), some (.inl x_), some (.inl y_), some (.inl k_), some (.inl (5 * k_)), none], [.inl 1, .inl (5 * k_), .inr (.inr (some (48, (0 + ii_))))], S_)) rfl ?_
        refine sm_T_bin (w := 5 * k_ + 1) rfl (bi_add (by omega) (by omega) (by omega)) ?_ -- pc_ 108
        refine sm_T_iald (n := 10000) rfl rfl (by omega) (by omega) ?_
        have bx13_ : (-1000) ≤ S_.2.2.1 48 (0 + ii_) (5 * k_ + 1).toNat ∧ S_.2.2.1 48 (0 + ii_) (5 * k_ + 1).toNat ≤ 1000 := hI_.2 48 (0 + ii_) _
        refine sm_T_go 1 (c1 := (112, [some (.inr (.inr (some (4, ii_)))), some (.inr (.inr (some (0, bb_)))), some (.inl a2_), some (.inl a3_), some (.inl td_), some (.inl x_), some (.inl y_), some (.inl k_), some (.inl (5 * k_)), none], [.inl x_, .inl (S_.2.2.1 48 (0 + ii_) (5 * k_ + 1).toNat)], S_)) rfl ?_
        refine sm_T_br (a := 4) (z := 49) rfl (fun cx14_ => ?_) (fun cx14_ => ?_)
        · have cx14_ : x_ < (S_.2.2.1 48 (0 + ii_) (5 * k_ + 1).toNat) := of_decide_eq_true cx14_
          refine sm_T_go 4 (c1 := (194, [some (.inr (.inr (some (4, ii_)))), some (.inr (.inr (some (0, bb_)))), some (.inl a2_), some (.inl a3_), some (.inl td_), some (.inl x_), some (.inl y_), some (.inl k_), some (.inl (5 * k_)), some (.inl 0)], [], S_)) rfl ?_
          refine sm_T_inc (a := 7) (z := 1) (v := k_) (w := k_ + 1) rfl rfl (by omega) (by omega) (by omega) ?_ -- pc_ 194
          refine sm_T_go 1 (c1 := (76, [some (.inr (.inr (some (4, ii_)))), some (.inr (.inr (some (0, bb_)))), some (.inl a2_), some (.inl a3_), some (.inl td_), some (.inl x_), some (.inl y_), some (.inl (k_ + 1)), some (.inl (5 * k_)), some (.inl 0)], [], S_)) rfl ?_
          refine sm_T_wk [some (.inr (.inr (some (4, ii_)))), some (.inr (.inr (some (0, bb_)))), some (.inl a2_), some (.inl a3_), some (.inl td_), some (.inl x_), some (.inl y_), some (.inl (k_ + 1)), none, none] (by exact ⟨rfl, rfl, rfl, rfl, rfl, rfl, rfl, rfl, trivial⟩) ?_
          refine ih_ td_ x_ y_ (k_ + 1) S_ hI_ hF_ ⟨?_, ?_, ?_, trivial⟩ ?_
          · omega
          · exact h6_
          · exact hC_
          · omega
        · have cx14_ : ¬ (x_ < (S_.2.2.1 48 (0 + ii_) (5 * k_ + 1).toNat)) := of_decide_eq_false cx14_
          refine sm_T_go 5 (c1 := (124, [some (.inr (.inr (some (4, ii_)))), some (.inr (.inr (some (0, bb_)))), some (.inl a2_), some (.inl a3_), some (.inl td_), some (.inl x_), some (.inl y_), some (.inl k_), some (.inl (5 * k_)), none], [.inl 3, .inl (5 * k_), .inr (.inr (some (48, (0 + ii_)))), .inl x_], S_)) rfl ?_
          refine sm_T_bin (w := 5 * k_ + 3) rfl (bi_add (by omega) (by omega) (by omega)) ?_ -- pc_ 124
          refine sm_T_iald (n := 10000) rfl rfl (by omega) (by omega) ?_
          have bx15_ : (-1000) ≤ S_.2.2.1 48 (0 + ii_) (5 * k_ + 3).toNat ∧ S_.2.2.1 48 (0 + ii_) (5 * k_ + 3).toNat ≤ 1000 := hI_.2 48 (0 + ii_) _
          refine sm_T_br (a := 4) (z := 35) rfl (fun cx16_ => ?_) (fun cx16_ => ?_)
          · have cx16_ : (S_.2.2.1 48 (0 + ii_) (5 * k_ + 3).toNat) < x_ := of_decide_eq_true cx16_
            refine sm_T_go 4 (c1 := (194, [some (.inr (.inr (some (4, ii_)))), some (.inr (.inr (some (0, bb_)))), some (.inl a2_), some (.inl a3_), some (.inl td_), some (.inl x_), some (.inl y_), some (.inl k_), some (.inl (5 * k_)), some (.inl 0)], [], S_)) rfl ?_
            refine sm_T_inc (a := 7) (z := 1) (v := k_) (w := k_ + 1) rfl rfl (by omega) (by omega) (by omega) ?_ -- pc_ 194
            refine sm_T_go 1 (c1 := (76, [some (.inr (.inr (some (4, ii_)))), some (.inr (.inr (some (0, bb_)))), some (.inl a2_), some (.inl a3_), some (.inl td_), some (.inl x_), some (.inl y_), some (.inl (k_ + 1)), some (.inl (5 * k_)), some (.inl 0)], [], S_)) rfl ?_
            refine sm_T_wk [some (.inr (.inr (some (4, ii_)))), some (.inr (.inr (some (0, bb_)))), some (.inl a2_), some (.inl a3_), some (.inl td_), some (.inl x_), some (.inl y_), some (.inl (k_ + 1)), none, none] (by exact ⟨rfl, rfl, rfl, rfl, rfl, rfl, rfl, rfl, trivial⟩) ?_
            refine ih_ td_ x_ y_ (k_ + 1) S_ hI_ hF_ ⟨?_, ?_, ?_, trivial⟩ ?_
            · omega
            · exact h6_
            · exact hC_
            · omega
          · have cx16_ : ¬ ((S_.2.2.1 48 (0 + ii_) (5 * k_ + 3).toNat) < x_) := of_decide_eq_false cx16_
            refine sm_T_go 4 (c1 := (136, [some (.inr (.inr (some (4, ii_)))), some (.inr (.inr (some (0, bb_)))), some (.inl a2_), some (.inl a3_), some (.inl td_), some (.inl x_), some (.inl y_), some (.inl k_), some (.inl (5 * k_)), none], [.inl 2, .inl (5 * k_), .inr (.inr (some (48, (0 + ii_))))], S_)) rfl ?_
            refine sm_T_bin (w := 5 * k_ + 2) rfl (bi_add (by omega) (by omega) (by omega)) ?_ -- pc_ 136
            refine sm_T_iald (n := 10000) rfl rfl (by omega) (by omega) ?_
            have bx17_ : (-1000) ≤ S_.2.2.1 48 (0 + ii_) (5 * k_ + 2).toNat ∧ S_.2.2.1 48 (0 + ii_) (5 * k_ + 2).toNat ≤ 1000 := hI_.2 48 (0 + ii_) _
            refine sm_T_go 1 (c1 := (140, [some (.inr (.inr (some (4, ii_)))), some (.inr (.inr (some (0, bb_)))), some (.inl a2_), some (.inl a3_), some (.inl td_), some (.inl x_), some (.inl y_), some (.inl k_), some (.inl (5 * k_)), none], [.inl y_, .inl (S_.2.2.1 48 (0 + ii_) (5 * k_ + 2).toNat)], S_)) rfl ?_
            refine sm_T_br (a := 4) (z := 21) rfl (fun cx18_ => ?_) (fun cx18_ => ?_)
            · have cx18_ : y_ < (S_.2.2.1 48 (0 + ii_) (5 * k_ + 2).toNat) := of_decide_eq_true cx18_
              refine sm_T_go 4 (c1 := (194, [some (.inr (.inr (some (4, ii_)))), some (.inr (.inr (some (0, bb_)))), some (.inl a2_), some (.inl a3_), some (.inl td_), some (.inl x_), some (.inl y_), some (.inl k_), some (.inl (5 * k_)), some (.inl 0)], [], S_)) rfl ?_
              refine sm_T_inc (a := 7) (z := 1) (v := k_) (w := k_ + 1) rfl rfl (by omega) (by omega) (by omega) ?_ -- pc_ 194
              refine sm_T_go 1 (c1 := (76, [some (.inr (.inr (some (4, ii_)))), some (.inr (.inr (some (0, bb_)))), some (.inl a2_), some (.inl a3_), some (.inl td_), some (.inl x_), some (.inl y_), some (.inl (k_ + 1)), some (.inl (5 * k_)), some (.inl 0)], [], S_)) rfl ?_
              refine sm_T_wk [some (.inr (.inr (some (4, ii_)))), some (.inr (.inr (some (0, bb_)))), some (.inl a2_), some (.inl a3_), some (.inl td_), some (.inl x_), some (.inl y_), some (.inl (k_ + 1)), none, none] (by exact ⟨rfl, rfl, rfl, rfl, rfl, rfl, rfl, rfl, trivial⟩) ?_
              refine ih_ td_ x_ y_ (k_ + 1) S_ hI_ hF_ ⟨?_, ?_, ?_, trivial⟩ ?_
              · omega
              · exact h6_
              · exact hC_
              · omega
            · have cx18_ : ¬ (y_ < (S_.2.2.1 48 (0 + ii_) (5 * k_ + 2).toNat)) := of_decide_eq_false cx18_
              refine sm_T_go 5 (c1 := (152, [some (.inr (.inr (some (4, ii_)))), some (.inr (.inr (some (0, bb_)))), some (.inl a2_), some (.inl a3_), some (.inl td_), some (.inl x_), some (.inl y_), some (.inl k_), some (.inl (5 * k_)), none], [.inl 4, .inl (5 * k_), .inr (.inr (some (48, (0 + ii_)))), .inl y_], S_)) rfl ?_
              refine sm_T_bin (w := 5 * k_ + 4) rfl (bi_add (by omega) (by omega) (by omega)) ?_ -- pc_ 152
              refine sm_T_iald (n := 10000) rfl rfl (by omega) (by omega) ?_
              have bx19_ : (-1000) ≤ S_.2.2.1 48 (0 + ii_) (5 * k_ + 4).toNat ∧ S_.2.2.1 48 (0 + ii_) (5 * k_ + 4).toNat ≤ 1000 := hI_.2 48 (0 + ii_) _
              refine sm_T_br (a := 4) (z := 7) rfl (fun cx20_ => ?_) (fun cx20_ => ?_)
              · have cx20_ : (S_.2.2.1 48 (0 + ii_) (5 * k_ + 4).toNat) < y_ := of_decide_eq_true cx20_
                refine sm_T_go 4 (c1 := (194, [some (.inr (.inr (some (4, ii_)))), some (.inr (.inr (some (0, bb_)))), some (.inl a2_), some (.inl a3_), some (.inl td_), some (.inl x_), some (.inl y_), some (.inl k_), some (.inl (5 * k_)), some (.inl 0)], [], S_)) rfl ?_
                refine sm_T_inc (a := 7) (z := 1) (v := k_) (w := k_ + 1) rfl rfl (by omega) (by omega) (by omega) ?_ -- pc_ 194
                refine sm_T_go 1 (c1 := (76, [some (.inr (.inr (some (4, ii_)))), some (.inr (.inr (some (0, bb_)))), some (.inl a2_), some (.inl a3_), some (.inl td_), some (.inl x_), some (.inl y_), some (.inl (k_ + 1)), some (.inl (5 * k_)), some (.inl 0)], [], S_)) rfl ?_
                refine sm_T_wk [some (.inr (.inr (some (4, ii_)))), some (.inr (.inr (some (0, bb_)))), some (.inl a2_), some (.inl a3_), some (.inl td_), some (.inl x_), some (.inl y_), some (.inl (k_ + 1)), none, none] (by exact ⟨rfl, rfl, rfl, rfl, rfl, rfl, rfl, rfl, trivial⟩) ?_
                refine ih_ td_ x_ y_ (k_ + 1) S_ hI_ hF_ ⟨?_, ?_, ?_, trivial⟩ ?_
                · omega
                · exact h6_
                · exact hC_
                · omega
              · have cx20_ : ¬ ((S_.2.2.1 48 (0 + ii_) (5 * k_ + 4).toNat) < y_) := of_decide_eq_false cx20_
                refine sm_T_go 10 (c1 := (177, [some (.inr (.inr (some (4, ii_)))), some (.inr (.inr (some (0, bb_)))), some (.inl a2_), some (.inl a3_), some (.inl td_), some (.inl x_), some (.inl y_), some (.inl k_), some (.inl (5 * k_)), some (.inl 1)], [.inl k_, .inr (.inr (some (4, ii_))), .inl a2_, .inr (.inr (some (52, (0 + ii_))))], S_)) rfl ?_
                refine sm_T_cal (d1 := 0) (Q1 := vq_84 k_ ii_ S_) rfl rfl (by decide) (vc_84 k_ ii_ S_ hI_ (by omega)) (fun u_ Sx21_ px24_ => ?_)
                obtain ⟨vx26_, rfl, hIx22_, hFx23_, px24_⟩ := px24_
                have hFx25_ : ai_fr (sx_W vw_85) S0_ Sx21_ := ai_fr_tr hF_ (fr_le hFx23_ rfl)
                obtain ⟨dx28_, px24_⟩ := px24_
                have hCx27_ : cdf ii_ S0_ Sx21_ := cdf_tr hC_ (cdf_cg (by omega) dx28_)
                have ex29_ : Sx21_.1 4 ii_ 1 = S_.1 4 ii_ 1 := hFx23_.1 4 ii_ 1 rfl
                have t1_ := px24_
                have f6_ := hFx23_.1 4 ii_ 6 rfl
                refine sm_T_iast (n := 652) rfl rfl (by omega) (by omega) ?_
                have hIx30_ : gi (sm_aI Sx21_ 52 (0 + ii_) a2_.toNat vx26_) := gi_aI hIx22_ (show (-652) ≤ vx26_ ∧ vx26_ ≤ 1999 from ⟨by omega, by omega⟩)
                have hFx31_ : ai_fr (sx_W vw_85) S0_ (sm_aI Sx21_ 52 (0 + ii_) a2_.toNat vx26_) := ai_fr_tr hFx25_ (ai_fr_aI rfl)
                have hCx32_ : cdf ii_ S0_ (sm_aI Sx21_ 52 (0 + ii_) a2_.toNat vx26_) := cdf_aI hCx27_ (Or.inr (by rw [show cof 52 = 0 from rfl] <;> omega))
                refine sm_T_go 5 (c1 := (190, [some (.inr (.inr (some (4, ii_)))), some (.inr (.inr (some (0, bb_)))), some (.inl a2_), some (.inl a3_), some (.inl td_), some (.inl x_), some (.inl y_), some (.inl k_), some (.inl (5 * k_)), some (.inl 1)], [.inl a2_, .inr (.inr (some (52, (0 + ii_)))), .inr (.inr (some (53, (0 + ii_))))], sm_aI Sx21_ 52 (0 + ii_) a2_.toNat vx26_)) rfl ?_
                refine sm_T_iald (n := 652) rfl rfl (by omega) (by omega) ?_
                have bx33_ : (-652) ≤ (sm_aI Sx21_ 52 (0 + ii_) a2_.toNat vx26_).2.2.1 52 (0 + ii_) a2_.toNat ∧ (sm_aI Sx21_ 52 (0 + ii_) a2_.toNat vx26_).2.2.1 52 (0 + ii_) a2_.toNat ≤ 1999 := hIx30_.2 52 (0 + ii_) _
                refine sm_T_go 1 (c1 := (192, [some (.inr (.inr (some (4, ii_)))), some (.inr (.inr (some (0, bb_)))), some (.inl a2_), some (.inl a3_), some (.inl td_), some (.inl x_), some (.inl y_), some (.inl k_), some (.inl (5 * k_)), some (.inl 1)], [.inl 1, .inl ((sm_aI Sx21_ 52 (0 + ii_) a2_.toNat vx26_).2.2.1 52 (0 + ii_) a2_.toNat), .inr (.inr (some (53, (0 + ii_))))], sm_aI Sx21_ 52 (0 + ii_) a2_.toNat vx26_)) rfl ?_
                refine sm_T_iast (n := 2000) rfl rfl (by (first | omega | (rw [rd_eq, if_pos rfl]; omega))) (by (first | omega | (rw [rd_eq, if_pos rfl]; omega))) ?_
                have hIx34_ : gi (sm_aI (sm_aI Sx21_ 52 (0 + ii_) a2_.toNat vx26_) 53 (0 + ii_) ((sm_aI Sx21_ 52 (0 + ii_) a2_.toNat vx26_).2.2.1 52 (0 + ii_) a2_.toNat).toNat 1) := gi_aI hIx30_ (show 0 ≤ 1 ∧ 1 ≤ 1 from ⟨by omega, by omega⟩)
                have hFx35_ : ai_fr (sx_W vw_85) S0_ (sm_aI (sm_aI Sx21_ 52 (0 + ii_) a2_.toNat vx26_) 53 (0 + ii_) ((sm_aI Sx21_ 52 (0 + ii_) a2_.toNat vx26_).2.2.1 52 (0 + ii_) a2_.toNat).toNat 1) := ai_fr_tr hFx31_ (ai_fr_aI rfl)
                have hCx36_ : cdf ii_ S0_ (sm_aI (sm_aI Sx21_ 52 (0 + ii_) a2_.toNat vx26_) 53 (0 + ii_) ((sm_aI Sx21_ 52 (0 + ii_) a2_.toNat vx26_).2.2.1 52 (0 + ii_) a2_.toNat).toNat 1) := cdf_aI hCx32_ (Or.inr (by rw [show cof 53 = 0 from rfl] <;> omega))
                refine sm_T_rv rfl ⟨_, _, rfl, rfl, hIx34_, hFx35_, ?_⟩
                refine ⟨hCx36_, ?_⟩
                ((try simp only [rd_lf, rd_fl, rf_eq, rf_nk, rf_nt, rd_fa, rd_af, ne_eq, Nat.reduceEqDiff, not_false_eq_true]); omega)
set_option maxHeartbeats 400000 in
set_option maxRecDepth 20000 in
theorem vc_85 {sc_ : Nat × (Nat → Int)} (a2_ : Int) (a3_ : Int) (ii_ : Nat) (bb_ : Nat) (S0_ : sm_S) (hI_ : gi S0_) (h2_ : 0 ≤ a2_ ∧ a2_ ≤ 651) (h3_ : 0 ≤ a3_ ∧ a3_ ≤ 6) (hp_ : S0_.1 4 ii_ 6 ≤ 2651) : sm_T (mt_P sc_) 1 85 (0, [some (.inr (.inr (some (4, ii_)))), some (.inr (.inr (some (0, bb_)))), some (.inl a2_), some (.inl a3_), none, none, none, none, none, none], [], S0_) (fun ro9_ => ∃ u_ S1_, ro9_ = (.inl u_, S1_, 0) ∧ vq_85 a2_ a3_ ii_ bb_ S0_ u_ S1_) := by
  have hF_ : ai_fr (sx_W vw_85) S0_ S0_ := ai_fr_rf
  have hC_ : cdf ii_ S0_ S0_ := cdf_rf
  have c6_ : 0 ≤ S0_.1 4 ii_ 6 ∧ S0_.1 4 ii_ 6 ≤ 2652 := hI_.1 4 ii_ 6 rfl
  refine sm_T_go 3 (c1 := (3, [some (.inr (.inr (some (4, ii_)))), some (.inr (.inr (some (0, bb_)))), some (.inl a2_), some (.inl a3_), none, none, none, none, none, none], [.inl a3_, .inl 4, .inl a2_], S0_)) rfl ?_
  refine sm_T_bin (w := 4 * a3_) rfl (bi_mul (by omega) (by omega) (by omega)) ?_ -- pc_ 3
  refine sm_T_br (a := 3) (z := 23) rfl (fun cx1_ => ?_) (fun cx1_ => ?_)
  · have cx1_ : 4 * a3_ ≤ a2_ := of_decide_eq_true cx1_
    refine sm_T_go 5 (c1 := (35, [some (.inr (.inr (some (4, ii_)))), some (.inr (.inr (some (0, bb_)))), some (.inl a2_), some (.inl a3_), some (.inl 0), none, none, none, none, none], [.inl a2_, .inr (.inr (some (17, (0 + bb_))))], S0_)) rfl ?_
    refine sm_T_iald (n := 652) rfl rfl (by omega) (by omega) ?_
    have bx2_ : (-1) ≤ S0_.2.2.1 17 (0 + bb_) a2_.toNat ∧ S0_.2.2.1 17 (0 + bb_) a2_.toNat ≤ 161 := hI_.2 17 (0 + bb_) _
    refine sm_T_go 1 (c1 := (37, [some (.inr (.inr (some (4, ii_)))), some (.inr (.inr (some (0, bb_)))), some (.inl a2_), some (.inl a3_), some (.inl 0), none, none, none, none, none], [.inl (-1), .inl (S0_.2.2.1 17 (0 + bb_) a2_.toNat)], S0_)) rfl ?_
    refine sm_T_br (a := 1) (z := 9) rfl (fun cx3_ => ?_) (fun cx3_ => ?_)
    · have cx3_ : (S0_.2.2.1 17 (0 + bb_) a2_.toNat) ≠ (-1) := of_decide_eq_true cx3_
      refine sm_T_go 3 (c1 := (49, [some (.inr (.inr (some (4, ii_)))), some (.inr (.inr (some (0, bb_)))), some (.inl a2_), some (.inl a3_), some (.inl 0), none, none, none, none, none], [.inl a2_, .inr (.inr (some (0, bb_))), .inl 4], S0_)) rfl ?_
      refine sm_T_cal (d1 := 0) (Q1 := vq_17 a2_ bb_ S0_) rfl rfl (by decide) (vc_17 a2_ bb_ S0_ hI_ (by omega)) (fun u_ Sx4_ px7_ => ?_)
      obtain ⟨rfl, vx9_, rfl, px7_⟩ := px7_
      have p1_ := px7_.1
      refine sm_T_bin (w := 4 * vx9_) rfl (bi_mul (by omega) (by omega) (by omega)) ?_ -- pc_ 52
      refine sm_T_go 4 (c1 := (58, [some (.inr (.inr (some (4, ii_)))), some (.inr (.inr (some (0, bb_)))), some (.inl a2_), some (.inl a3_), some (.inl 0), some (.inl (4 * vx9_)), none, none, none, none], [.inl a2_, .inr (.inr (some (0, bb_))), .inl 4], S0_)) rfl ?_
      refine sm_T_cal (d1 := 0) (Q1 := vq_18 a2_ bb_ S0_) rfl rfl (by decide) (vc_18 a2_ bb_ S0_ hI_ (by omega)) (fun u_ Sx10_ px13_ => ?_)
      obtain ⟨rfl, vx15_, rfl, px13_⟩ := px13_
      have p2_ := px13_.1
      refine sm_T_bin (w := 4 * vx15_) rfl (bi_mul (by omega) (by omega) (by omega)) ?_ -- pc_ 61
      refine sm_T_go 6 (c1 := (71, [some (.inr (.inr (some (4, ii_)))), some (.inr (.inr (some (0, bb_)))), some (.inl a2_), some (.inl a3_), some (.inl 0), some (.inl (4 * vx9_)), some (.inl (4 * vx15_)), none, none, none], [.inl a2_, .inl (-1), .inl a2_, .inr (.inr (some (52, (0 + ii_))))], S0_)) rfl ?_
      refine sm_T_bin (w := -a2_ - 1) rfl (bi_sub (by omega) (by omega) (by omega)) ?_ -- pc_ 71
      refine sm_T_iast (n := 652) rfl rfl (by omega) (by omega) ?_
      have hIx16_ : gi (sm_aI S0_ 52 (0 + ii_) a2_.toNat (-a2_ - 1)) := gi_aI hI_ (show (-652) ≤ -a2_ - 1 ∧ -a2_ - 1 ≤ 1999 from ⟨by omega, by omega⟩)
      have hFx17_ : ai_fr (sx_W vw_85) S0_ (sm_aI S0_ 52 (0 + ii_) a2_.toNat (-a2_ - 1)) := ai_fr_tr hF_ (ai_fr_aI rfl)
      have hCx18_ : cdf ii_ S0_ (sm_aI S0_ 52 (0 + ii_) a2_.toNat (-a2_ - 1)) := cdf_aI hC_ (Or.inr (by rw [show cof 52 = 0 from rfl] <;> omega))
      refine sm_T_go 2 (c1 := (76, [some (.inr (.inr (some (4, ii_)))), some (.inr (.inr (some (0, bb_)))), some (.inl a2_), some (.inl a3_), some (.inl 0), some (.inl (4 * vx9_)), some (.inl (4 * vx15_)), some (.inl 0), none, none], [], sm_aI S0_ 52 (0 + ii_) a2_.toNat (-a2_ - 1))) rfl ?_
      refine (vl_85 a2_ a3_ ii_ bb_ S0_ h2_ h3_ hp_ _) 0 (4 * vx9_) (4 * vx15_) 0 (sm_aI S0_ 52 (0 + ii_) a2_.toNat (-a2_ - 1)) hIx16_ hFx17_ ⟨?_, ?_, ?_, trivial⟩ (Nat.lt_succ_self _)
      · omega
      · rfl
      · exact hCx18_
    · have cx3_ : ¬ ((S0_.2.2.1 17 (0 + bb_) a2_.toNat) ≠ (-1)) := of_decide_eq_false cx3_
      refine sm_T_go 2 (c1 := (45, [some (.inr (.inr (some (4, ii_)))), some (.inr (.inr (some (0, bb_)))), some (.inl a2_), some (.inl a3_), some (.inl 0), none, none, none, none, none], [], S0_)) rfl ?_
      refine sm_T_rv rfl ⟨_, _, rfl, rfl, hI_, hF_, ?_⟩
      refine ⟨hC_, ?_⟩
      omega
  · have cx1_ : ¬ (4 * a3_ ≤ a2_) := of_decide_eq_false cx1_
    refine sm_T_go 2 (c1 := (9, [some (.inr (.inr (some (4, ii_)))), some (.inr (.inr (some (0, bb_)))), some (.inl a2_), some (.inl a3_), none, none, none, none, none, none], [.inl 4, .inl a2_], S0_)) rfl ?_
    refine sm_T_bin (w := (a2_ % 4)) rfl (bi_rem (by omega) (by omega) (by omega) (by omega)) ?_ -- pc_ 9
    refine sm_T_b0 (a := 1) (z := 17) rfl (fun cx19_ => ?_) (fun cx19_ => ?_)
    · have cx19_ : (a2_ % 4) ≠ 0 := of_decide_eq_true cx19_
      refine sm_T_go 5 (c1 := (35, [some (.inr (.inr (some (4, ii_)))), some (.inr (.inr (some (0, bb_)))), some (.inl a2_), some (.inl a3_), some (.inl 0), none, none, none, none, none], [.inl a2_, .inr (.inr (some (17, (0 + bb_))))], S0_)) rfl ?_
      refine sm_T_iald (n := 652) rfl rfl (by omega) (by omega) ?_
      have bx20_ : (-1) ≤ S0_.2.2.1 17 (0 + bb_) a2_.toNat ∧ S0_.2.2.1 17 (0 + bb_) a2_.toNat ≤ 161 := hI_.2 17 (0 + bb_) _
      refine sm_T_go 1 (c1 := (37, [some (.inr (.inr (some (4, ii_)))), some (.inr (.inr (some (0, bb_)))), some (.inl a2_), some (.inl a3_), some (.inl 0), none, none, none, none, none], [.inl (-1), .inl (S0_.2.2.1 17 (0 + bb_) a2_.toNat)], S0_)) rfl ?_
      refine sm_T_br (a := 1) (z := 9) rfl (fun cx21_ => ?_) (fun cx21_ => ?_)
      · have cx21_ : (S0_.2.2.1 17 (0 + bb_) a2_.toNat) ≠ (-1) := of_decide_eq_true cx21_
        refine sm_T_go 3 (c1 := (49, [some (.inr (.inr (some (4, ii_)))), some (.inr (.inr (some (0, bb_)))), some (.inl a2_), some (.inl a3_), some (.inl 0), none, none, none, none, none], [.inl a2_, .inr (.inr (some (0, bb_))), .inl 4], S0_)) rfl ?_
        refine sm_T_cal (d1 := 0) (Q1 := vq_17 a2_ bb_ S0_) rfl rfl (by decide) (vc_17 a2_ bb_ S0_ hI_ (by omega)) (fun u_ Sx22_ px25_ => ?_)
        obtain ⟨rfl, vx27_, rfl, px25_⟩ := px25_
        have p1_ := px25_.1
        refine sm_T_bin (w := 4 * vx27_) rfl (bi_mul (by omega) (by omega) (by omega)) ?_ -- pc_ 52
        refine sm_T_go 4 (c1 := (58, [some (.inr (.inr (some (4, ii_)))), some (.inr (.inr (some (0, bb_)))), some (.inl a2_), some (.inl a3_), some (.inl 0), some (.inl (4 * vx27_)), none, none, none, none], [.inl a2_, .inr (.inr (some (0, bb_))), .inl 4], S0_)) rfl ?_
        refine sm_T_cal (d1 := 0) (Q1 := vq_18 a2_ bb_ S0_) rfl rfl (by decide) (vc_18 a2_ bb_ S0_ hI_ (by omega)) (fun u_ Sx28_ px31_ => ?_)
        obtain ⟨rfl, vx33_, rfl, px31_⟩ := px31_
        have p2_ := px31_.1
        refine sm_T_bin (w := 4 * vx33_) rfl (bi_mul (by omega) (by omega) (by omega)) ?_ -- pc_ 61
        refine sm_T_go 6 (c1 := (71, [some (.inr (.inr (some (4, ii_)))), some (.inr (.inr (some (0, bb_)))), some (.inl a2_), some (.inl a3_), some (.inl 0), some (.inl (4 * vx27_)), some (.inl (4 * vx33_)), none, none, none], [.inl a2_, .inl (-1), .inl a2_, .inr (.inr (some (52, (0 + ii_))))], S0_)) rfl ?_
        refine sm_T_bin (w := -a2_ - 1) rfl (bi_sub (by omega) (by omega) (by omega)) ?_ -- pc_ 71
        refine sm_T_iast (n := 652) rfl rfl (by omega) (by omega) ?_
        have hIx34_ : gi (sm_aI S0_ 52 (0 + ii_) a2_.toNat (-a2_ - 1)) := gi_aI hI_ (show (-652) ≤ -a2_ - 1 ∧ -a2_ - 1 ≤ 1999 from ⟨by omega, by omega⟩)
        have hFx35_ : ai_fr (sx_W vw_85) S0_ (sm_aI S0_ 52 (0 + ii_) a2_.toNat (-a2_ - 1)) := ai_fr_tr hF_ (ai_fr_aI rfl)
        have hCx36_ : cdf ii_ S0_ (sm_aI S0_ 52 (0 + ii_) a2_.toNat (-a2_ - 1)) := cdf_aI hC_ (Or.inr (by rw [show cof 52 = 0 from rfl] <;> omega))
        refine sm_T_go 2 (c1 := (76, [some (.inr (.inr (some (4, ii_)))), some (.inr (.inr (some (0, bb_)))), some (.inl a2_), some (.inl a3_), some (.inl 0), some (.inl (4 * vx27_)), some (.inl (4 * vx33_)), some (.inl 0), none, none], [], sm_aI S0_ 52 (0 + ii_) a2_.toNat (-a2_ - 1))) rfl ?_
        refine (vl_85 a2_ a3_ ii_ bb_ S0_ h2_ h3_ hp_ _) 0 (4 * vx27_) (4 * vx33_) 0 (sm_aI S0_ 52 (0 + ii_) a2_.toNat (-a2_ - 1)) hIx34_ hFx35_ ⟨?_, ?_, ?_, trivial⟩ (Nat.lt_succ_self _)
        · omega
        · rfl
        · exact hCx36_
      · have cx21_ : ¬ ((S0_.2.2.1 17 (0 + bb_) a2_.toNat) ≠ (-1)) := of_decide_eq_false cx21_
        refine sm_T_go 2 (c1 := (45, [some (.inr (.inr (some (4, ii_)))), some (.inr (.inr (some (0, bb_)))), some (.inl a2_), some (.inl a3_), some (.inl 0), none, none, none, none, none], [], S0_)) rfl ?_
        refine sm_T_rv rfl ⟨_, _, rfl, rfl, hI_, hF_, ?_⟩
        refine ⟨hC_, ?_⟩
        omega
    · have cx19_ : ¬ ((a2_ % 4) ≠ 0) := of_decide_eq_false cx19_
      refine sm_T_go 3 (c1 := (18, [some (.inr (.inr (some (4, ii_)))), some (.inr (.inr (some (0, bb_)))), some (.inl a2_), some (.inl a3_), none, none, none, none, none, none], [.inl a2_, .inr (.inr (some (17, (0 + bb_))))], S0_)) rfl ?_
      refine sm_T_iald (n := 652) rfl rfl (by omega) (by omega) ?_
      have bx37_ : (-1) ≤ S0_.2.2.1 17 (0 + bb_) a2_.toNat ∧ S0_.2.2.1 17 (0 + bb_) a2_.toNat ≤ 161 := hI_.2 17 (0 + bb_) _
      refine sm_T_go 1 (c1 := (20, [some (.inr (.inr (some (4, ii_)))), some (.inr (.inr (some (0, bb_)))), some (.inl a2_), some (.inl a3_), none, none, none, none, none, none], [.inl (-1), .inl (S0_.2.2.1 17 (0 + bb_) a2_.toNat)], S0_)) rfl ?_
      refine sm_T_br (a := 1) (z := 7) rfl (fun cx38_ => ?_) (fun cx38_ => ?_)
      · have cx38_ : (S0_.2.2.1 17 (0 + bb_) a2_.toNat) ≠ (-1) := of_decide_eq_true cx38_
        refine sm_T_go 5 (c1 := (35, [some (.inr (.inr (some (4, ii_)))), some (.inr (.inr (some (0, bb_)))), some (.inl a2_), some (.inl a3_), some (.inl 0), none, none, none, none, none], [.inl a2_, .inr (.inr (some (17, (0 + bb_))))], S0_)) rfl ?_
        refine sm_T_iald (n := 652) rfl rfl (by omega) (by omega) ?_
        refine sm_T_go 1 (c1 := (37, [some (.inr (.inr (some (4, ii_)))), some (.inr (.inr (some (0, bb_)))), some (.inl a2_), some (.inl a3_), some (.inl 0), none, none, none, none, none], [.inl (-1), .inl (S0_.2.2.1 17 (0 + bb_) a2_.toNat)], S0_)) rfl ?_
        refine sm_T_br (a := 1) (z := 9) rfl (fun cx39_ => ?_) (fun cx39_ => ?_)
        · have cx39_ : (S0_.2.2.1 17 (0 + bb_) a2_.toNat) ≠ (-1) := of_decide_eq_true cx39_
          refine sm_T_go 3 (c1 := (49, [some (.inr (.inr (some (4, ii_)))), some (.inr (.inr (some (0, bb_)))), some (.inl a2_), some (.inl a3_), some (.inl 0), none, none, none, none, none], [.inl a2_, .inr (.inr (some (0, bb_))), .inl 4], S0_)) rfl ?_
          refine sm_T_cal (d1 := 0) (Q1 := vq_17 a2_ bb_ S0_) rfl rfl (by decide) (vc_17 a2_ bb_ S0_ hI_ (by omega)) (fun u_ Sx40_ px43_ => ?_)
          obtain ⟨rfl, vx45_, rfl, px43_⟩ := px43_
          have p1_ := px43_.1
          refine sm_T_bin (w := 4 * vx45_) rfl (bi_mul (by omega) (by omega) (by omega)) ?_ -- pc_ 52
          refine sm_T_go 4 (c1 := (58, [some (.inr (.inr (some (4, ii_)))), some (.inr (.inr (some (0, bb_)))), some (.inl a2_), some (.inl a3_), some (.inl 0), some (.inl (4 * vx45_)), none, none, none, none], [.inl a2_, .inr (.inr (some (0, bb_))), .inl 4], S0_)) rfl ?_
          refine sm_T_cal (d1 := 0) (Q1 := vq_18 a2_ bb_ S0_) rfl rfl (by decide) (vc_18 a2_ bb_ S0_ hI_ (by omega)) (fun u_ Sx46_ px49_ => ?_)
          obtain ⟨rfl, vx51_, rfl, px49_⟩ := px49_
          have p2_ := px49_.1
          refine sm_T_bin (w := 4 * vx51_) rfl (bi_mul (by omega) (by omega) (by omega)) ?_ -- pc_ 61
          refine sm_T_go 6 (c1 := (71, [some (.inr (.inr (some (4, ii_)))), some (.inr (.inr (some (0, bb_)))), some (.inl a2_), some (.inl a3_), some (.inl 0), some (.inl (4 * vx45_)), some (.inl (4 * vx51_)), none, none, none], [.inl a2_, .inl (-1), .inl a2_, .inr (.inr (some (52, (0 + ii_))))], S0_)) rfl ?_
          refine sm_T_bin (w := -a2_ - 1) rfl (bi_sub (by omega) (by omega) (by omega)) ?_ -- pc_ 71
          refine sm_T_iast (n := 652) rfl rfl (by omega) (by omega) ?_
          have hIx52_ : gi (sm_aI S0_ 52 (0 + ii_) a2_.toNat (-a2_ - 1)) := gi_aI hI_ (show (-652) ≤ -a2_ - 1 ∧ -a2_ - 1 ≤ 1999 from ⟨by omega, by omega⟩)
          have hFx53_ : ai_fr (sx_W vw_85) S0_ (sm_aI S0_ 52 (0 + ii_) a2_.toNat (-a2_ - 1)) := ai_fr_tr hF_ (ai_fr_aI rfl)
          have hCx54_ : cdf ii_ S0_ (sm_aI S0_ 52 (0 + ii_) a2_.toNat (-a2_ - 1)) := cdf_aI hC_ (Or.inr (by rw [show cof 52 = 0 from rfl] <;> omega))
          refine sm_T_go 2 (c1 := (76, [some (.inr (.inr (some (4, ii_)))), some (.inr (.inr (some (0, bb_)))), some (.inl a2_), some (.inl a3_), some (.inl 0), some (.inl (4 * vx45_)), some (.inl (4 * vx51_)), some (.inl 0), none, none], [], sm_aI S0_ 52 (0 + ii_) a2_.toNat (-a2_ - 1))) rfl ?_
          refine (vl_85 a2_ a3_ ii_ bb_ S0_ h2_ h3_ hp_ _) 0 (4 * vx45_) (4 * vx51_) 0 (sm_aI S0_ 52 (0 + ii_) a2_.toNat (-a2_ - 1)) hIx52_ hFx53_ ⟨?_, ?_, ?_, trivial⟩ (Nat.lt_succ_self _)
          · omega
          · rfl
          · exact hCx54_
        · have cx39_ : ¬ ((S0_.2.2.1 17 (0 + bb_) a2_.toNat) ≠ (-1)) := of_decide_eq_false cx39_
          refine sm_T_go 2 (c1 := (45, [some (.inr (.inr (some (4, ii_)))), some (.inr (.inr (some (0, bb_)))), some (.inl a2_), some (.inl a3_), some (.inl 0), none, none, none, none, none], [], S0_)) rfl ?_
          refine sm_T_rv rfl ⟨_, _, rfl, rfl, hI_, hF_, ?_⟩
          refine ⟨hC_, ?_⟩
          omega
      · have cx38_ : ¬ ((S0_.2.2.1 17 (0 + bb_) a2_.toNat) ≠ (-1)) := of_decide_eq_false cx38_
        refine sm_T_go 6 (c1 := (35, [some (.inr (.inr (some (4, ii_)))), some (.inr (.inr (some (0, bb_)))), some (.inl a2_), some (.inl a3_), some (.inl 1), none, none, none, none, none], [.inl a2_, .inr (.inr (some (17, (0 + bb_))))], S0_)) rfl ?_
        refine sm_T_iald (n := 652) rfl rfl (by omega) (by omega) ?_
        refine sm_T_go 1 (c1 := (37, [some (.inr (.inr (some (4, ii_)))), some (.inr (.inr (some (0, bb_)))), some (.inl a2_), some (.inl a3_), some (.inl 1), none, none, none, none, none], [.inl (-1), .inl (S0_.2.2.1 17 (0 + bb_) a2_.toNat)], S0_)) rfl ?_
        refine sm_T_br (a := 1) (z := 9) rfl (fun cx55_ => ?_) (fun cx55_ => ?_)
        · have cx55_ : (S0_.2.2.1 17 (0 + bb_) a2_.toNat) ≠ (-1) := of_decide_eq_true cx55_
          exfalso; omega
        · have cx55_ : ¬ ((S0_.2.2.1 17 (0 + bb_) a2_.toNat) ≠ (-1)) := of_decide_eq_false cx55_
          refine sm_T_go 5 (c1 := (49, [some (.inr (.inr (some (4, ii_)))), some (.inr (.inr (some (0, bb_)))), some (.inl a2_), some (.inl a3_), some (.inl 1), none, none, none, none, none], [.inl a2_, .inr (.inr (some (0, bb_))), .inl 4], S0_)) rfl ?_
          refine sm_T_cal (d1 := 0) (Q1 := vq_17 a2_ bb_ S0_) rfl rfl (by decide) (vc_17 a2_ bb_ S0_ hI_ (by omega)) (fun u_ Sx56_ px59_ => ?_)
          obtain ⟨rfl, vx61_, rfl, px59_⟩ := px59_
          have p1_ := px59_.1
          refine sm_T_bin (w := 4 * vx61_) rfl (bi_mul (by omega) (by omega) (by omega)) ?_ -- pc_ 52
          refine sm_T_go 4 (c1 := (58, [some (.inr (.inr (some (4, ii_)))), some (.inr (.inr (some (0, bb_)))), some (.inl a2_), some (.inl a3_), some (.inl 1), some (.inl (4 * vx61_)), none, none, none, none], [.inl a2_, .inr (.inr (some (0, bb_))), .inl 4], S0_)) rfl ?_
          refine sm_T_cal (d1 := 0) (Q1 := vq_18 a2_ bb_ S0_) rfl rfl (by decide) (vc_18 a2_ bb_ S0_ hI_ (by omega)) (fun u_ Sx62_ px65_ => ?_)
          obtain ⟨rfl, vx67_, rfl, px65_⟩ := px65_
          have p2_ := px65_.1
          refine sm_T_bin (w := 4 * vx67_) rfl (bi_mul (by omega) (by omega) (by omega)) ?_ -- pc_ 61
          refine sm_T_go 6 (c1 := (71, [some (.inr (.inr (some (4, ii_)))), some (.inr (.inr (some (0, bb_)))), some (.inl a2_), some (.inl a3_), some (.inl 1), some (.inl (4 * vx61_)), some (.inl (4 * vx67_)), none, none, none], [.inl a2_, .inl (-1), .inl a2_, .inr (.inr (some (52, (0 + ii_))))], S0_)) rfl ?_
          refine sm_T_bin (w := -a2_ - 1) rfl (bi_sub (by omega) (by omega) (by omega)) ?_ -- pc_ 71
          refine sm_T_iast (n := 652) rfl rfl (by omega) (by omega) ?_
          have hIx68_ : gi (sm_aI S0_ 52 (0 + ii_) a2_.toNat (-a2_ - 1)) := gi_aI hI_ (show (-652) ≤ -a2_ - 1 ∧ -a2_ - 1 ≤ 1999 from ⟨by omega, by omega⟩)
          have hFx69_ : ai_fr (sx_W vw_85) S0_ (sm_aI S0_ 52 (0 + ii_) a2_.toNat (-a2_ - 1)) := ai_fr_tr hF_ (ai_fr_aI rfl)
          have hCx70_ : cdf ii_ S0_ (sm_aI S0_ 52 (0 + ii_) a2_.toNat (-a2_ - 1)) := cdf_aI hC_ (Or.inr (by rw [show cof 52 = 0 from rfl] <;> omega))
          refine sm_T_go 2 (c1 := (76, [some (.inr (.inr (some (4, ii_)))), some (.inr (.inr (some (0, bb_)))), some (.inl a2_), some (.inl a3_), some (.inl 1), some (.inl (4 * vx61_)), some (.inl (4 * vx67_)), some (.inl 0), none, none], [], sm_aI S0_ 52 (0 + ii_) a2_.toNat (-a2_ - 1))) rfl ?_
          refine (vl_85 a2_ a3_ ii_ bb_ S0_ h2_ h3_ hp_ _) 1 (4 * vx61_) (4 * vx67_) 0 (sm_aI S0_ 52 (0 + ii_) a2_.toNat (-a2_ - 1)) hIx68_ hFx69_ ⟨?_, ?_, ?_, trivial⟩ (Nat.lt_succ_self _)
          · omega
          · rfl
          · exact hCx70_
end
/-! 99.zl4k -/
section
/-! java/util/Arrays.fill -/
def vw_4s4 : sx_Wl := ([], [54], [])
def vq_4s4 (v0_ : Int) (ii_ : Nat) (S0_ : sm_S) (u_ : Option sm_V) (S1_ : sm_S) : Prop := u_ = none ∧ gi S1_ ∧ ai_fr (sx_W vw_4s4) S0_ S1_ ∧ (cdf ii_ S0_ S1_ ∧ (True))
set_option maxHeartbeats 400000 in
theorem vl_4s4 {sc_ : Nat × (Nat → Int)} (v0_ : Int) (ii_ : Nat) (S0_ : sm_S)  : ∀ nn_ : Nat, (∀ (v0_ : Int) (k_ : Int) (S_ : sm_S), gi S_ → ai_fr (sx_W vw_4s4) S0_ S_ → ((0 ≤ k_ ∧ k_ ≤ 486) ∧ (cdf ii_ S0_ S_) ∧ True) → ((489 - k_).toNat) < nn_ → sm_T (mt_P sc_) 0 4 (6, [some (.inr (.inr (some (54, (0 + ii_))))), some (.inr (.inl v0_)), none, some (.inl k_), some (.inl 486)], [], S_) (fun ro9_ => ∃ u_ S1_, ro9_ = (.inl u_, S1_, 0) ∧ vq_4s4 v0_ ii_ S0_ u_ S1_)) := by
  intro nn_
  induction nn_ with
  | zero => exact fun _ _ _ _ _ _ h_ => absurd h_ (Nat.not_lt_zero _)
  | succ nn_ ih_ =>
    rintro v0_ k_ S_ hI_ hF_ ⟨h0_, hC_, -⟩ hm_
    refine sm_T_go 2 (c1 := (9, [some (.inr (.inr (some (54, (0 + ii_))))), some (.inr (.inl v0_)), none, some (.inl k_), some (.inl 486)], [.inl 486, .inl k_], S_)) rfl ?_
    refine sm_T_br (a := 3) (z := 13) rfl (fun cx1_ => ?_) (fun cx1_ => ?_)
    · have cx1_ : 486 ≤ k_ := of_decide_eq_true cx1_
      refine sm_T_rv rfl ⟨_, _, rfl, rfl, hI_, hF_, ?_⟩
      refine ⟨hC_, ?_⟩
      trivial
    · have cx1_ : ¬ (486 ≤ k_) := of_decide_eq_false cx1_
      refine sm_T_go 3 (c1 := (15, [some (.inr (.inr (some (54, (0 + ii_))))), some (.inr (.inl v0_)), none, some (.inl k_), some (.inl 486)], [.inr (.inl v0_), .inl k_, .inr (.inr (some (54, (0 + ii_))))], S_)) rfl ?_
      refine sm_T_last (n := 486) rfl rfl (by omega) (by omega) ?_
      have hIx2_ : gi (sm_aL S_ 54 (0 + ii_) k_.toNat v0_) := gi_aL hI_
      have hFx3_ : ai_fr (sx_W vw_4s4) S0_ (sm_aL S_ 54 (0 + ii_) k_.toNat v0_) := ai_fr_tr hF_ (ai_fr_aL rfl)
      have hCx4_ : cdf ii_ S0_ (sm_aL S_ 54 (0 + ii_) k_.toNat v0_) := cdf_aL hC_
      refine sm_T_inc (a := 3) (z := 1) (v := k_) (w := k_ + 1) rfl rfl (by omega) (by omega) (by omega) ?_ -- pc_ 16
      refine sm_T_go 1 (c1 := (6, [some (.inr (.inr (some (54, (0 + ii_))))), some (.inr (.inl v0_)), none, some (.inl (k_ + 1)), some (.inl 486)], [], sm_aL S_ 54 (0 + ii_) k_.toNat v0_)) rfl ?_
      refine ih_ v0_ (k_ + 1) (sm_aL S_ 54 (0 + ii_) k_.toNat v0_) hIx2_ hFx3_ ⟨?_, ?_, trivial⟩ ?_
      · omega
      · exact hCx4_
      · omega
set_option maxHeartbeats 400000 in
theorem vc_4s4 {sc_ : Nat × (Nat → Int)} (v0_ : Int) (ii_ : Nat) (S0_ : sm_S) (hI_ : gi S0_)  : sm_T (mt_P sc_) 0 4 (0, [some (.inr (.inr (some (54, (0 + ii_))))), some (.inr (.inl v0_)), none, none, none], [], S0_) (fun ro9_ => ∃ u_ S1_, ro9_ = (.inl u_, S1_, 0) ∧ vq_4s4 v0_ ii_ S0_ u_ S1_) := by
  have hF_ : ai_fr (sx_W vw_4s4) S0_ S0_ := ai_fr_rf
  have hC_ : cdf ii_ S0_ S0_ := cdf_rf
  refine sm_T_go 5 (c1 := (6, [some (.inr (.inr (some (54, (0 + ii_))))), some (.inr (.inl v0_)), none, some (.inl 0), some (.inl 486)], [], S0_)) rfl ?_
  refine (vl_4s4 v0_ ii_ S0_ _) v0_ 0 S0_ hI_ hF_ ⟨?_, ?_, trivial⟩ (Nat.lt_succ_self _)
  · omega
  · exact hC_
end
/-! 99.zl4l -/
section
/-! Layout.countShorts -/
def vw_86 : sx_Wl := ([(4, 4)], [54], [])
def vq_86 (ii_ : Nat) (bb_ : Nat) (S0_ : sm_S) (u_ : Option sm_V) (S1_ : sm_S) : Prop := u_ = none ∧ gi S1_ ∧ ai_fr (sx_W vw_86) S0_ S1_ ∧ (cdf ii_ S0_ S1_ ∧ (True))
set_option maxHeartbeats 400000 in
theorem vl_86 {sc_ : Nat × (Nat → Int)} (ii_ : Nat) (bb_ : Nat) (S0_ : sm_S)  : ∀ nn_ : Nat, (∀ (p_ : Int) (S_ : sm_S), gi S_ → ai_fr (sx_W vw_86) S0_ S_ → ((0 ≤ p_ ∧ p_ ≤ 652 ∧ S_.1 4 ii_ 4 = 0) ∧ (cdf ii_ S0_ S_) ∧ True) → ((10000 * (700 - p_) + 109000).toNat) < nn_ → sm_T (mt_P sc_) 1 86 (15, [some (.inr (.inr (some (4, ii_)))), some (.inr (.inr (some (0, bb_)))), some (.inl p_), none, none, none, none, none], [], S_) (fun ro9_ => ∃ u_ S1_, ro9_ = (.inl u_, S1_, 0) ∧ vq_86 ii_ bb_ S0_ u_ S1_)) ∧ (∀ (p_ : Int) (on_ : Int) (q_ : Int) (S_ : sm_S), gi S_ → ai_fr (sx_W vw_86) S0_ S_ → ((0 ≤ p_ ∧ p_ < 652 ∧ p_ < q_ ∧ q_ ≤ 652 ∧ -1 ≤ on_ ∧ on_ ≤ 161 ∧ S_.1 4 ii_ 4 = 0) ∧ (cdf ii_ S0_ S_) ∧ True) → ((10000 * (700 - p_) + 108000 - q_).toNat) < nn_ → sm_T (mt_P sc_) 1 86 (34, [some (.inr (.inr (some (4, ii_)))), some (.inr (.inr (some (0, bb_)))), some (.inl p_), some (.inl on_), some (.inl q_), none, none, none], [], S_) (fun ro9_ => ∃ u_ S1_, ro9_ = (.inl u_, S1_, 0) ∧ vq_86 ii_ bb_ S0_ u_ S1_)) ∧ (∀ (k_ : Int) (S_ : sm_S), gi S_ → ai_fr (sx_W vw_86) S0_ S_ → ((0 ≤ k_ ∧ k_ ≤ 486 ∧ 0 ≤ S_.1 4 ii_ 4 ∧ S_.1 4 ii_ 4 ≤ 127 * k_) ∧ (cdf ii_ S0_ S_) ∧ True) → ((1000 - k_).toNat) < nn_ → sm_T (mt_P sc_) 1 86 (139, [some (.inr (.inr (some (4, ii_)))), some (.inr (.inr (some (0, bb_)))), some (.inl k_), none, none, none, none, none], [], S_) (fun ro9_ => ∃ u_ S1_, ro9_ = (.inl u_, S1_, 0) ∧ vq_86 ii_ bb_ S0_ u_ S1_)) := by
  intro nn_
  induction nn_ with
  | zero => exact ⟨fun _ _ _ _ _ h_ => absurd h_ (Nat.not_lt_zero _), fun _ _ _ _ _ _ _ h_ => absurd h_ (Nat.not_lt_zero _), fun _ _ _ _ _ h_ => absurd h_ (Nat.not_lt_zero _)⟩
  | succ nn_ ih_ =>
    refine ⟨?_, ?_, ?_⟩
    · rintro p_ S_ hI_ hF_ ⟨h0_, hC_, -⟩ hm_
      refine sm_T_go 2 (c1 := (19, [some (.inr (.inr (some (4, ii_)))), some (.inr (.inr (some (0, bb_)))), some (.inl p_), none, none, none, none, none], [.inl 652, .inl p_], S_)) rfl ?_
      refine sm_T_br (a := 3) (z := 118) rfl (fun cx1_ => ?_) (fun cx1_ => ?_)
      · have cx1_ : 652 ≤ p_ := of_decide_eq_true cx1_
        refine sm_T_go 2 (c1 := (139, [some (.inr (.inr (some (4, ii_)))), some (.inr (.inr (some (0, bb_)))), some (.inl 0), none, none, none, none, none], [], S_)) rfl ?_
        refine ih_.2.2 0 S_ hI_ hF_ ⟨?_, ?_, trivial⟩ ?_
        · omega
        · exact hC_
        · omega
      · have cx1_ : ¬ (652 ≤ p_) := of_decide_eq_false cx1_
        refine sm_T_go 3 (c1 := (27, [some (.inr (.inr (some (4, ii_)))), some (.inr (.inr (some (0, bb_)))), some (.inl p_), none, none, none, none, none], [.inl p_, .inr (.inr (some (17, (0 + bb_))))], S_)) rfl ?_
        refine sm_T_iald (n := 652) rfl rfl (by omega) (by omega) ?_
        have bx2_ : (-1) ≤ S_.2.2.1 17 (0 + bb_) p_.toNat ∧ S_.2.2.1 17 (0 + bb_) p_.toNat ≤ 161 := hI_.2 17 (0 + bb_) _
        refine sm_T_go 3 (c1 := (31, [some (.inr (.inr (some (4, ii_)))), some (.inr (.inr (some (0, bb_)))), some (.inl p_), some (.inl (S_.2.2.1 17 (0 + bb_) p_.toNat)), none, none, none, none], [.inl 1, .inl p_], S_)) rfl ?_
        refine sm_T_bin (w := p_ + 1) rfl (bi_add (by omega) (by omega) (by omega)) ?_ -- pc_ 31
        refine sm_T_go 1 (c1 := (34, [some (.inr (.inr (some (4, ii_)))), some (.inr (.inr (some (0, bb_)))), some (.inl p_), some (.inl (S_.2.2.1 17 (0 + bb_) p_.toNat)), some (.inl (p_ + 1)), none, none, none], [], S_)) rfl ?_
        refine ih_.2.1 p_ (S_.2.2.1 17 (0 + bb_) p_.toNat) (p_ + 1) S_ hI_ hF_ ⟨?_, ?_, trivial⟩ ?_
        · omega
        · exact hC_
        · omega
    · rintro p_ on_ q_ S_ hI_ hF_ ⟨h0_, hC_, -⟩ hm_
      refine sm_T_go 2 (c1 := (36, [some (.inr (.inr (some (4, ii_)))), some (.inr (.inr (some (0, bb_)))), some (.inl p_), some (.inl on_), some (.inl q_), none, none, none], [.inl (-1), .inl on_], S_)) rfl ?_
      refine sm_T_br (a := 0) (z := 95) rfl (fun cx1_ => ?_) (fun cx1_ => ?_)
      · have cx1_ : on_ = (-1) := of_decide_eq_true cx1_
        refine sm_T_inc (a := 2) (z := 1) (v := p_) (w := p_ + 1) rfl rfl (by omega) (by omega) (by omega) ?_ -- pc_ 131
        refine sm_T_go 1 (c1 := (15, [some (.inr (.inr (some (4, ii_)))), some (.inr (.inr (some (0, bb_)))), some (.inl (p_ + 1)), some (.inl on_), some (.inl q_), none, none, none], [], S_)) rfl ?_
        refine sm_T_wk [some (.inr (.inr (some (4, ii_)))), some (.inr (.inr (some (0, bb_)))), some (.inl (p_ + 1)), none, none, none, none, none] (by exact ⟨rfl, rfl, rfl, trivial⟩) ?_
        refine ih_.1 (p_ + 1) S_ hI_ hF_ ⟨?_, ?_, trivial⟩ ?_
        · omega
        · exact hC_
        · omega
      · have cx1_ : ¬ (on_ = (-1)) := of_decide_eq_false cx1_
        refine sm_T_go 2 (c1 := (44, [some (.inr (.inr (some (4, ii_)))), some (.inr (.inr (some (0, bb_)))), some (.inl p_), some (.inl on_), some (.inl q_), none, none, none], [.inl 652, .inl q_], S_)) rfl ?_
        refine sm_T_br (a := 3) (z := 87) rfl (fun cx2_ => ?_) (fun cx2_ => ?_)
        · have cx2_ : 652 ≤ q_ := of_decide_eq_true cx2_
          refine sm_T_inc (a := 2) (z := 1) (v := p_) (w := p_ + 1) rfl rfl (by omega) (by omega) (by omega) ?_ -- pc_ 131
          refine sm_T_go 1 (c1 := (15, [some (.inr (.inr (some (4, ii_)))), some (.inr (.inr (some (0, bb_)))), some (.inl (p_ + 1)), some (.inl on_), some (.inl q_), none, none, none], [], S_)) rfl ?_
          refine sm_T_wk [some (.inr (.inr (some (4, ii_)))), some (.inr (.inr (some (0, bb_)))), some (.inl (p_ + 1)), none, none, none, none, none] (by exact ⟨rfl, rfl, rfl, trivial⟩) ?_
          refine ih_.1 (p_ + 1) S_ hI_ hF_ ⟨?_, ?_, trivial⟩ ?_
          · omega
          · exact hC_
          · omega
        · have cx2_ : ¬ (652 ≤ q_) := of_decide_eq_false cx2_
          refine sm_T_go 3 (c1 := (53, [some (.inr (.inr (some (4, ii_)))), some (.inr (.inr (some (0, bb_)))), some (.inl p_), some (.inl on_), some (.inl q_), none, none, none], [.inl q_, .inr (.inr (some (17, (0 + bb_))))], S_)) rfl ?_
          refine sm_T_iald (n := 652) rfl rfl (by omega) (by omega) ?_
          have bx3_ : (-1) ≤ S_.2.2.1 17 (0 + bb_) q_.toNat ∧ S_.2.2.1 17 (0 + bb_) q_.toNat ≤ 161 := hI_.2 17 (0 + bb_) _
          refine sm_T_go 3 (c1 := (59, [some (.inr (.inr (some (4, ii_)))), some (.inr (.inr (some (0, bb_)))), some (.inl p_), some (.inl on_), some (.inl q_), some (.inl (S_.2.2.1 17 (0 + bb_) q_.toNat)), none, none], [.inl (-1), .inl (S_.2.2.1 17 (0 + bb_) q_.toNat)], S_)) rfl ?_
          refine sm_T_br (a := 0) (z := 66) rfl (fun cx4_ => ?_) (fun cx4_ => ?_)
          · have cx4_ : (S_.2.2.1 17 (0 + bb_) q_.toNat) = (-1) := of_decide_eq_true cx4_
            refine sm_T_inc (a := 4) (z := 1) (v := q_) (w := q_ + 1) rfl rfl (by omega) (by omega) (by omega) ?_ -- pc_ 125
            refine sm_T_go 1 (c1 := (34, [some (.inr (.inr (some (4, ii_)))), some (.inr (.inr (some (0, bb_)))), some (.inl p_), some (.inl on_), some (.inl (q_ + 1)), some (.inl (S_.2.2.1 17 (0 + bb_) q_.toNat)), none, none], [], S_)) rfl ?_
            refine sm_T_wk [some (.inr (.inr (some (4, ii_)))), some (.inr (.inr (some (0, bb_)))), some (.inl p_), some (.inl on_), some (.inl (q_ + 1)), none, none, none] (by exact ⟨rfl, rfl, rfl, rfl, rfl, trivial⟩) ?_
            refine ih_.2.1 p_ on_ (q_ + 1) S_ hI_ hF_ ⟨?_, ?_, trivial⟩ ?_
            · ((try simp only [rd_lf, rd_fl, rf_eq, rf_nk, rf_nt, rd_fa, rd_af, ne_eq, Nat.reduceEqDiff, not_false_eq_true]); omega)
            · exact hC_
            · omega
          · have cx4_ : ¬ ((S_.2.2.1 17 (0 + bb_) q_.toNat) = (-1)) := of_decide_eq_false cx4_
            refine sm_T_go 2 (c1 := (65, [some (.inr (.inr (some (4, ii_)))), some (.inr (.inr (some (0, bb_)))), some (.inl p_), some (.inl on_), some (.inl q_), some (.inl (S_.2.2.1 17 (0 + bb_) q_.toNat)), none, none], [.inl (S_.2.2.1 17 (0 + bb_) q_.toNat), .inl on_], S_)) rfl ?_
            refine sm_T_br (a := 0) (z := 60) rfl (fun cx5_ => ?_) (fun cx5_ => ?_)
            · have cx5_ : on_ = (S_.2.2.1 17 (0 + bb_) q_.toNat) := of_decide_eq_true cx5_
              refine sm_T_inc (a := 4) (z := 1) (v := q_) (w := q_ + 1) rfl rfl (by omega) (by omega) (by omega) ?_ -- pc_ 125
              refine sm_T_go 1 (c1 := (34, [some (.inr (.inr (some (4, ii_)))), some (.inr (.inr (some (0, bb_)))), some (.inl p_), some (.inl on_), some (.inl (q_ + 1)), some (.inl (S_.2.2.1 17 (0 + bb_) q_.toNat)), none, none], [], S_)) rfl ?_
              refine sm_T_wk [some (.inr (.inr (some (4, ii_)))), some (.inr (.inr (some (0, bb_)))), some (.inl p_), some (.inl on_), some (.inl (q_ + 1)), none, none, none] (by exact ⟨rfl, rfl, rfl, rfl, rfl, trivial⟩) ?_
              refine ih_.2.1 p_ on_ (q_ + 1) S_ hI_ hF_ ⟨?_, ?_, trivial⟩ ?_
              · ((try simp only [rd_lf, rd_fl, rf_eq, rf_nk, rf_nt, rd_fa, rd_af, ne_eq, Nat.reduceEqDiff, not_false_eq_true]); omega)
              · exact hC_
              · omega
            · have cx5_ : ¬ (on_ = (S_.2.2.1 17 (0 + bb_) q_.toNat)) := of_decide_eq_false cx5_
              refine sm_T_go 3 (c1 := (73, [some (.inr (.inr (some (4, ii_)))), some (.inr (.inr (some (0, bb_)))), some (.inl p_), some (.inl on_), some (.inl q_), some (.inl (S_.2.2.1 17 (0 + bb_) q_.toNat)), none, none], [.inl p_, .inr (.inr (some (52, (0 + ii_))))], S_)) rfl ?_
              refine sm_T_iald (n := 652) rfl rfl (by omega) (by omega) ?_
              have bx6_ : (-652) ≤ S_.2.2.1 52 (0 + ii_) p_.toNat ∧ S_.2.2.1 52 (0 + ii_) p_.toNat ≤ 1999 := hI_.2 52 (0 + ii_) _
              refine sm_T_go 3 (c1 := (80, [some (.inr (.inr (some (4, ii_)))), some (.inr (.inr (some (0, bb_)))), some (.inl p_), some (.inl on_), some (.inl q_), some (.inl (S_.2.2.1 17 (0 + bb_) q_.toNat)), none, none], [.inl q_, .inr (.inr (some (52, (0 + ii_)))), .inl (S_.2.2.1 52 (0 + ii_) p_.toNat)], S_)) rfl ?_
              refine sm_T_iald (n := 652) rfl rfl (by omega) (by omega) ?_
              have bx7_ : (-652) ≤ S_.2.2.1 52 (0 + ii_) q_.toNat ∧ S_.2.2.1 52 (0 + ii_) q_.toNat ≤ 1999 := hI_.2 52 (0 + ii_) _
              refine sm_T_br (a := 1) (z := 44) rfl (fun cx8_ => ?_) (fun cx8_ => ?_)
              · have cx8_ : (S_.2.2.1 52 (0 + ii_) p_.toNat) ≠ (S_.2.2.1 52 (0 + ii_) q_.toNat) := of_decide_eq_true cx8_
                refine sm_T_inc (a := 4) (z := 1) (v := q_) (w := q_ + 1) rfl rfl (by omega) (by omega) (by omega) ?_ -- pc_ 125
                refine sm_T_go 1 (c1 := (34, [some (.inr (.inr (some (4, ii_)))), some (.inr (.inr (some (0, bb_)))), some (.inl p_), some (.inl on_), some (.inl (q_ + 1)), some (.inl (S_.2.2.1 17 (0 + bb_) q_.toNat)), none, none], [], S_)) rfl ?_
                refine sm_T_wk [some (.inr (.inr (some (4, ii_)))), some (.inr (.inr (some (0, bb_)))), some (.inl p_), some (.inl on_), some (.inl (q_ + 1)), none, none, none] (by exact ⟨rfl, rfl, rfl, rfl, rfl, trivial⟩) ?_
                refine ih_.2.1 p_ on_ (q_ + 1) S_ hI_ hF_ ⟨?_, ?_, trivial⟩ ?_
                · ((try simp only [rd_lf, rd_fl, rf_eq, rf_nk, rf_nt, rd_fa, rd_af, ne_eq, Nat.reduceEqDiff, not_false_eq_true]); omega)
                · exact hC_
                · omega
              · have cx8_ : ¬ ((S_.2.2.1 52 (0 + ii_) p_.toNat) ≠ (S_.2.2.1 52 (0 + ii_) q_.toNat)) := of_decide_eq_false cx8_
                refine sm_T_go 2 (c1 := (87, [some (.inr (.inr (some (4, ii_)))), some (.inr (.inr (some (0, bb_)))), some (.inl p_), some (.inl on_), some (.inl q_), some (.inl (S_.2.2.1 17 (0 + bb_) q_.toNat)), none, none], [.inl (S_.2.2.1 17 (0 + bb_) q_.toNat), .inl on_], S_)) rfl ?_
                refine sm_T_nt (u := some (.inl (sm_mn on_ (S_.2.2.1 17 (0 + bb_) q_.toNat)))) (S1 := S_) rfl rfl rfl ?_
                have bx9_ := sm_mn_d on_ (S_.2.2.1 17 (0 + bb_) q_.toNat)
                refine sm_T_go 3 (c1 := (95, [some (.inr (.inr (some (4, ii_)))), some (.inr (.inr (some (0, bb_)))), some (.inl p_), some (.inl on_), some (.inl q_), some (.inl (S_.2.2.1 17 (0 + bb_) q_.toNat)), some (.inl (sm_mn on_ (S_.2.2.1 17 (0 + bb_) q_.toNat))), none], [.inl (S_.2.2.1 17 (0 + bb_) q_.toNat), .inl on_], S_)) rfl ?_
                refine sm_T_nt (u := some (.inl (sm_mx on_ (S_.2.2.1 17 (0 + bb_) q_.toNat)))) (S1 := S_) rfl rfl rfl ?_
                have bx10_ := sm_mx_d on_ (S_.2.2.1 17 (0 + bb_) q_.toNat)
                refine sm_T_go 5 (c1 := (107, [some (.inr (.inr (some (4, ii_)))), some (.inr (.inr (some (0, bb_)))), some (.inl p_), some (.inl on_), some (.inl q_), some (.inl (S_.2.2.1 17 (0 + bb_) q_.toNat)), some (.inl (sm_mn on_ (S_.2.2.1 17 (0 + bb_) q_.toNat))), some (.inl (sm_mx on_ (S_.2.2.1 17 (0 + bb_) q_.toNat)))], [.inl 3, .inl (sm_mn on_ (S_.2.2.1 17 (0 + bb_) q_.toNat)), .inr (.inr (some (54, (0 + ii_))))], S_)) rfl ?_
                refine sm_T_bin (w := 3 * (sm_mn on_ (S_.2.2.1 17 (0 + bb_) q_.toNat))) rfl (bi_mul (by omega) (by omega) (by omega)) ?_ -- pc_ 107
                refine sm_T_go 2 (c1 := (112, [some (.inr (.inr (some (4, ii_)))), some (.inr (.inr (some (0, bb_)))), some (.inl p_), some (.inl on_), some (.inl q_), some (.inl (S_.2.2.1 17 (0 + bb_) q_.toNat)), some (.inl (sm_mn on_ (S_.2.2.1 17 (0 + bb_) q_.toNat))), some (.inl (sm_mx on_ (S_.2.2.1 17 (0 + bb_) q_.toNat)))], [.inl 6, .inl (sm_mx on_ (S_.2.2.1 17 (0 + bb_) q_.toNat)), .inl (3 * (sm_mn on_ (S_.2.2.1 17 (0 + bb_) q_.toNat))), .inr (.inr (some (54, (0 + ii_))))], S_)) rfl ?_
                refine sm_T_bin (w := ((sm_mx on_ (S_.2.2.1 17 (0 + bb_) q_.toNat)) / 64)) rfl (bi_shr (k := 6) (by decide) (by omega) (by omega)) ?_ -- pc_ 112
                refine sm_T_bin (w := 3 * (sm_mn on_ (S_.2.2.1 17 (0 + bb_) q_.toNat)) + ((sm_mx on_ (S_.2.2.1 17 (0 + bb_) q_.toNat)) / 64)) rfl (bi_add (by omega) (by omega) (by omega)) ?_ -- pc_ 113
                refine sm_T_go 1 (c1 := (115, [some (.inr (.inr (some (4, ii_)))), some (.inr (.inr (some (0, bb_)))), some (.inl p_), some (.inl on_), some (.inl q_), some (.inl (S_.2.2.1 17 (0 + bb_) q_.toNat)), some (.inl (sm_mn on_ (S_.2.2.1 17 (0 + bb_) q_.toNat))), some (.inl (sm_mx on_ (S_.2.2.1 17 (0 + bb_) q_.toNat)))], [.inl (3 * (sm_mn on_ (S_.2.2.1 17 (0 + bb_) q_.toNat)) + ((sm_mx on_ (S_.2.2.1 17 (0 + bb_) q_.toNat)) / 64)), .inr (.inr (some (54, (0 + ii_)))), .inl (3 * (sm_mn on_ (S_.2.2.1 17 (0 + bb_) q_.toNat)) + ((sm_mx on_ (S_.2.2.1 17 (0 + bb_) q_.toNat)) / 64)), .inr (.inr (some (54, (0 + ii_))))], S_)) rfl ?_
                refine sm_T_lald (n := 486) rfl rfl (by omega) (by omega) ?_
                refine sm_T_go 3 (c1 := (121, [some (.inr (.inr (some (4, ii_)))), some (.inr (.inr (some (0, bb_)))), some (.inl p_), some (.inl on_), some (.inl q_), some (.inl (S_.2.2.1 17 (0 + bb_) q_.toNat)), some (.inl (sm_mn on_ (S_.2.2.1 17 (0 + bb_) q_.toNat))), some (.inl (sm_mx on_ (S_.2.2.1 17 (0 + bb_) q_.toNat)))], [.inl 63, .inl (sm_mx on_ (S_.2.2.1 17 (0 + bb_) q_.toNat)), .inr (.inl 1), .inr (.inl (S_.2.2.2 54 (0 + ii_) (3 * (sm_mn on_ (S_.2.2.1 17 (0 + bb_) q_.toNat)) + ((sm_mx on_ (S_.2.2.1 17 (0 + bb_) q_.toNat)) / 64)).toNat)), .inl (3 * (sm_mn on_ (S_.2.2.1 17 (0 + bb_) q_.toNat)) + ((sm_mx on_ (S_.2.2.1 17 (0 + bb_) q_.toNat)) / 64)), .inr (.inr (some (54, (0 + ii_))))], S_)) rfl ?_
                refine sm_T_bin (w := ((sm_mx on_ (S_.2.2.1 17 (0 + bb_) q_.toNat)) % 64)) rfl (bi_msk (k := 6) (by decide)) ?_ -- pc_ 121
                refine sm_T_go 2 (c1 := (124, [some (.inr (.inr (some (4, ii_)))), some (.inr (.inr (some (0, bb_)))), some (.inl p_), some (.inl on_), some (.inl q_), some (.inl (S_.2.2.1 17 (0 + bb_) q_.toNat)), some (.inl (sm_mn on_ (S_.2.2.1 17 (0 + bb_) q_.toNat))), some (.inl (sm_mx on_ (S_.2.2.1 17 (0 + bb_) q_.toNat)))], [.inr (.inl (l_4 ((S_.2.2.2 54 (0 + ii_) (3 * (sm_mn on_ (S_.2.2.1 17 (0 + bb_) q_.toNat)) + ((sm_mx on_ (S_.2.2.1 17 (0 + bb_) q_.toNat)) / 64)).toNat)) ((l_s0 1 ((sm_mx on_ (S_.2.2.1 17 (0 + bb_) q_.toNat)) % 64))))), .inl (3 * (sm_mn on_ (S_.2.2.1 17 (0 + bb_) q_.toNat)) + ((sm_mx on_ (S_.2.2.1 17 (0 + bb_) q_.toNat)) / 64)), .inr (.inr (some (54, (0 + ii_))))], S_)) rfl ?_
                refine sm_T_last (n := 486) rfl rfl (by omega) (by omega) ?_
                have hIx11_ : gi (sm_aL S_ 54 (0 + ii_) (3 * (sm_mn on_ (S_.2.2.1 17 (0 + bb_) q_.toNat)) + ((sm_mx on_ (S_.2.2.1 17 (0 + bb_) q_.toNat)) / 64)).toNat ((l_4 ((S_.2.2.2 54 (0 + ii_) (3 * (sm_mn on_ (S_.2.2.1 17 (0 + bb_) q_.toNat)) + ((sm_mx on_ (S_.2.2.1 17 (0 + bb_) q_.toNat)) / 64)).toNat)) ((l_s0 1 ((sm_mx on_ (S_.2.2.1 17 (0 + bb_) q_.toNat)) % 64)))))) := gi_aL hI_
                have hFx12_ : ai_fr (sx_W vw_86) S0_ (sm_aL S_ 54 (0 + ii_) (3 * (sm_mn on_ (S_.2.2.1 17 (0 + bb_) q_.toNat)) + ((sm_mx on_ (S_.2.2.1 17 (0 + bb_) q_.toNat)) / 64)).toNat ((l_4 ((S_.2.2.2 54 (0 + ii_) (3 * (sm_mn on_ (S_.2.2.1 17 (0 + bb_) q_.toNat)) + ((sm_mx on_ (S_.2.2.1 17 (0 + bb_) q_.toNat)) / 64)).toNat)) ((l_s0 1 ((sm_mx on_ (S_.2.2.1 17 (0 + bb_) q_.toNat)) % 64)))))) := ai_fr_tr hF_ (ai_fr_aL rfl)
                have hCx13_ : cdf ii_ S0_ (sm_aL S_ 54 (0 + ii_) (3 * (sm_mn on_ (S_.2.2.1 17 (0 + bb_) q_.toNat)) + ((sm_mx on_ (S_.2.2.1 17 (0 + bb_) q_.toNat)) / 64)).toNat ((l_4 ((S_.2.2.2 54 (0 + ii_) (3 * (sm_mn on_ (S_.2.2.1 17 (0 + bb_) q_.toNat)) + ((sm_mx on_ (S_.2.2.1 17 (0 + bb_) q_.toNat)) / 64)).toNat)) ((l_s0 1 ((sm_mx on_ (S_.2.2.1 17 (0 + bb_) q_.toNat)) % 64)))))) := cdf_aL hC_
                refine sm_T_inc (a := 4) (z := 1) (v := q_) (w := q_ + 1) rfl rfl (by omega) (by omega) (by omega) ?_ -- pc_ 125
                refine sm_T_go 1 (c1 := (34, [some (.inr (.inr (some (4, ii_)))), some (.inr (.inr (some (0, bb_)))), some (.inl p_), some (.inl on_), some (.inl (q_ + 1)), some (.inl (S_.2.2.1 17 (0 + bb_) q_.toNat)), some (.inl (sm_mn on_ (S_.2.2.1 17 (0 + bb_) q_.toNat))), some (.inl (sm_mx on_ (S_.2.2.1 17 (0 + bb_) q_.toNat)))], [], sm_aL S_ 54 (0 + ii_) (3 * (sm_mn on_ (S_.2.2.1 17 (0 + bb_) q_.toNat)) + ((sm_mx on_ (S_.2.2.1 17 (0 + bb_) q_.toNat)) / 64)).toNat ((l_4 ((S_.2.2.2 54 (0 + ii_) (3 * (sm_mn on_ (S_.2.2.1 17 (0 + bb_) q_.toNat)) + ((sm_mx on_ (S_.2.2.1 17 (0 + bb_) q_.toNat)) / 64)).toNat)) ((l_s0 1 ((sm_mx on_ (S_.2.2.1 17 (0 + bb_) q_.toNat)) % 64))))))) rfl ?_
                refine sm_T_wk [some (.inr (.inr (some (4, ii_)))), some (.inr (.inr (some (0, bb_)))), some (.inl p_), some (.inl on_), some (.inl (q_ + 1)), none, none, none] (by exact ⟨rfl, rfl, rfl, rfl, rfl, trivial⟩) ?_
                refine ih_.2.1 p_ on_ (q_ + 1) (sm_aL S_ 54 (0 + ii_) (3 * (sm_mn on_ (S_.2.2.1 17 (0 + bb_) q_.toNat)) + ((sm_mx on_ (S_.2.2.1 17 (0 + bb_) q_.toNat)) / 64)).toNat ((l_4 ((S_.2.2.2 54 (0 + ii_) (3 * (sm_mn on_ (S_.2.2.1 17 (0 + bb_) q_.toNat)) + ((sm_mx on_ (S_.2.2.1 17 (0 + bb_) q_.toNat)) / 64)).toNat)) ((l_s0 1 ((sm_mx on_ (S_.2.2.1 17 (0 + bb_) q_.toNat)) % 64)))))) hIx11_ hFx12_ ⟨?_, ?_, trivial⟩ ?_
                · ((try simp only [rd_lf, rd_fl, rf_eq, rf_nk, rf_nt, rd_fa, rd_af, ne_eq, Nat.reduceEqDiff, not_false_eq_true]); omega)
                · exact hCx13_
                · omega
    · rintro k_ S_ hI_ hF_ ⟨h0_, hC_, -⟩ hm_
      refine sm_T_go 4 (c1 := (145, [some (.inr (.inr (some (4, ii_)))), some (.inr (.inr (some (0, bb_)))), some (.inl k_), none, none, none, none, none], [.inl 486, .inl k_], S_)) rfl ?_
      refine sm_T_br (a := 3) (z := 27) rfl (fun cx1_ => ?_) (fun cx1_ => ?_)
      · have cx1_ : 486 ≤ k_ := of_decide_eq_true cx1_
        refine sm_T_rv rfl ⟨_, _, rfl, rfl, hI_, hF_, ?_⟩
        refine ⟨hC_, ?_⟩
        trivial
      · have cx1_ : ¬ (486 ≤ k_) := of_decide_eq_false cx1_
        have bx2_ : 0 ≤ S_.1 4 ii_ 4 ∧ S_.1 4 ii_ 4 ≤ 1073741823 := hI_.1 4 ii_ 4 rfl
        refine sm_T_go 6 (c1 := (158, [some (.inr (.inr (some (4, ii_)))), some (.inr (.inr (some (0, bb_)))), some (.inl k_), none, none, none, none, none], [.inl k_, .inr (.inr (some (54, (0 + ii_)))), .inl (S_.1 4 ii_ 4), .inr (.inr (some (4, ii_)))], S_)) rfl ?_
        refine sm_T_lald (n := 486) rfl rfl (by omega) (by omega) ?_
        refine sm_T_cal (d1 := 0) (Q1 := vq_8 ((S_.2.2.2 54 (0 + ii_) k_.toNat)) S_) rfl rfl (by decide) (vc_8 ((S_.2.2.2 54 (0 + ii_) k_.toNat)) S_ hI_ ) (fun u_ Sx3_ px6_ => ?_)
        obtain ⟨rfl, vx8_, rfl, px6_⟩ := px6_
        have b9_ := px6_
        refine sm_T_bin (w := (S_.1 4 ii_ 4) + vx8_) rfl (bi_add (by omega) (by omega) (by omega)) ?_ -- pc_ 162
        have hIx9_ : gi (sm_pI S_ 4 ii_ 4 ((S_.1 4 ii_ 4) + vx8_)) := gi_pI hI_ (show 0 ≤ (S_.1 4 ii_ 4) + vx8_ ∧ (S_.1 4 ii_ 4) + vx8_ ≤ 1073741823 from ⟨by omega, by omega⟩)
        have hFx10_ : ai_fr (sx_W vw_86) S0_ (sm_pI S_ 4 ii_ 4 ((S_.1 4 ii_ 4) + vx8_)) := ai_fr_tr hF_ (ai_fr_pI rfl)
        have hCx11_ : cdf ii_ S0_ (sm_pI S_ 4 ii_ 4 ((S_.1 4 ii_ 4) + vx8_)) := cdf_pI hC_ (Or.inr (by rw [show cof 4 = 0 from rfl] <;> omega))
        refine sm_T_go 1 (c1 := (166, [some (.inr (.inr (some (4, ii_)))), some (.inr (.inr (some (0, bb_)))), some (.inl k_), none, none, none, none, none], [], sm_pI S_ 4 ii_ 4 ((S_.1 4 ii_ 4) + vx8_))) rfl ?_
        refine sm_T_inc (a := 2) (z := 1) (v := k_) (w := k_ + 1) rfl rfl (by omega) (by omega) (by omega) ?_ -- pc_ 166
        refine sm_T_go 1 (c1 := (139, [some (.inr (.inr (some (4, ii_)))), some (.inr (.inr (some (0, bb_)))), some (.inl (k_ + 1)), none, none, none, none, none], [], sm_pI S_ 4 ii_ 4 ((S_.1 4 ii_ 4) + vx8_))) rfl ?_
        refine ih_.2.2 (k_ + 1) (sm_pI S_ 4 ii_ 4 ((S_.1 4 ii_ 4) + vx8_)) hIx9_ hFx10_ ⟨?_, ?_, trivial⟩ ?_
        · ((try simp only [rd_lf, rd_fl, rf_eq, rf_nk, rf_nt, rd_fa, rd_af, ne_eq, Nat.reduceEqDiff, not_false_eq_true]); omega)
        · exact hCx11_
        · omega
set_option maxHeartbeats 400000 in
theorem vc_86 {sc_ : Nat × (Nat → Int)} (ii_ : Nat) (bb_ : Nat) (S0_ : sm_S) (hI_ : gi S0_)  : sm_T (mt_P sc_) 1 86 (0, [some (.inr (.inr (some (4, ii_)))), some (.inr (.inr (some (0, bb_)))), none, none, none, none, none, none], [], S0_) (fun ro9_ => ∃ u_ S1_, ro9_ = (.inl u_, S1_, 0) ∧ vq_86 ii_ bb_ S0_ u_ S1_) := by
  have hF_ : ai_fr (sx_W vw_86) S0_ S0_ := ai_fr_rf
  have hC_ : cdf ii_ S0_ S0_ := cdf_rf
  have hIx1_ : gi (sm_pI S0_ 4 ii_ 4 0) := gi_pI hI_ (show 0 ≤ 0 ∧ 0 ≤ 1073741823 from ⟨by omega, by omega⟩)
  have hFx2_ : ai_fr (sx_W vw_86) S0_ (sm_pI S0_ 4 ii_ 4 0) := ai_fr_tr hF_ (ai_fr_pI rfl)
  have hCx3_ : cdf ii_ S0_ (sm_pI S0_ 4 ii_ 4 0) := cdf_pI hC_ (Or.inr (by rw [show cof 4 = 0 from rfl] <;> omega))
  refine sm_T_go 6 (c1 := (10, [some (.inr (.inr (some (4, ii_)))), some (.inr (.inr (some (0, bb_)))), none, none, none, none, none, none], [.inr (.inl 0), .inr (.inr (some (54, (0 + ii_))))], sm_pI S0_ 4 ii_ 4 0)) rfl ?_
  refine sm_T_cal (d1 := 0) (Q1 := vq_4s4 0 ii_ (sm_pI S0_ 4 ii_ 4 0)) rfl rfl (by decide) (vc_4s4 0 ii_ (sm_pI S0_ 4 ii_ 4 0) hIx1_ ) (fun u_ Sx4_ px7_ => ?_)
  obtain ⟨rfl, hIx5_, hFx6_, px7_⟩ := px7_
  have hFx8_ : ai_fr (sx_W vw_86) S0_ Sx4_ := ai_fr_tr hFx2_ (fr_le hFx6_ rfl)
  obtain ⟨dx10_, px7_⟩ := px7_
  have hCx9_ : cdf ii_ S0_ Sx4_ := cdf_tr hCx3_ (cdf_cg (by omega) dx10_)
  have f4_ := hFx6_.1 4 ii_ 4 rfl
  rw [rf_eq] at f4_
  refine sm_T_go 2 (c1 := (15, [some (.inr (.inr (some (4, ii_)))), some (.inr (.inr (some (0, bb_)))), some (.inl 0), none, none, none, none, none], [], Sx4_)) rfl ?_
  refine (vl_86 ii_ bb_ S0_ _).1 0 Sx4_ hIx5_ hFx8_ ⟨?_, ?_, trivial⟩ (Nat.lt_succ_self _)
  · omega
  · exact hCx9_
end
/-! 99.zl4m -/
section
/-! Layout.countOpens -/
def vw_87 : sx_Wl := ([(4, 5)], [], [])
def vq_87 (ii_ : Nat) (bb_ : Nat) (S0_ : sm_S) (u_ : Option sm_V) (S1_ : sm_S) : Prop := u_ = none ∧ gi S1_ ∧ ai_fr (sx_W vw_87) S0_ S1_ ∧ (cdf ii_ S0_ S1_ ∧ (True))
set_option maxHeartbeats 400000 in
theorem vl_87 {sc_ : Nat × (Nat → Int)} (ii_ : Nat) (bb_ : Nat) (S0_ : sm_S) (hb_ : bpn bb_ S0_) : ∀ nn_ : Nat, (∀ (n_ : Int) (S_ : sm_S), gi S_ → ai_fr (sx_W vw_87) S0_ S_ → ((0 ≤ n_ ∧ n_ ≤ 162 ∧ 0 ≤ S_.1 4 ii_ 5 ∧ S_.1 4 ii_ 5 ≤ n_) ∧ (cdf ii_ S0_ S_) ∧ True) → ((10000 * (700 - n_) + 9000).toNat) < nn_ → sm_T (mt_P sc_) 1 87 (7, [some (.inr (.inr (some (4, ii_)))), some (.inr (.inr (some (0, bb_)))), some (.inl n_), none, none], [], S_) (fun ro9_ => ∃ u_ S1_, ro9_ = (.inl u_, S1_, 0) ∧ vq_87 ii_ bb_ S0_ u_ S1_)) ∧ (∀ (n_ : Int) (ap_ : Int) (k_ : Int) (S_ : sm_S), gi S_ → ai_fr (sx_W vw_87) S0_ S_ → ((0 ≤ n_ ∧ n_ < 162 ∧ 0 ≤ ap_ ∧ ap_ ≤ 1 ∧ 1 ≤ k_ ∧ k_ ≤ 652 ∧ 0 ≤ S_.1 4 ii_ 5 ∧ S_.1 4 ii_ 5 ≤ n_) ∧ (cdf ii_ S0_ S_) ∧ True) → ((10000 * (700 - n_) + 8000 - k_).toNat) < nn_ → sm_T (mt_P sc_) 1 87 (19, [some (.inr (.inr (some (4, ii_)))), some (.inr (.inr (some (0, bb_)))), some (.inl n_), some (.inl ap_), some (.inl k_)], [], S_) (fun ro9_ => ∃ u_ S1_, ro9_ = (.inl u_, S1_, 0) ∧ vq_87 ii_ bb_ S0_ u_ S1_)) := by
  intro nn_
  induction nn_ with
  | zero => exact ⟨fun _ _ _ _ _ h_ => absurd h_ (Nat.not_lt_zero _), fun _ _ _ _ _ _ _ h_ => absurd h_ (Nat.not_lt_zero _)⟩
  | succ nn_ ih_ =>
    refine ⟨?_, ?_⟩
    · rintro n_ S_ hI_ hF_ ⟨h0_, hC_, -⟩ hm_
      refine sm_T_go 2 (c1 := (11, [some (.inr (.inr (some (4, ii_)))), some (.inr (.inr (some (0, bb_)))), some (.inl n_), none, none], [.inl 162, .inl n_], S_)) rfl ?_
      refine sm_T_br (a := 3) (z := 69) rfl (fun cx1_ => ?_) (fun cx1_ => ?_)
      · have cx1_ : 162 ≤ n_ := of_decide_eq_true cx1_
        refine sm_T_rv rfl ⟨_, _, rfl, rfl, hI_, hF_, ?_⟩
        refine ⟨hC_, ?_⟩
        trivial
      · have cx1_ : ¬ (162 ≤ n_) := of_decide_eq_false cx1_
        refine sm_T_go 4 (c1 := (19, [some (.inr (.inr (some (4, ii_)))), some (.inr (.inr (some (0, bb_)))), some (.inl n_), some (.inl 0), some (.inl 1)], [], S_)) rfl ?_
        refine ih_.2 n_ 0 1 S_ hI_ hF_ ⟨?_, ?_, trivial⟩ ?_
        · omega
        · exact hC_
        · omega
    · rintro n_ ap_ k_ S_ hI_ hF_ ⟨h0_, hC_, -⟩ hm_
      refine sm_T_go 4 (c1 := (26, [some (.inr (.inr (some (4, ii_)))), some (.inr (.inr (some (0, bb_)))), some (.inl n_), some (.inl ap_), some (.inl k_)], [.inl n_, .inr (.inr (some (20, (0 + bb_)))), .inl k_], S_)) rfl ?_
      refine sm_T_iald (n := 162) rfl rfl (by omega) (by omega) ?_
      have bx1_ : 0 ≤ S_.2.2.1 20 (0 + bb_) n_.toNat ∧ S_.2.2.1 20 (0 + bb_) n_.toNat ≤ 652 := hI_.2 20 (0 + bb_) _
      refine sm_T_br (a := 3) (z := 37) rfl (fun cx2_ => ?_) (fun cx2_ => ?_)
      · have cx2_ : (S_.2.2.1 20 (0 + bb_) n_.toNat) ≤ k_ := of_decide_eq_true cx2_
        have bx3_ : 0 ≤ S_.1 4 ii_ 5 ∧ S_.1 4 ii_ 5 ≤ 100000 := hI_.1 4 ii_ 5 rfl
        refine sm_T_go 4 (c1 := (70, [some (.inr (.inr (some (4, ii_)))), some (.inr (.inr (some (0, bb_)))), some (.inl n_), some (.inl ap_), some (.inl k_)], [.inl ap_, .inl (S_.1 4 ii_ 5), .inr (.inr (some (4, ii_)))], S_)) rfl ?_
        refine sm_T_bin (w := (S_.1 4 ii_ 5) + ap_) rfl (bi_add (by omega) (by omega) (by omega)) ?_ -- pc_ 70
        have hIx4_ : gi (sm_pI S_ 4 ii_ 5 ((S_.1 4 ii_ 5) + ap_)) := gi_pI hI_ (show 0 ≤ (S_.1 4 ii_ 5) + ap_ ∧ (S_.1 4 ii_ 5) + ap_ ≤ 100000 from ⟨by omega, by omega⟩)
        have hFx5_ : ai_fr (sx_W vw_87) S0_ (sm_pI S_ 4 ii_ 5 ((S_.1 4 ii_ 5) + ap_)) := ai_fr_tr hF_ (ai_fr_pI rfl)
        have hCx6_ : cdf ii_ S0_ (sm_pI S_ 4 ii_ 5 ((S_.1 4 ii_ 5) + ap_)) := cdf_pI hC_ (Or.inr (by rw [show cof 4 = 0 from rfl] <;> omega))
        refine sm_T_go 1 (c1 := (74, [some (.inr (.inr (some (4, ii_)))), some (.inr (.inr (some (0, bb_)))), some (.inl n_), some (.inl ap_), some (.inl k_)], [], sm_pI S_ 4 ii_ 5 ((S_.1 4 ii_ 5) + ap_))) rfl ?_
        refine sm_T_inc (a := 2) (z := 1) (v := n_) (w := n_ + 1) rfl rfl (by omega) (by omega) (by omega) ?_ -- pc_ 74
        refine sm_T_go 1 (c1 := (7, [some (.inr (.inr (some (4, ii_)))), some (.inr (.inr (some (0, bb_)))), some (.inl (n_ + 1)), some (.inl ap_), some (.inl k_)], [], sm_pI S_ 4 ii_ 5 ((S_.1 4 ii_ 5) + ap_))) rfl ?_
        refine sm_T_wk [some (.inr (.inr (some (4, ii_)))), some (.inr (.inr (some (0, bb_)))), some (.inl (n_ + 1)), none, none] (by exact ⟨rfl, rfl, rfl, trivial⟩) ?_
        refine ih_.1 (n_ + 1) (sm_pI S_ 4 ii_ 5 ((S_.1 4 ii_ 5) + ap_)) hIx4_ hFx5_ ⟨?_, ?_, trivial⟩ ?_
        · ((try simp only [rd_lf, rd_fl, rf_eq, rf_nk, rf_nt, rd_fa, rd_af, ne_eq, Nat.reduceEqDiff, not_false_eq_true]); omega)
        · exact hCx6_
        · omega
      · have cx2_ : ¬ ((S_.2.2.1 20 (0 + bb_) n_.toNat) ≤ k_) := of_decide_eq_false cx2_
        refine sm_T_go 5 (c1 := (38, [some (.inr (.inr (some (4, ii_)))), some (.inr (.inr (some (0, bb_)))), some (.inl n_), some (.inl ap_), some (.inl k_)], [.inl k_, .inl n_, .inr (.inr (some (0, bb_))), .inr (.inr (some (52, (0 + ii_))))], S_)) rfl ?_
        refine sm_T_cal (d1 := 0) (Q1 := vq_14 n_ k_ bb_ S_) rfl rfl (by decide) (vc_14 n_ k_ bb_ S_ hI_ (by omega) (by omega) (by exact bpn_fr hb_ hF_ rfl rfl rfl rfl)) (fun u_ Sx7_ px10_ => ?_)
        obtain ⟨rfl, vx12_, rfl, px10_⟩ := px10_
        have p1_ := px10_.1
        refine sm_T_iald (n := 652) rfl rfl (by omega) (by omega) ?_
        have bx13_ : (-652) ≤ S_.2.2.1 52 (0 + ii_) vx12_.toNat ∧ S_.2.2.1 52 (0 + ii_) vx12_.toNat ≤ 1999 := hI_.2 52 (0 + ii_) _
        refine sm_T_go 5 (c1 := (49, [some (.inr (.inr (some (4, ii_)))), some (.inr (.inr (some (0, bb_)))), some (.inl n_), some (.inl ap_), some (.inl k_)], [.inl 0, .inl n_, .inr (.inr (some (0, bb_))), .inr (.inr (some (52, (0 + ii_)))), .inl (S_.2.2.1 52 (0 + ii_) vx12_.toNat)], S_)) rfl ?_
        refine sm_T_cal (d1 := 0) (Q1 := vq_14 n_ 0 bb_ S_) rfl rfl (by decide) (vc_14 n_ 0 bb_ S_ hI_ (by omega) (by omega) (by exact bpn_fr hb_ hF_ rfl rfl rfl rfl)) (fun u_ Sx14_ px17_ => ?_)
        obtain ⟨rfl, vx19_, rfl, px17_⟩ := px17_
        have p2_ := px17_.1
        refine sm_T_iald (n := 652) rfl rfl (by omega) (by omega) ?_
        have bx20_ : (-652) ≤ S_.2.2.1 52 (0 + ii_) vx19_.toNat ∧ S_.2.2.1 52 (0 + ii_) vx19_.toNat ≤ 1999 := hI_.2 52 (0 + ii_) _
        refine sm_T_br (a := 0) (z := 5) rfl (fun cx21_ => ?_) (fun cx21_ => ?_)
        · have cx21_ : (S_.2.2.1 52 (0 + ii_) vx12_.toNat) = (S_.2.2.1 52 (0 + ii_) vx19_.toNat) := of_decide_eq_true cx21_
          refine sm_T_inc (a := 4) (z := 1) (v := k_) (w := k_ + 1) rfl rfl (by omega) (by omega) (by omega) ?_ -- pc_ 58
          refine sm_T_go 1 (c1 := (19, [some (.inr (.inr (some (4, ii_)))), some (.inr (.inr (some (0, bb_)))), some (.inl n_), some (.inl ap_), some (.inl (k_ + 1))], [], S_)) rfl ?_
          refine ih_.2 n_ ap_ (k_ + 1) S_ hI_ hF_ ⟨?_, ?_, trivial⟩ ?_
          · omega
          · exact hC_
          · omega
        · have cx21_ : ¬ ((S_.2.2.1 52 (0 + ii_) vx12_.toNat) = (S_.2.2.1 52 (0 + ii_) vx19_.toNat)) := of_decide_eq_false cx21_
          refine sm_T_go 2 (c1 := (58, [some (.inr (.inr (some (4, ii_)))), some (.inr (.inr (some (0, bb_)))), some (.inl n_), some (.inl 1), some (.inl k_)], [], S_)) rfl ?_
          refine sm_T_inc (a := 4) (z := 1) (v := k_) (w := k_ + 1) rfl rfl (by omega) (by omega) (by omega) ?_ -- pc_ 58
          refine sm_T_go 1 (c1 := (19, [some (.inr (.inr (some (4, ii_)))), some (.inr (.inr (some (0, bb_)))), some (.inl n_), some (.inl 1), some (.inl (k_ + 1))], [], S_)) rfl ?_
          refine ih_.2 n_ 1 (k_ + 1) S_ hI_ hF_ ⟨?_, ?_, trivial⟩ ?_
          · omega
          · exact hC_
          · omega
set_option maxHeartbeats 400000 in
theorem vc_87 {sc_ : Nat × (Nat → Int)} (ii_ : Nat) (bb_ : Nat) (S0_ : sm_S) (hI_ : gi S0_) (hb_ : bpn bb_ S0_) : sm_T (mt_P sc_) 1 87 (0, [some (.inr (.inr (some (4, ii_)))), some (.inr (.inr (some (0, bb_)))), none, none, none], [], S0_) (fun ro9_ => ∃ u_ S1_, ro9_ = (.inl u_, S1_, 0) ∧ vq_87 ii_ bb_ S0_ u_ S1_) := by
  have hF_ : ai_fr (sx_W vw_87) S0_ S0_ := ai_fr_rf
  have hC_ : cdf ii_ S0_ S0_ := cdf_rf
  have hIx1_ : gi (sm_pI S0_ 4 ii_ 5 0) := gi_pI hI_ (show 0 ≤ 0 ∧ 0 ≤ 100000 from ⟨by omega, by omega⟩)
  have hFx2_ : ai_fr (sx_W vw_87) S0_ (sm_pI S0_ 4 ii_ 5 0) := ai_fr_tr hF_ (ai_fr_pI rfl)
  have hCx3_ : cdf ii_ S0_ (sm_pI S0_ 4 ii_ 5 0) := cdf_pI hC_ (Or.inr (by rw [show cof 4 = 0 from rfl] <;> omega))
  refine sm_T_go 5 (c1 := (7, [some (.inr (.inr (some (4, ii_)))), some (.inr (.inr (some (0, bb_)))), some (.inl 0), none, none], [], sm_pI S0_ 4 ii_ 5 0)) rfl ?_
  refine (vl_87 ii_ bb_ S0_ hb_ _).1 0 (sm_pI S0_ 4 ii_ 5 0) hIx1_ hFx2_ ⟨?_, ?_, trivial⟩ (Nat.lt_succ_self _)
  · ((try simp only [rd_lf, rd_fl, rf_eq, rf_nk, rf_nt, rd_fa, rd_af, ne_eq, Nat.reduceEqDiff, not_false_eq_true]); omega)
  · exact hCx3_
end
/-! 99.zl4n -/
section
/-! Layout.findAgain -/
def vw_82 : sx_Wl := ([(4, 4), (4, 5), (4, 6), (4, 7), (4, 10)], [51, 52, 53, 54], [])
def vq_82 (a2_ : Int) (ii_ : Nat) (bb_ : Nat) (S0_ : sm_S) (u_ : Option sm_V) (S1_ : sm_S) : Prop := u_ = none ∧ gi S1_ ∧ ai_fr (sx_W vw_82) S0_ S1_ ∧ (cdf ii_ S0_ S1_ ∧ (True))
set_option maxHeartbeats 400000 in
theorem vl_82 {sc_ : Nat × (Nat → Int)} (a2_ : Int) (ii_ : Nat) (bb_ : Nat) (S0_ : sm_S) (hb_ : bpn bb_ S0_) (h2_ : 0 ≤ a2_ ∧ a2_ ≤ 6) : ∀ nn_ : Nat, (∀ (k_ : Int) (S_ : sm_S), gi S_ → ai_fr (sx_W vw_82) S0_ S_ → ((0 ≤ k_ ∧ k_ ≤ 2000) ∧ (cdf ii_ S0_ S_) ∧ True) → ((90000 - k_).toNat) < nn_ → sm_T (mt_P sc_) 3 82 (19, [some (.inr (.inr (some (4, ii_)))), some (.inr (.inr (some (0, bb_)))), some (.inl a2_), some (.inl k_)], [], S_) (fun ro9_ => ∃ u_ S1_, ro9_ = (.inl u_, S1_, 0) ∧ vq_82 a2_ ii_ bb_ S0_ u_ S1_)) ∧ (∀ (k_ : Int) (S_ : sm_S), gi S_ → ai_fr (sx_W vw_82) S0_ S_ → ((0 ≤ k_ ∧ k_ ≤ 652 ∧ 0 ≤ S_.1 4 ii_ 6 ∧ S_.1 4 ii_ 6 ≤ k_) ∧ (cdf ii_ S0_ S_) ∧ True) → ((60000 - k_).toNat) < nn_ → sm_T (mt_P sc_) 3 82 (47, [some (.inr (.inr (some (4, ii_)))), some (.inr (.inr (some (0, bb_)))), some (.inl a2_), some (.inl k_)], [], S_) (fun ro9_ => ∃ u_ S1_, ro9_ = (.inl u_, S1_, 0) ∧ vq_82 a2_ ii_ bb_ S0_ u_ S1_)) ∧ (∀ (k_ : Int) (S_ : sm_S), gi S_ → ai_fr (sx_W vw_82) S0_ S_ → ((0 ≤ k_ ∧ k_ ≤ 2000 ∧ 0 ≤ S_.1 4 ii_ 6 ∧ S_.1 4 ii_ 6 ≤ 652 + k_ ∧ 0 ≤ S_.1 4 ii_ 7 ∧ S_.1 4 ii_ 7 ≤ k_) ∧ (cdf ii_ S0_ S_) ∧ True) → ((30000 - k_).toNat) < nn_ → sm_T (mt_P sc_) 3 82 (74, [some (.inr (.inr (some (4, ii_)))), some (.inr (.inr (some (0, bb_)))), some (.inl a2_), some (.inl k_)], [], S_) (fun ro9_ => ∃ u_ S1_, ro9_ = (.inl u_, S1_, 0) ∧ vq_82 a2_ ii_ bb_ S0_ u_ S1_)) := by
  intro nn_
  induction nn_ with
  | zero => exact ⟨fun _ _ _ _ _ h_ => absurd h_ (Nat.not_lt_zero _), fun _ _ _ _ _ h_ => absurd h_ (Nat.not_lt_zero _), fun _ _ _ _ _ h_ => absurd h_ (Nat.not_lt_zero _)⟩
  | succ nn_ ih_ =>
    refine ⟨?_, ?_, ?_⟩
    · rintro k_ S_ hI_ hF_ ⟨h0_, hC_, -⟩ hm_
      have cn_ : 0 ≤ S_.1 4 ii_ 1 ∧ S_.1 4 ii_ 1 ≤ 2000 := hI_.1 4 ii_ 1 rfl
      have bx1_ : 0 ≤ S_.1 4 ii_ 1 ∧ S_.1 4 ii_ 1 ≤ 2000 := hI_.1 4 ii_ 1 rfl
      refine sm_T_go 3 (c1 := (24, [some (.inr (.inr (some (4, ii_)))), some (.inr (.inr (some (0, bb_)))), some (.inl a2_), some (.inl k_)], [.inl (S_.1 4 ii_ 1), .inl k_], S_)) rfl ?_
      refine sm_T_br (a := 3) (z := 16) rfl (fun cx2_ => ?_) (fun cx2_ => ?_)
      · have cx2_ : (S_.1 4 ii_ 1) ≤ k_ := of_decide_eq_true cx2_
        have hIx3_ : gi (sm_pI S_ 4 ii_ 6 0) := gi_pI hI_ (show 0 ≤ 0 ∧ 0 ≤ 2652 from ⟨by omega, by omega⟩)
        have hFx4_ : ai_fr (sx_W vw_82) S0_ (sm_pI S_ 4 ii_ 6 0) := ai_fr_tr hF_ (ai_fr_pI rfl)
        have hCx5_ : cdf ii_ S0_ (sm_pI S_ 4 ii_ 6 0) := cdf_pI hC_ (Or.inr (by rw [show cof 4 = 0 from rfl] <;> omega))
        refine sm_T_go 5 (c1 := (47, [some (.inr (.inr (some (4, ii_)))), some (.inr (.inr (some (0, bb_)))), some (.inl a2_), some (.inl 0)], [], sm_pI S_ 4 ii_ 6 0)) rfl ?_
        refine ih_.2.1 0 (sm_pI S_ 4 ii_ 6 0) hIx3_ hFx4_ ⟨?_, ?_, trivial⟩ ?_
        · ((try simp only [rd_lf, rd_fl, rf_eq, rf_nk, rf_nt, rd_fa, rd_af, ne_eq, Nat.reduceEqDiff, not_false_eq_true]); omega)
        · exact hCx5_
        · omega
      · have cx2_ : ¬ ((S_.1 4 ii_ 1) ≤ k_) := of_decide_eq_false cx2_
        refine sm_T_go 4 (c1 := (33, [some (.inr (.inr (some (4, ii_)))), some (.inr (.inr (some (0, bb_)))), some (.inl a2_), some (.inl k_)], [.inl 0, .inl k_, .inr (.inr (some (53, (0 + ii_))))], S_)) rfl ?_
        refine sm_T_iast (n := 2000) rfl rfl (by omega) (by omega) ?_
        have hIx6_ : gi (sm_aI S_ 53 (0 + ii_) k_.toNat 0) := gi_aI hI_ (show 0 ≤ 0 ∧ 0 ≤ 1 from ⟨by omega, by omega⟩)
        have hFx7_ : ai_fr (sx_W vw_82) S0_ (sm_aI S_ 53 (0 + ii_) k_.toNat 0) := ai_fr_tr hF_ (ai_fr_aI rfl)
        have hCx8_ : cdf ii_ S0_ (sm_aI S_ 53 (0 + ii_) k_.toNat 0) := cdf_aI hC_ (Or.inr (by rw [show cof 53 = 0 from rfl] <;> omega))
        refine sm_T_inc (a := 3) (z := 1) (v := k_) (w := k_ + 1) rfl rfl (by omega) (by omega) (by omega) ?_ -- pc_ 34
        refine sm_T_go 1 (c1 := (19, [some (.inr (.inr (some (4, ii_)))), some (.inr (.inr (some (0, bb_)))), some (.inl a2_), some (.inl (k_ + 1))], [], sm_aI S_ 53 (0 + ii_) k_.toNat 0)) rfl ?_
        refine ih_.1 (k_ + 1) (sm_aI S_ 53 (0 + ii_) k_.toNat 0) hIx6_ hFx7_ ⟨?_, ?_, trivial⟩ ?_
        · omega
        · exact hCx8_
        · omega
    · rintro k_ S_ hI_ hF_ ⟨h0_, hC_, -⟩ hm_
      have cn_ : 0 ≤ S_.1 4 ii_ 1 ∧ S_.1 4 ii_ 1 ≤ 2000 := hI_.1 4 ii_ 1 rfl
      refine sm_T_go 2 (c1 := (51, [some (.inr (.inr (some (4, ii_)))), some (.inr (.inr (some (0, bb_)))), some (.inl a2_), some (.inl k_)], [.inl 652, .inl k_], S_)) rfl ?_
      refine sm_T_br (a := 3) (z := 16) rfl (fun cx1_ => ?_) (fun cx1_ => ?_)
      · have cx1_ : 652 ≤ k_ := of_decide_eq_true cx1_
        have hIx2_ : gi (sm_pI S_ 4 ii_ 7 0) := gi_pI hI_ (show (-700) ≤ 0 ∧ 0 ≤ 2000 from ⟨by omega, by omega⟩)
        have hFx3_ : ai_fr (sx_W vw_82) S0_ (sm_pI S_ 4 ii_ 7 0) := ai_fr_tr hF_ (ai_fr_pI rfl)
        have hCx4_ : cdf ii_ S0_ (sm_pI S_ 4 ii_ 7 0) := cdf_pI hC_ (Or.inr (by rw [show cof 4 = 0 from rfl] <;> omega))
        refine sm_T_go 5 (c1 := (74, [some (.inr (.inr (some (4, ii_)))), some (.inr (.inr (some (0, bb_)))), some (.inl a2_), some (.inl 0)], [], sm_pI S_ 4 ii_ 7 0)) rfl ?_
        refine ih_.2.2 0 (sm_pI S_ 4 ii_ 7 0) hIx2_ hFx3_ ⟨?_, ?_, trivial⟩ ?_
        · ((try simp only [rd_lf, rd_fl, rf_eq, rf_nk, rf_nt, rd_fa, rd_af, ne_eq, Nat.reduceEqDiff, not_false_eq_true]); omega)
        · exact hCx4_
        · omega
      · have cx1_ : ¬ (652 ≤ k_) := of_decide_eq_false cx1_
        refine sm_T_go 4 (c1 := (58, [some (.inr (.inr (some (4, ii_)))), some (.inr (.inr (some (0, bb_)))), some (.inl a2_), some (.inl k_)], [.inl a2_, .inl k_, .inr (.inr (some (0, bb_))), .inr (.inr (some (4, ii_)))], S_)) rfl ?_
        refine sm_T_cal (d1 := 1) (Q1 := vq_85 k_ a2_ ii_ bb_ S_) rfl rfl (by decide) (vc_85 k_ a2_ ii_ bb_ S_ hI_ (by omega) (by omega) (by omega)) (fun u_ Sx5_ px8_ => ?_)
        obtain ⟨rfl, hIx6_, hFx7_, px8_⟩ := px8_
        have hFx9_ : ai_fr (sx_W vw_82) S0_ Sx5_ := ai_fr_tr hF_ (fr_le hFx7_ rfl)
        obtain ⟨dx11_, px8_⟩ := px8_
        have hCx10_ : cdf ii_ S0_ Sx5_ := cdf_tr hC_ (cdf_cg (by omega) dx11_)
        have f58_ := px8_
        have c58_ : 0 ≤ Sx5_.1 4 ii_ 6 ∧ Sx5_.1 4 ii_ 6 ≤ 2652 := hIx6_.1 4 ii_ 6 rfl
        refine sm_T_inc (a := 3) (z := 1) (v := k_) (w := k_ + 1) rfl rfl (by omega) (by omega) (by omega) ?_ -- pc_ 61
        refine sm_T_go 1 (c1 := (47, [some (.inr (.inr (some (4, ii_)))), some (.inr (.inr (some (0, bb_)))), some (.inl a2_), some (.inl (k_ + 1))], [], Sx5_)) rfl ?_
        refine ih_.2.1 (k_ + 1) Sx5_ hIx6_ hFx9_ ⟨?_, ?_, trivial⟩ ?_
        · omega
        · exact hCx10_
        · omega
    · rintro k_ S_ hI_ hF_ ⟨h0_, hC_, -⟩ hm_
      have cn_ : 0 ≤ S_.1 4 ii_ 1 ∧ S_.1 4 ii_ 1 ≤ 2000 := hI_.1 4 ii_ 1 rfl
      have bx1_ : 0 ≤ S_.1 4 ii_ 1 ∧ S_.1 4 ii_ 1 ≤ 2000 := hI_.1 4 ii_ 1 rfl
      refine sm_T_go 3 (c1 := (79, [some (.inr (.inr (some (4, ii_)))), some (.inr (.inr (some (0, bb_)))), some (.inl a2_), some (.inl k_)], [.inl (S_.1 4 ii_ 1), .inl k_], S_)) rfl ?_
      refine sm_T_br (a := 3) (z := 51) rfl (fun cx2_ => ?_) (fun cx2_ => ?_)
      · have cx2_ : (S_.1 4 ii_ 1) ≤ k_ := of_decide_eq_true cx2_
        refine sm_T_go 2 (c1 := (132, [some (.inr (.inr (some (4, ii_)))), some (.inr (.inr (some (0, bb_)))), some (.inl a2_), some (.inl k_)], [.inr (.inr (some (0, bb_))), .inr (.inr (some (4, ii_)))], S_)) rfl ?_
        refine sm_T_cal (d1 := 1) (Q1 := vq_86 ii_ bb_ S_) rfl rfl (by decide) (vc_86 ii_ bb_ S_ hI_ ) (fun u_ Sx3_ px6_ => ?_)
        obtain ⟨rfl, hIx4_, hFx5_, px6_⟩ := px6_
        have hFx7_ : ai_fr (sx_W vw_82) S0_ Sx3_ := ai_fr_tr hF_ (fr_le hFx5_ rfl)
        obtain ⟨dx9_, px6_⟩ := px6_
        have hCx8_ : cdf ii_ S0_ Sx3_ := cdf_tr hC_ (cdf_cg (by omega) dx9_)
        have ex10_ : Sx3_.1 4 ii_ 1 = S_.1 4 ii_ 1 := hFx5_.1 4 ii_ 1 rfl
        refine sm_T_go 2 (c1 := (137, [some (.inr (.inr (some (4, ii_)))), some (.inr (.inr (some (0, bb_)))), some (.inl a2_), some (.inl k_)], [.inr (.inr (some (0, bb_))), .inr (.inr (some (4, ii_)))], Sx3_)) rfl ?_
        refine sm_T_cal (d1 := 1) (Q1 := vq_87 ii_ bb_ Sx3_) rfl rfl (by decide) (vc_87 ii_ bb_ Sx3_ hIx4_ (by exact bpn_fr hb_ hFx7_ rfl rfl rfl rfl)) (fun u_ Sx11_ px14_ => ?_)
        obtain ⟨rfl, hIx12_, hFx13_, px14_⟩ := px14_
        have hFx15_ : ai_fr (sx_W vw_82) S0_ Sx11_ := ai_fr_tr hFx7_ (fr_le hFx13_ rfl)
        obtain ⟨dx17_, px14_⟩ := px14_
        have hCx16_ : cdf ii_ S0_ Sx11_ := cdf_tr hCx8_ (cdf_cg (by omega) dx17_)
        refine sm_T_rv rfl ⟨_, _, rfl, rfl, hIx12_, hFx15_, ?_⟩
        refine ⟨hCx16_, ?_⟩
        trivial
      · have cx2_ : ¬ ((S_.1 4 ii_ 1) ≤ k_) := of_decide_eq_false cx2_
        refine sm_T_go 3 (c1 := (87, [some (.inr (.inr (some (4, ii_)))), some (.inr (.inr (some (0, bb_)))), some (.inl a2_), some (.inl k_)], [.inl k_, .inr (.inr (some (51, (0 + ii_))))], S_)) rfl ?_
        refine sm_T_iald (n := 2000) rfl rfl (by omega) (by omega) ?_
        have bx18_ : 0 ≤ S_.2.2.1 51 (0 + ii_) k_.toNat ∧ S_.2.2.1 51 (0 + ii_) k_.toNat ≤ 1999 := hI_.2 51 (0 + ii_) _
        refine sm_T_go 1 (c1 := (89, [some (.inr (.inr (some (4, ii_)))), some (.inr (.inr (some (0, bb_)))), some (.inl a2_), some (.inl k_)], [.inl k_, .inl (S_.2.2.1 51 (0 + ii_) k_.toNat)], S_)) rfl ?_
        refine sm_T_br (a := 1) (z := 35) rfl (fun cx19_ => ?_) (fun cx19_ => ?_)
        · have cx19_ : (S_.2.2.1 51 (0 + ii_) k_.toNat) ≠ k_ := of_decide_eq_true cx19_
          refine sm_T_inc (a := 3) (z := 1) (v := k_) (w := k_ + 1) rfl rfl (by omega) (by omega) (by omega) ?_ -- pc_ 124
          refine sm_T_go 1 (c1 := (74, [some (.inr (.inr (some (4, ii_)))), some (.inr (.inr (some (0, bb_)))), some (.inl a2_), some (.inl (k_ + 1))], [], S_)) rfl ?_
          refine ih_.2.2 (k_ + 1) S_ hI_ hF_ ⟨?_, ?_, trivial⟩ ?_
          · ((try simp only [rd_lf, rd_fl, rf_eq, rf_nk, rf_nt, rd_fa, rd_af, ne_eq, Nat.reduceEqDiff, not_false_eq_true]); omega)
          · exact hC_
          · omega
        · have cx19_ : ¬ ((S_.2.2.1 51 (0 + ii_) k_.toNat) ≠ k_) := of_decide_eq_false cx19_
          have bx20_ : 0 ≤ S_.1 4 ii_ 6 ∧ S_.1 4 ii_ 6 ≤ 2652 := hI_.1 4 ii_ 6 rfl
          refine sm_T_go 6 (c1 := (102, [some (.inr (.inr (some (4, ii_)))), some (.inr (.inr (some (0, bb_)))), some (.inl a2_), some (.inl k_)], [.inl k_, .inr (.inr (some (53, (0 + ii_)))), .inl (S_.1 4 ii_ 6), .inr (.inr (some (4, ii_)))], S_)) rfl ?_
          refine sm_T_iald (n := 2000) rfl rfl (by omega) (by omega) ?_
          have bx21_ : 0 ≤ S_.2.2.1 53 (0 + ii_) k_.toNat ∧ S_.2.2.1 53 (0 + ii_) k_.toNat ≤ 1 := hI_.2 53 (0 + ii_) _
          refine sm_T_bin (w := (S_.1 4 ii_ 6) + (S_.2.2.1 53 (0 + ii_) k_.toNat)) rfl (bi_add (by omega) (by omega) (by omega)) ?_ -- pc_ 103
          have hIx22_ : gi (sm_pI S_ 4 ii_ 6 ((S_.1 4 ii_ 6) + (S_.2.2.1 53 (0 + ii_) k_.toNat))) := gi_pI hI_ (show 0 ≤ (S_.1 4 ii_ 6) + (S_.2.2.1 53 (0 + ii_) k_.toNat) ∧ (S_.1 4 ii_ 6) + (S_.2.2.1 53 (0 + ii_) k_.toNat) ≤ 2652 from ⟨by omega, by omega⟩)
          have hFx23_ : ai_fr (sx_W vw_82) S0_ (sm_pI S_ 4 ii_ 6 ((S_.1 4 ii_ 6) + (S_.2.2.1 53 (0 + ii_) k_.toNat))) := ai_fr_tr hF_ (ai_fr_pI rfl)
          have hCx24_ : cdf ii_ S0_ (sm_pI S_ 4 ii_ 6 ((S_.1 4 ii_ 6) + (S_.2.2.1 53 (0 + ii_) k_.toNat))) := cdf_pI hC_ (Or.inr (by rw [show cof 4 = 0 from rfl] <;> omega))
          have bx25_ : (-700) ≤ S_.1 4 ii_ 7 ∧ S_.1 4 ii_ 7 ≤ 2000 := hI_.1 4 ii_ 7 rfl
          have ex26_ : (sm_pI S_ 4 ii_ 6 ((S_.1 4 ii_ 6) + (S_.2.2.1 53 (0 + ii_) k_.toNat))).1 4 ii_ 7 = (S_.1 4 ii_ 7) := by (try simp only [rf_eq, rf_nk, rf_nt, rd_fa, rd_af, ne_eq, Nat.reduceEqDiff, not_false_eq_true])
          refine sm_T_go 8 (c1 := (118, [some (.inr (.inr (some (4, ii_)))), some (.inr (.inr (some (0, bb_)))), some (.inl a2_), some (.inl k_)], [.inl k_, .inr (.inr (some (53, (0 + ii_)))), .inl 1, .inl ((sm_pI S_ 4 ii_ 6 ((S_.1 4 ii_ 6) + (S_.2.2.1 53 (0 + ii_) k_.toNat))).1 4 ii_ 7), .inr (.inr (some (4, ii_)))], sm_pI S_ 4 ii_ 6 ((S_.1 4 ii_ 6) + (S_.2.2.1 53 (0 + ii_) k_.toNat)))) rfl ?_
          refine sm_T_iald (n := 2000) rfl rfl (by omega) (by omega) ?_
          refine sm_T_go 0 (c1 := (119, [some (.inr (.inr (some (4, ii_)))), some (.inr (.inr (some (0, bb_)))), some (.inl a2_), some (.inl k_)], [.inl (S_.2.2.1 53 (0 + ii_) k_.toNat), .inl 1, .inl ((sm_pI S_ 4 ii_ 6 ((S_.1 4 ii_ 6) + (S_.2.2.1 53 (0 + ii_) k_.toNat))).1 4 ii_ 7), .inr (.inr (some (4, ii_)))], sm_pI S_ 4 ii_ 6 ((S_.1 4 ii_ 6) + (S_.2.2.1 53 (0 + ii_) k_.toNat)))) rfl ?_
          refine sm_T_bin (w := -(S_.2.2.1 53 (0 + ii_) k_.toNat) + 1) rfl (bi_sub (by omega) (by omega) (by omega)) ?_ -- pc_ 119
          refine sm_T_bin (w := ((sm_pI S_ 4 ii_ 6 ((S_.1 4 ii_ 6) + (S_.2.2.1 53 (0 + ii_) k_.toNat))).1 4 ii_ 7) - (S_.2.2.1 53 (0 + ii_) k_.toNat) + 1) rfl (bi_add (by omega) (by omega) (by omega)) ?_ -- pc_ 120
          have hIx27_ : gi (sm_pI (sm_pI S_ 4 ii_ 6 ((S_.1 4 ii_ 6) + (S_.2.2.1 53 (0 + ii_) k_.toNat))) 4 ii_ 7 (((sm_pI S_ 4 ii_ 6 ((S_.1 4 ii_ 6) + (S_.2.2.1 53 (0 + ii_) k_.toNat))).1 4 ii_ 7) - (S_.2.2.1 53 (0 + ii_) k_.toNat) + 1)) := gi_pI hIx22_ (show (-700) ≤ ((sm_pI S_ 4 ii_ 6 ((S_.1 4 ii_ 6) + (S_.2.2.1 53 (0 + ii_) k_.toNat))).1 4 ii_ 7) - (S_.2.2.1 53 (0 + ii_) k_.toNat) + 1 ∧ ((sm_pI S_ 4 ii_ 6 ((S_.1 4 ii_ 6) + (S_.2.2.1 53 (0 + ii_) k_.toNat))).1 4 ii_ 7) - (S_.2.2.1 53 (0 + ii_) k_.toNat) + 1 ≤ 2000 from ⟨by omega, by omega⟩)
          have hFx28_ : ai_fr (sx_W vw_82) S0_ (sm_pI (sm_pI S_ 4 ii_ 6 ((S_.1 4 ii_ 6) + (S_.2.2.1 53 (0 + ii_) k_.toNat))) 4 ii_ 7 (((sm_pI S_ 4 ii_ 6 ((S_.1 4 ii_ 6) + (S_.2.2.1 53 (0 + ii_) k_.toNat))).1 4 ii_ 7) - (S_.2.2.1 53 (0 + ii_) k_.toNat) + 1)) := ai_fr_tr hFx23_ (ai_fr_pI rfl)
          have hCx29_ : cdf ii_ S0_ (sm_pI (sm_pI S_ 4 ii_ 6 ((S_.1 4 ii_ 6) + (S_.2.2.1 53 (0 + ii_) k_.toNat))) 4 ii_ 7 (((sm_pI S_ 4 ii_ 6 ((S_.1 4 ii_ 6) + (S_.2.2.1 53 (0 + ii_) k_.toNat))).1 4 ii_ 7) - (S_.2.2.1 53 (0 + ii_) k_.toNat) + 1)) := cdf_pI hCx24_ (Or.inr (by rw [show cof 4 = 0 from rfl] <;> omega))
          refine sm_T_go 1 (c1 := (124, [some (.inr (.inr (some (4, ii_)))), some (.inr (.inr (some (0, bb_)))), some (.inl a2_), some (.inl k_)], [], sm_pI (sm_pI S_ 4 ii_ 6 ((S_.1 4 ii_ 6) + (S_.2.2.1 53 (0 + ii_) k_.toNat))) 4 ii_ 7 (((sm_pI S_ 4 ii_ 6 ((S_.1 4 ii_ 6) + (S_.2.2.1 53 (0 + ii_) k_.toNat))).1 4 ii_ 7) - (S_.2.2.1 53 (0 + ii_) k_.toNat) + 1))) rfl ?_
          refine sm_T_inc (a := 3) (z := 1) (v := k_) (w := k_ + 1) rfl rfl (by omega) (by omega) (by omega) ?_ -- pc_ 124
          refine sm_T_go 1 (c1 := (74, [some (.inr (.inr (some (4, ii_)))), some (.inr (.inr (some (0, bb_)))), some (.inl a2_), some (.inl (k_ + 1))], [], sm_pI (sm_pI S_ 4 ii_ 6 ((S_.1 4 ii_ 6) + (S_.2.2.1 53 (0 + ii_) k_.toNat))) 4 ii_ 7 (((sm_pI S_ 4 ii_ 6 ((S_.1 4 ii_ 6) + (S_.2.2.1 53 (0 + ii_) k_.toNat))).1 4 ii_ 7) - (S_.2.2.1 53 (0 + ii_) k_.toNat) + 1))) rfl ?_
          refine ih_.2.2 (k_ + 1) (sm_pI (sm_pI S_ 4 ii_ 6 ((S_.1 4 ii_ 6) + (S_.2.2.1 53 (0 + ii_) k_.toNat))) 4 ii_ 7 (((sm_pI S_ 4 ii_ 6 ((S_.1 4 ii_ 6) + (S_.2.2.1 53 (0 + ii_) k_.toNat))).1 4 ii_ 7) - (S_.2.2.1 53 (0 + ii_) k_.toNat) + 1)) hIx27_ hFx28_ ⟨?_, ?_, trivial⟩ ?_
          · ((try simp only [rd_lf, rd_fl, rf_eq, rf_nk, rf_nt, rd_fa, rd_af, ne_eq, Nat.reduceEqDiff, not_false_eq_true]); omega)
          · exact hCx29_
          · omega
set_option maxHeartbeats 400000 in
theorem vc_82 {sc_ : Nat × (Nat → Int)} (a2_ : Int) (ii_ : Nat) (bb_ : Nat) (S0_ : sm_S) (hI_ : gi S0_) (hb_ : bpn bb_ S0_) (h2_ : 0 ≤ a2_ ∧ a2_ ≤ 6) : sm_T (mt_P sc_) 3 82 (0, [some (.inr (.inr (some (4, ii_)))), some (.inr (.inr (some (0, bb_)))), some (.inl a2_), none], [], S0_) (fun ro9_ => ∃ u_ S1_, ro9_ = (.inl u_, S1_, 0) ∧ vq_82 a2_ ii_ bb_ S0_ u_ S1_) := by
  have hF_ : ai_fr (sx_W vw_82) S0_ S0_ := ai_fr_rf
  have hC_ : cdf ii_ S0_ S0_ := cdf_rf
  have bx1_ : 0 ≤ S0_.1 4 ii_ 10 ∧ S0_.1 4 ii_ 10 ≤ 1 := hI_.1 4 ii_ 10 rfl
  refine sm_T_go 2 (c1 := (4, [some (.inr (.inr (some (4, ii_)))), some (.inr (.inr (some (0, bb_)))), some (.inl a2_), none], [.inl (S0_.1 4 ii_ 10)], S0_)) rfl ?_
  refine sm_T_b0 (a := 0) (z := 4) rfl (fun cx2_ => ?_) (fun cx2_ => ?_)
  · have cx2_ : (S0_.1 4 ii_ 10) = 0 := of_decide_eq_true cx2_
    have hIx3_ : gi (sm_pI S0_ 4 ii_ 10 1) := gi_pI hI_ (show 0 ≤ 1 ∧ 1 ≤ 1 from ⟨by omega, by omega⟩)
    have hFx4_ : ai_fr (sx_W vw_82) S0_ (sm_pI S0_ 4 ii_ 10 1) := ai_fr_tr hF_ (ai_fr_pI rfl)
    have hCx5_ : cdf ii_ S0_ (sm_pI S0_ 4 ii_ 10 1) := cdf_pI hC_ (Or.inr (by rw [show cof 4 = 0 from rfl] <;> omega))
    refine sm_T_go 4 (c1 := (14, [some (.inr (.inr (some (4, ii_)))), some (.inr (.inr (some (0, bb_)))), some (.inl a2_), none], [.inr (.inr (some (4, ii_)))], sm_pI S0_ 4 ii_ 10 1)) rfl ?_
    refine sm_T_cal (d1 := 1) (Q1 := vq_83 ii_ (sm_pI S0_ 4 ii_ 10 1)) rfl rfl (by decide) (vc_83 ii_ (sm_pI S0_ 4 ii_ 10 1) hIx3_ ) (fun u_ Sx6_ px9_ => ?_)
    obtain ⟨rfl, hIx7_, hFx8_, px9_⟩ := px9_
    have hFx10_ : ai_fr (sx_W vw_82) S0_ Sx6_ := ai_fr_tr hFx4_ (fr_le hFx8_ rfl)
    obtain ⟨dx12_, px9_⟩ := px9_
    have hCx11_ : cdf ii_ S0_ Sx6_ := cdf_tr hCx5_ (cdf_cg (by omega) dx12_)
    refine sm_T_go 2 (c1 := (19, [some (.inr (.inr (some (4, ii_)))), some (.inr (.inr (some (0, bb_)))), some (.inl a2_), some (.inl 0)], [], Sx6_)) rfl ?_
    refine (vl_82 a2_ ii_ bb_ S0_ hb_ h2_ _).1 0 Sx6_ hIx7_ hFx10_ ⟨?_, ?_, trivial⟩ (Nat.lt_succ_self _)
    · omega
    · exact hCx11_
  · have cx2_ : ¬ ((S0_.1 4 ii_ 10) = 0) := of_decide_eq_false cx2_
    refine sm_T_rv rfl ⟨_, _, rfl, rfl, hI_, hF_, ?_⟩
    refine ⟨hC_, ?_⟩
    trivial
end
/-! 99.zl5a -/
section
/-! trailing zeros; written by wip/p55/gen/vg -/

/-! bits and trailing zeros; references compared -/
theorem l64z {x_ : Int} (h_ : -9223372036854775808 ≤ x_ ∧ x_ < 9223372036854775808) (h1_ : l_l2i x_ = 0) (h2_ : l_l2i (l_s2 x_ 32) = 0) : x_ = 0 := by
  have e_ : (Int64.ofInt x_).toInt = x_ := Int64.toInt_ofInt_of_le (by omega) (by omega)
  unfold l_l2i l_s2 at *
  rw [Int64.ofInt_toInt] at h2_
  generalize Int64.ofInt x_ = a_ at *
  rw [← e_]
  have p1_ : a_.toBitVec.signExtend 32 = 0 := by
    have z_ : a_.toInt32 = 0 := Int32.toInt_inj.mp h1_
    have z2_ : a_.toInt32.toBitVec = 0 := by rw [z_]; rfl
    exact z2_
  have p2_ : (a_.toBitVec >>> 32).signExtend 32 = 0 := by
    have z_ : ((a_.toUInt64 >>> ((Int32.ofInt 32).toInt64.toUInt64 &&& Int64.toUInt64 63)).toInt64).toInt32 = 0 := Int32.toInt_inj.mp h2_
    have z2_ : (((a_.toUInt64 >>> ((Int32.ofInt 32).toInt64.toUInt64 &&& Int64.toUInt64 63)).toInt64).toInt32).toBitVec = 0 := by rw [z_]; rfl
    exact z2_
  have p3_ : a_.toBitVec = 0 := by
    apply BitVec.eq_of_getLsbD_eq
    intro i_ hi_
    by_cases c_ : i_ < 32
    · have t_ := congrArg (fun b_ => b_.getLsbD i_) p1_
      simp only [BitVec.getLsbD_signExtend] at t_
      simpa [c_, hi_] using t_
    · have t_ := congrArg (fun b_ => b_.getLsbD (i_ - 32)) p2_
      simp only [BitVec.getLsbD_signExtend, BitVec.getLsbD_ushiftRight] at t_
      rw [show 32 + (i_ - 32) = i_ by omega] at t_
      simpa [show i_ - 32 < 32 by omega, show i_ - 32 < 64 by omega] using t_
  have p4_ : a_ = 0 := Int64.toBitVec_inj.mp p3_
  rw [p4_]
  rfl
theorem i_ushv {x_ : Int} {k_ : Nat} (hk_ : k_ < 32) (h_ : 0 ≤ x_ ∧ x_ ≤ 2147483647) : i_ushr x_ (k_ : Int) = x_ / 2 ^ k_ := by
  unfold i_ushr
  have e_ : (Int32.ofInt x_).toInt = x_ := Int32.toInt_ofInt_of_le (by omega) (by omega)
  have n_ : (Int32.ofInt x_).toUInt32.toNat = x_.toNat := by
    show (Int32.ofInt x_).toBitVec.toNat = x_.toNat
    have q_ : (Int32.ofInt x_).toBitVec.toInt = x_ := e_
    rw [BitVec.toInt_eq_toNat_cond] at q_
    have l_ := (Int32.ofInt x_).toBitVec.isLt
    split at q_ <;> omega
  have m_ : ((Int32.ofInt (k_ : Int)).toUInt32 &&& Int32.toUInt32 31).toNat = k_ := by
    have c_ : ∀ j_ : Fin 32, ((Int32.ofInt ((j_.val : Nat) : Int)).toUInt32 &&& Int32.toUInt32 31).toNat = j_.val := by decide
    exact c_ ⟨k_, hk_⟩
  obtain ⟨u_, hu_⟩ : ∃ u_, u_ = (Int32.ofInt x_).toUInt32 >>> ((Int32.ofInt (k_ : Int)).toUInt32 &&& Int32.toUInt32 31) := ⟨_, rfl⟩
  have v_ : u_.toNat = x_.toNat / 2 ^ k_ := by
    rw [hu_, UInt32.toNat_shiftRight, n_, m_, Nat.mod_eq_of_lt hk_, Nat.shiftRight_eq_div_pow]
  rw [← hu_]
  show u_.toBitVec.toInt = _
  rw [BitVec.toInt_eq_toNat_cond]
  have w_ : u_.toBitVec.toNat = x_.toNat / 2 ^ k_ := v_
  have b_ : x_.toNat / 2 ^ k_ ≤ x_.toNat := Nat.div_le_self _ _
  rw [w_, if_pos (by omega), Int.natCast_ediv]
  have z_ : ((x_.toNat : Nat) : Int) = x_ := by omega
  rw [z_]
  norm_cast
theorem i_ushw {x_ e_ m_ : Int} {k_ : Nat} (he_ : e_ = (k_ : Int)) (hk_ : k_ < 32) (h_ : 0 ≤ x_ ∧ x_ ≤ 2147483647) (hm_ : (2 : Int) ^ k_ = m_) : i_ushr x_ e_ = x_ / m_ := by
  rw [he_, i_ushv hk_ h_, hm_]
theorem sm_T_acn {P_ : sm_P} {d_ mid_ pc_ a_ b_ v_ : Nat} {z_ : Int} {L_ : sm_L} {r_ : List sm_V} {S_ : sm_S} {Q_ : sm_R → Prop} {x_ y_ : Option (Nat × Nat)} (hx_ : P_.1 mid_ pc_ = some (20, 3, a_, b_, v_, z_)) (hk_ : (x_.all (fun q_ => decide (q_.1 < 14)) && y_.all (fun q_ => decide (q_.1 < 14))) = true) (kt_ : x_ = y_ → sm_T P_ d_ mid_ (pc_ + 3, L_, r_, S_) Q_) (kf_ : x_ ≠ y_ → sm_T P_ d_ mid_ (((pc_ : Int) + z_).toNat, L_, r_, S_) Q_) : sm_T P_ d_ mid_ (pc_, L_, .inr (.inr y_) :: .inr (.inr x_) :: r_, S_) Q_ := by
  by_cases e_ : x_ = y_
  · exact sm_T_stp hx_ (Nat.le_of_ble_eq_true rfl) (c1 := (pc_ + 3, L_, r_, S_)) (by simp only [sm_stp, hk_, if_true]; rw [if_pos e_]) (kt_ e_)
  · exact sm_T_stp hx_ (Nat.le_of_ble_eq_true rfl) (c1 := (((pc_ : Int) + z_).toNat, L_, r_, S_)) (by simp only [sm_stp, hk_, if_true]; rw [if_neg e_]) (kf_ e_)
def nl9 (x_ : Int) : Prop := -9223372036854775808 ≤ x_ ∧ x_ < 9223372036854775808
theorem nl9_i (x_ : Int64) : nl9 x_.toInt := ⟨Int64.le_toInt x_, Int64.toInt_lt x_⟩
/-! java/lang/Integer.numberOfTrailingZeros -/
end
/-! 99.zl6a -/
section
/-! tests: gates worked out; written by wip/p55/gen/vg -/

/-! tests -/
def shn (S_ : sm_S) : Prop := ∀ k_, nl9 (S_.2.2.2 95 0 k_)
theorem shn_fr {w_ : sx_Wl} {S_ S'_ : sm_S} (h_ : shn S_) (g_ : ai_fr (sx_W w_) S_ S'_) (a_ : (sx_W w_).2.1 95 = false := by rfl) : shn S'_ := fun k_ => by
  rw [(g_.2.2 95 a_ 0 k_).2]
  exact h_ k_
theorem nl9_0 : nl9 0 := by unfold nl9; decide
theorem nl9_4 (x_ y_ : Int) : nl9 (l_4 x_ y_) := nl9_i _
end
/-! 99.zl6c -/
section
/-! Chip.gateArea -/
def vw_60 : sx_Wl := ([], [], [])
def vq_60 (ii_ : Nat) (S0_ : sm_S) (u_ : Option sm_V) (S1_ : sm_S) : Prop := S0_ = S1_ ∧ ∃ v_ : Int, u_ = some (.inl v_) ∧ (((-2147483648) ≤ v_ ∧ v_ ≤ 2147483647))
set_option maxHeartbeats 400000 in
theorem vl_60 {sc_ : Nat × (Nat → Int)} (ii_ : Nat) (S0_ : sm_S)  : ∀ nn_ : Nat, (∀ (x1_ : Int) (x2_ : Int) (S_ : sm_S), gi S_ → ai_fr (sx_W vw_60) S0_ S_ → (((-2147483648) ≤ x1_ ∧ x1_ ≤ 2147483647 ∧ 0 ≤ x2_ ∧ x2_ ≤ 150) ∧ (S_ = S0_) ∧ True) → ((4379 * 24 + 29 * (-x2_ + 150) + 24 : Int).toNat) < nn_ → sm_T (mt_P sc_) 0 60 (4, [some (.inr (.inr (some (2, ii_)))), some (.inl x1_), some (.inl x2_)], [], S_) (fun ro9_ => ∃ u_ S1_, ro9_ = (.inl u_, S1_, 0) ∧ vq_60 ii_ S0_ u_ S1_)) := by
  intro nn_
  induction nn_ with
  | zero => exact fun _ _ _ _ _ _ h_ => absurd h_ (Nat.not_lt_zero _)
  | succ nn_ ih_ =>
    rintro x1_ x2_ S_ hI_ hF_ ⟨b0_, hS_, -⟩ hm_
    have bx1_ : 0 ≤ S_.1 2 ii_ 8 ∧ S_.1 2 ii_ 8 ≤ 150 := hI_.1 2 ii_ 8 rfl
    refine sm_T_go 3 (c1 := (9, [some (.inr (.inr (some (2, ii_)))), some (.inl x1_), some (.inl x2_)], [.inl (S_.1 2 ii_ 8), .inl x2_], S_)) rfl ?_
    refine sm_T_br (a := 3) (z := 26) rfl (fun cx2_ => ?_) (fun cx2_ => ?_)
    · have cx2_ : (S_.1 2 ii_ 8) ≤ x2_ := of_decide_eq_true cx2_
      refine sm_T_go 1 (c1 := (36, [some (.inr (.inr (some (2, ii_)))), some (.inl x1_), some (.inl x2_)], [.inl x1_], S_)) rfl ?_
      refine sm_T_ri rfl ⟨_, _, rfl, (by first | rfl | exact hS_.symm), _, rfl, ?_⟩
      refine ⟨by omega, by omega⟩
    · have cx2_ : ¬ ((S_.1 2 ii_ 8) ≤ x2_) := of_decide_eq_false cx2_
      refine sm_T_go 7 (c1 := (25, [some (.inr (.inr (some (2, ii_)))), some (.inl x1_), some (.inl x2_)], [.inl x2_, .inr (.inr (some (35, (0 + ii_)))), .inr (.inr (some (57, (0 + (3 + ii_))))), .inl x1_], S_)) rfl ?_
      refine sm_T_iald (n := 150) rfl rfl (by omega) (by omega) ?_
      have bx3_ : 0 ≤ S_.2.2.1 35 (0 + ii_) x2_.toNat ∧ S_.2.2.1 35 (0 + ii_) x2_.toNat ≤ 11 := hI_.2 35 (0 + ii_) _
      refine sm_T_iald (n := 12) rfl rfl (by omega) (by omega) ?_
      have bx4_ : 0 ≤ S_.2.2.1 57 (0 + (3 + ii_)) (S_.2.2.1 35 (0 + ii_) x2_.toNat).toNat ∧ S_.2.2.1 57 (0 + (3 + ii_)) (S_.2.2.1 35 (0 + ii_) x2_.toNat).toNat ≤ 1000 := hI_.2 57 (0 + (3 + ii_)) _
      refine sm_T_bin (w := (i_add x1_ (S_.2.2.1 57 (0 + (3 + ii_)) (S_.2.2.1 35 (0 + ii_) x2_.toNat).toNat))) rfl rfl ?_ -- pc_ 27
      have bx5_ := i_add_r x1_ (S_.2.2.1 57 (0 + (3 + ii_)) (S_.2.2.1 35 (0 + ii_) x2_.toNat).toNat)
      refine sm_T_go 1 (c1 := (29, [some (.inr (.inr (some (2, ii_)))), some (.inl (i_add x1_ (S_.2.2.1 57 (0 + (3 + ii_)) (S_.2.2.1 35 (0 + ii_) x2_.toNat).toNat))), some (.inl x2_)], [], S_)) rfl ?_
      refine sm_T_inc (a := 2) (z := 1) (v := x2_) (w := x2_ + 1) rfl rfl (by omega) (by omega) (by omega) ?_ -- pc_ 29
      refine sm_T_go 1 (c1 := (4, [some (.inr (.inr (some (2, ii_)))), some (.inl (i_add x1_ (S_.2.2.1 57 (0 + (3 + ii_)) (S_.2.2.1 35 (0 + ii_) x2_.toNat).toNat))), some (.inl (x2_ + 1))], [], S_)) rfl ?_
      refine ih_ (i_add x1_ (S_.2.2.1 57 (0 + (3 + ii_)) (S_.2.2.1 35 (0 + ii_) x2_.toNat).toNat)) (x2_ + 1) S_ hI_ hF_ ⟨?_, ?_, trivial⟩ ?_
      · omega
      · first | rfl | exact hS_
      · omega
set_option maxHeartbeats 400000 in
theorem vc_60 {sc_ : Nat × (Nat → Int)} (ii_ : Nat) (S0_ : sm_S) (hI_ : gi S0_)  : sm_T (mt_P sc_) 0 60 (0, [some (.inr (.inr (some (2, ii_)))), none, none], [], S0_) (fun ro9_ => ∃ u_ S1_, ro9_ = (.inl u_, S1_, 0) ∧ vq_60 ii_ S0_ u_ S1_) := by
  have hF_ : ai_fr (sx_W vw_60) S0_ S0_ := ai_fr_rf
  refine sm_T_go 4 (c1 := (4, [some (.inr (.inr (some (2, ii_)))), some (.inl 0), some (.inl 0)], [], S0_)) rfl ?_
  refine (vl_60 ii_ S0_ _) 0 0 S0_ hI_ hF_ ⟨?_, ?_, trivial⟩ (Nat.lt_succ_self _)
  · omega
  · first | rfl | exact hS_
end
/-! 99.zl6i -/
section
/-! java/util/Arrays.fill -/
def vw_2t6 : sx_Wl := ([], [96], [])
def vq_2t6 (v0_ : Int) (S0_ : sm_S) (u_ : Option sm_V) (S1_ : sm_S) : Prop := u_ = none ∧ gi S1_ ∧ ai_fr (sx_W vw_2t6) S0_ S1_ ∧ (∀ j_, j_ < 1224 → S1_.2.2.1 96 0 j_ = v0_)
set_option maxHeartbeats 400000 in
theorem vl_2t6 {sc_ : Nat × (Nat → Int)} (v0_ : Int) (S0_ : sm_S) (hv_ : (-2147483648) ≤ v0_ ∧ v0_ ≤ 2147483647) : ∀ nn_ : Nat, (∀ (k_ : Int) (S_ : sm_S), gi S_ → ai_fr (sx_W vw_2t6) S0_ S_ → ((0 ≤ k_ ∧ k_ ≤ 1224) ∧ (∀ j_, j_ < k_.toNat → S_.2.2.1 96 0 j_ = v0_) ∧ True) → ((1224 - k_).toNat) < nn_ → sm_T (mt_P sc_) 0 2 (5, [some (.inr (.inr (some (96, 0)))), some (.inl v0_), some (.inl k_), some (.inl 1224)], [], S_) (fun ro9_ => ∃ u_ S1_, ro9_ = (.inl u_, S1_, 0) ∧ vq_2t6 v0_ S0_ u_ S1_)) := by
  intro nn_
  induction nn_ with
  | zero => exact fun _ _ _ _ _ h_ => absurd h_ (Nat.not_lt_zero _)
  | succ nn_ ih_ =>
    rintro k_ S_ hI_ hF_ ⟨h0_, h1_, -⟩ hm_
    refine sm_T_go 2 (c1 := (7, [some (.inr (.inr (some (96, 0)))), some (.inl v0_), some (.inl k_), some (.inl 1224)], [.inl 1224, .inl k_], S_)) rfl ?_
    refine sm_T_br (a := 3) (z := 13) rfl (fun cx1_ => ?_) (fun cx1_ => ?_)
    · have cx1_ : 1224 ≤ k_ := of_decide_eq_true cx1_
      refine sm_T_rv rfl ⟨_, _, rfl, rfl, hI_, hF_, ?_⟩
      exact fun j_ hj_ => h1_ j_ (by omega)
    · have cx1_ : ¬ (1224 ≤ k_) := of_decide_eq_false cx1_
      refine sm_T_go 3 (c1 := (13, [some (.inr (.inr (some (96, 0)))), some (.inl v0_), some (.inl k_), some (.inl 1224)], [.inl v0_, .inl k_, .inr (.inr (some (96, 0)))], S_)) rfl ?_
      refine sm_T_iast (n := 1224) rfl rfl (by omega) (by omega) ?_
      have hIx2_ : gi (sm_aI S_ 96 0 k_.toNat v0_) := gi_aI hI_ (show (-2147483648) ≤ v0_ ∧ v0_ ≤ 2147483647 from ⟨by omega, by omega⟩)
      have hFx3_ : ai_fr (sx_W vw_2t6) S0_ (sm_aI S_ 96 0 k_.toNat v0_) := ai_fr_tr hF_ (ai_fr_aI rfl)
      refine sm_T_inc (a := 2) (z := 1) (v := k_) (w := k_ + 1) rfl rfl (by omega) (by omega) (by omega) ?_ -- pc_ 14
      refine sm_T_go 1 (c1 := (5, [some (.inr (.inr (some (96, 0)))), some (.inl v0_), some (.inl (k_ + 1)), some (.inl 1224)], [], sm_aI S_ 96 0 k_.toNat v0_)) rfl ?_
      refine ih_ (k_ + 1) (sm_aI S_ 96 0 k_.toNat v0_) hIx2_ hFx3_ ⟨?_, ?_, trivial⟩ ?_
      · omega
      · intro j_ hj_
        rw [rd_eq]
        by_cases z_ : j_ = k_.toNat
        · rw [if_pos z_]
        · rw [if_neg z_]; exact h1_ j_ (by omega)
      · omega
set_option maxHeartbeats 400000 in
theorem vc_2t6 {sc_ : Nat × (Nat → Int)} (v0_ : Int) (S0_ : sm_S) (hI_ : gi S0_) (hv_ : (-2147483648) ≤ v0_ ∧ v0_ ≤ 2147483647) : sm_T (mt_P sc_) 0 2 (0, [some (.inr (.inr (some (96, 0)))), some (.inl v0_), none, none], [], S0_) (fun ro9_ => ∃ u_ S1_, ro9_ = (.inl u_, S1_, 0) ∧ vq_2t6 v0_ S0_ u_ S1_) := by
  have hF_ : ai_fr (sx_W vw_2t6) S0_ S0_ := ai_fr_rf
  refine sm_T_go 5 (c1 := (5, [some (.inr (.inr (some (96, 0)))), some (.inl v0_), some (.inl 0), some (.inl 1224)], [], S0_)) rfl ?_
  refine (vl_2t6 v0_ S0_ hv_ _) 0 S0_ hI_ hF_ ⟨?_, ?_, trivial⟩ (Nat.lt_succ_self _)
  · omega
  · (intro j_ hj_; exact absurd hj_ (Nat.not_lt_zero _))
end
/-! 99.zl6j -/
section
/-! java/util/Arrays.fill -/
def vw_2t4 : sx_Wl := ([], [94], [])
def vq_2t4 (v0_ : Int) (S0_ : sm_S) (u_ : Option sm_V) (S1_ : sm_S) : Prop := u_ = none ∧ gi S1_ ∧ ai_fr (sx_W vw_2t4) S0_ S1_ ∧ (∀ j_, j_ < 162 → S1_.2.2.1 94 0 j_ = v0_)
set_option maxHeartbeats 400000 in
theorem vl_2t4 {sc_ : Nat × (Nat → Int)} (v0_ : Int) (S0_ : sm_S) (hv_ : 0 ≤ v0_ ∧ v0_ ≤ 1) : ∀ nn_ : Nat, (∀ (k_ : Int) (S_ : sm_S), gi S_ → ai_fr (sx_W vw_2t4) S0_ S_ → ((0 ≤ k_ ∧ k_ ≤ 162) ∧ (∀ j_, j_ < k_.toNat → S_.2.2.1 94 0 j_ = v0_) ∧ True) → ((162 - k_).toNat) < nn_ → sm_T (mt_P sc_) 0 2 (5, [some (.inr (.inr (some (94, 0)))), some (.inl v0_), some (.inl k_), some (.inl 162)], [], S_) (fun ro9_ => ∃ u_ S1_, ro9_ = (.inl u_, S1_, 0) ∧ vq_2t4 v0_ S0_ u_ S1_)) := by
  intro nn_
  induction nn_ with
  | zero => exact fun _ _ _ _ _ h_ => absurd h_ (Nat.not_lt_zero _)
  | succ nn_ ih_ =>
    rintro k_ S_ hI_ hF_ ⟨h0_, h1_, -⟩ hm_
    refine sm_T_go 2 (c1 := (7, [some (.inr (.inr (some (94, 0)))), some (.inl v0_), some (.inl k_), some (.inl 162)], [.inl 162, .inl k_], S_)) rfl ?_
    refine sm_T_br (a := 3) (z := 13) rfl (fun cx1_ => ?_) (fun cx1_ => ?_)
    · have cx1_ : 162 ≤ k_ := of_decide_eq_true cx1_
      refine sm_T_rv rfl ⟨_, _, rfl, rfl, hI_, hF_, ?_⟩
      exact fun j_ hj_ => h1_ j_ (by omega)
    · have cx1_ : ¬ (162 ≤ k_) := of_decide_eq_false cx1_
      refine sm_T_go 3 (c1 := (13, [some (.inr (.inr (some (94, 0)))), some (.inl v0_), some (.inl k_), some (.inl 162)], [.inl v0_, .inl k_, .inr (.inr (some (94, 0)))], S_)) rfl ?_
      refine sm_T_iast (n := 162) rfl rfl (by omega) (by omega) ?_
      have hIx2_ : gi (sm_aI S_ 94 0 k_.toNat v0_) := gi_aI hI_ (show 0 ≤ v0_ ∧ v0_ ≤ 1 from ⟨by omega, by omega⟩)
      have hFx3_ : ai_fr (sx_W vw_2t4) S0_ (sm_aI S_ 94 0 k_.toNat v0_) := ai_fr_tr hF_ (ai_fr_aI rfl)
      refine sm_T_inc (a := 2) (z := 1) (v := k_) (w := k_ + 1) rfl rfl (by omega) (by omega) (by omega) ?_ -- pc_ 14
      refine sm_T_go 1 (c1 := (5, [some (.inr (.inr (some (94, 0)))), some (.inl v0_), some (.inl (k_ + 1)), some (.inl 162)], [], sm_aI S_ 94 0 k_.toNat v0_)) rfl ?_
      refine ih_ (k_ + 1) (sm_aI S_ 94 0 k_.toNat v0_) hIx2_ hFx3_ ⟨?_, ?_, trivial⟩ ?_
      · omega
      · intro j_ hj_
        rw [rd_eq]
        by_cases z_ : j_ = k_.toNat
        · rw [if_pos z_]
        · rw [if_neg z_]; exact h1_ j_ (by omega)
      · omega
set_option maxHeartbeats 400000 in
theorem vc_2t4 {sc_ : Nat × (Nat → Int)} (v0_ : Int) (S0_ : sm_S) (hI_ : gi S0_) (hv_ : 0 ≤ v0_ ∧ v0_ ≤ 1) : sm_T (mt_P sc_) 0 2 (0, [some (.inr (.inr (some (94, 0)))), some (.inl v0_), none, none], [], S0_) (fun ro9_ => ∃ u_ S1_, ro9_ = (.inl u_, S1_, 0) ∧ vq_2t4 v0_ S0_ u_ S1_) := by
  have hF_ : ai_fr (sx_W vw_2t4) S0_ S0_ := ai_fr_rf
  refine sm_T_go 5 (c1 := (5, [some (.inr (.inr (some (94, 0)))), some (.inl v0_), some (.inl 0), some (.inl 162)], [], S0_)) rfl ?_
  refine (vl_2t4 v0_ S0_ hv_ _) 0 S0_ hI_ hF_ ⟨?_, ?_, trivial⟩ (Nat.lt_succ_self _)
  · omega
  · (intro j_ hj_; exact absurd hj_ (Nat.not_lt_zero _))
end
/-! 99.zl8i -/
section
/-! java/util/Arrays.fill -/
def vw_2f1 : sx_Wl := ([], [41], [])
def vq_2f1 (v0_ : Int) (cc_ : Nat) (S0_ : sm_S) (u_ : Option sm_V) (S1_ : sm_S) : Prop := u_ = none ∧ gi S1_ ∧ ai_fr (sx_W vw_2f1) S0_ S1_ ∧ (cdf cc_ S0_ S1_ ∧ (∀ j_, j_ < 1224 → S1_.2.2.1 41 (0 + cc_) j_ = v0_))
set_option maxHeartbeats 400000 in
theorem vl_2f1 {sc_ : Nat × (Nat → Int)} (v0_ : Int) (cc_ : Nat) (S0_ : sm_S) (hv_ : 0 ≤ v0_ ∧ v0_ ≤ 1) : ∀ nn_ : Nat, (∀ (k_ : Int) (S_ : sm_S), gi S_ → ai_fr (sx_W vw_2f1) S0_ S_ → ((0 ≤ k_ ∧ k_ ≤ 1224) ∧ (∀ j_, j_ < k_.toNat → S_.2.2.1 41 (0 + cc_) j_ = v0_) ∧ (cdf cc_ S0_ S_) ∧ True) → ((1224 - k_).toNat) < nn_ → sm_T (mt_P sc_) 0 2 (5, [some (.inr (.inr (some (41, (0 + cc_))))), some (.inl v0_), some (.inl k_), some (.inl 1224)], [], S_) (fun ro9_ => ∃ u_ S1_, ro9_ = (.inl u_, S1_, 0) ∧ vq_2f1 v0_ cc_ S0_ u_ S1_)) := by
  intro nn_
  induction nn_ with
  | zero => exact fun _ _ _ _ _ h_ => absurd h_ (Nat.not_lt_zero _)
  | succ nn_ ih_ =>
    rintro k_ S_ hI_ hF_ ⟨h0_, h1_, hC_, -⟩ hm_
    refine sm_T_go 2 (c1 := (7, [some (.inr (.inr (some (41, (0 + cc_))))), some (.inl v0_), some (.inl k_), some (.inl 1224)], [.inl 1224, .inl k_], S_)) rfl ?_
    refine sm_T_br (a := 3) (z := 13) rfl (fun cx1_ => ?_) (fun cx1_ => ?_)
    · have cx1_ : 1224 ≤ k_ := of_decide_eq_true cx1_
      refine sm_T_rv rfl ⟨_, _, rfl, rfl, hI_, hF_, ?_⟩
      refine ⟨hC_, ?_⟩
      exact fun j_ hj_ => h1_ j_ (by omega)
    · have cx1_ : ¬ (1224 ≤ k_) := of_decide_eq_false cx1_
      refine sm_T_go 3 (c1 := (13, [some (.inr (.inr (some (41, (0 + cc_))))), some (.inl v0_), some (.inl k_), some (.inl 1224)], [.inl v0_, .inl k_, .inr (.inr (some (41, (0 + cc_))))], S_)) rfl ?_
      refine sm_T_iast (n := 1224) rfl rfl (by omega) (by omega) ?_
      have hIx2_ : gi (sm_aI S_ 41 (0 + cc_) k_.toNat v0_) := gi_aI hI_ (show 0 ≤ v0_ ∧ v0_ ≤ 1 from ⟨by omega, by omega⟩)
      have hFx3_ : ai_fr (sx_W vw_2f1) S0_ (sm_aI S_ 41 (0 + cc_) k_.toNat v0_) := ai_fr_tr hF_ (ai_fr_aI rfl)
      have hCx4_ : cdf cc_ S0_ (sm_aI S_ 41 (0 + cc_) k_.toNat v0_) := cdf_aI hC_ (Or.inr (by rw [show cof 41 = 0 from rfl] <;> omega))
      refine sm_T_inc (a := 2) (z := 1) (v := k_) (w := k_ + 1) rfl rfl (by omega) (by omega) (by omega) ?_ -- pc_ 14
      refine sm_T_go 1 (c1 := (5, [some (.inr (.inr (some (41, (0 + cc_))))), some (.inl v0_), some (.inl (k_ + 1)), some (.inl 1224)], [], sm_aI S_ 41 (0 + cc_) k_.toNat v0_)) rfl ?_
      refine ih_ (k_ + 1) (sm_aI S_ 41 (0 + cc_) k_.toNat v0_) hIx2_ hFx3_ ⟨?_, ?_, ?_, trivial⟩ ?_
      · omega
      · intro j_ hj_
        rw [rd_eq]
        by_cases z_ : j_ = k_.toNat
        · rw [if_pos z_]
        · rw [if_neg z_]; exact h1_ j_ (by omega)
      · exact hCx4_
      · omega
set_option maxHeartbeats 400000 in
theorem vc_2f1 {sc_ : Nat × (Nat → Int)} (v0_ : Int) (cc_ : Nat) (S0_ : sm_S) (hI_ : gi S0_) (hv_ : 0 ≤ v0_ ∧ v0_ ≤ 1) : sm_T (mt_P sc_) 0 2 (0, [some (.inr (.inr (some (41, (0 + cc_))))), some (.inl v0_), none, none], [], S0_) (fun ro9_ => ∃ u_ S1_, ro9_ = (.inl u_, S1_, 0) ∧ vq_2f1 v0_ cc_ S0_ u_ S1_) := by
  have hF_ : ai_fr (sx_W vw_2f1) S0_ S0_ := ai_fr_rf
  have hC_ : cdf cc_ S0_ S0_ := cdf_rf
  refine sm_T_go 5 (c1 := (5, [some (.inr (.inr (some (41, (0 + cc_))))), some (.inl v0_), some (.inl 0), some (.inl 1224)], [], S0_)) rfl ?_
  refine (vl_2f1 v0_ cc_ S0_ hv_ _) 0 S0_ hI_ hF_ ⟨?_, ?_, ?_, trivial⟩ (Nat.lt_succ_self _)
  · omega
  · (intro j_ hj_; exact absurd hj_ (Nat.not_lt_zero _))
  · exact hC_
end
/-! 99.zl9a -/
section
/-! a chip plays; written by wip/p55/gen/vg -/

/-! a_ chip's table -/
def ctb (cc_ : Nat) (S_ : sm_S) : Prop := ∀ p_ : Nat, p_ < 4096 → 0 ≤ S_.2.2.1 34 (0 + cc_) p_ ∧ S_.2.2.1 34 (0 + cc_) p_ < 2 ^ (16 + (S_.1 2 cc_ 2).toNat)
/-! java/util/Arrays.fill -/
def vw_2c4 : sx_Wl := ([], [34], [])
def vq_2c4 (v0_ : Int) (cc_ : Nat) (S0_ : sm_S) (u_ : Option sm_V) (S1_ : sm_S) : Prop := u_ = none ∧ gi S1_ ∧ ai_fr (sx_W vw_2c4) S0_ S1_ ∧ (cdf cc_ S0_ S1_ ∧ (∀ j_, j_ < 4096 → S1_.2.2.1 34 (0 + cc_) j_ = v0_))
set_option maxHeartbeats 400000 in
theorem vl_2c4 {sc_ : Nat × (Nat → Int)} (v0_ : Int) (cc_ : Nat) (S0_ : sm_S) (hv_ : 0 ≤ v0_ ∧ v0_ ≤ 4194303) : ∀ nn_ : Nat, (∀ (k_ : Int) (S_ : sm_S), gi S_ → ai_fr (sx_W vw_2c4) S0_ S_ → ((0 ≤ k_ ∧ k_ ≤ 4096) ∧ (∀ j_, j_ < k_.toNat → S_.2.2.1 34 (0 + cc_) j_ = v0_) ∧ (cdf cc_ S0_ S_) ∧ True) → ((4096 - k_).toNat) < nn_ → sm_T (mt_P sc_) 0 2 (5, [some (.inr (.inr (some (34, (0 + cc_))))), some (.inl v0_), some (.inl k_), some (.inl 4096)], [], S_) (fun ro9_ => ∃ u_ S1_, ro9_ = (.inl u_, S1_, 0) ∧ vq_2c4 v0_ cc_ S0_ u_ S1_)) := by
  intro nn_
  induction nn_ with
  | zero => exact fun _ _ _ _ _ h_ => absurd h_ (Nat.not_lt_zero _)
  | succ nn_ ih_ =>
    rintro k_ S_ hI_ hF_ ⟨h0_, h1_, hC_, -⟩ hm_
    refine sm_T_go 2 (c1 := (7, [some (.inr (.inr (some (34, (0 + cc_))))), some (.inl v0_), some (.inl k_), some (.inl 4096)], [.inl 4096, .inl k_], S_)) rfl ?_
    refine sm_T_br (a := 3) (z := 13) rfl (fun cx1_ => ?_) (fun cx1_ => ?_)
    · have cx1_ : 4096 ≤ k_ := of_decide_eq_true cx1_
      refine sm_T_rv rfl ⟨_, _, rfl, rfl, hI_, hF_, ?_⟩
      refine ⟨hC_, ?_⟩
      exact fun j_ hj_ => h1_ j_ (by omega)
    · have cx1_ : ¬ (4096 ≤ k_) := of_decide_eq_false cx1_
      refine sm_T_go 3 (c1 := (13, [some (.inr (.inr (some (34, (0 + cc_))))), some (.inl v0_), some (.inl k_), some (.inl 4096)], [.inl v0_, .inl k_, .inr (.inr (some (34, (0 + cc_))))], S_)) rfl ?_
      refine sm_T_iast (n := 4096) rfl rfl (by omega) (by omega) ?_
      have hIx2_ : gi (sm_aI S_ 34 (0 + cc_) k_.toNat v0_) := gi_aI hI_ (show 0 ≤ v0_ ∧ v0_ ≤ 4194303 from ⟨by omega, by omega⟩)
      have hFx3_ : ai_fr (sx_W vw_2c4) S0_ (sm_aI S_ 34 (0 + cc_) k_.toNat v0_) := ai_fr_tr hF_ (ai_fr_aI rfl)
      have hCx4_ : cdf cc_ S0_ (sm_aI S_ 34 (0 + cc_) k_.toNat v0_) := cdf_aI hC_ (Or.inr (by rw [show cof 34 = 0 from rfl] <;> omega))
      refine sm_T_inc (a := 2) (z := 1) (v := k_) (w := k_ + 1) rfl rfl (by omega) (by omega) (by omega) ?_ -- pc_ 14
      refine sm_T_go 1 (c1 := (5, [some (.inr (.inr (some (34, (0 + cc_))))), some (.inl v0_), some (.inl (k_ + 1)), some (.inl 4096)], [], sm_aI S_ 34 (0 + cc_) k_.toNat v0_)) rfl ?_
      refine ih_ (k_ + 1) (sm_aI S_ 34 (0 + cc_) k_.toNat v0_) hIx2_ hFx3_ ⟨?_, ?_, ?_, trivial⟩ ?_
      · omega
      · intro j_ hj_
        rw [rd_eq]
        by_cases z_ : j_ = k_.toNat
        · rw [if_pos z_]
        · rw [if_neg z_]; exact h1_ j_ (by omega)
      · exact hCx4_
      · omega
set_option maxHeartbeats 400000 in
theorem vc_2c4 {sc_ : Nat × (Nat → Int)} (v0_ : Int) (cc_ : Nat) (S0_ : sm_S) (hI_ : gi S0_) (hv_ : 0 ≤ v0_ ∧ v0_ ≤ 4194303) : sm_T (mt_P sc_) 0 2 (0, [some (.inr (.inr (some (34, (0 + cc_))))), some (.inl v0_), none, none], [], S0_) (fun ro9_ => ∃ u_ S1_, ro9_ = (.inl u_, S1_, 0) ∧ vq_2c4 v0_ cc_ S0_ u_ S1_) := by
  have hF_ : ai_fr (sx_W vw_2c4) S0_ S0_ := ai_fr_rf
  have hC_ : cdf cc_ S0_ S0_ := cdf_rf
  refine sm_T_go 5 (c1 := (5, [some (.inr (.inr (some (34, (0 + cc_))))), some (.inl v0_), some (.inl 0), some (.inl 4096)], [], S0_)) rfl ?_
  refine (vl_2c4 v0_ cc_ S0_ hv_ _) 0 S0_ hI_ hF_ ⟨?_, ?_, ?_, trivial⟩ (Nat.lt_succ_self _)
  · omega
  · (intro j_ hj_; exact absurd hj_ (Nat.not_lt_zero _))
  · exact hC_
end
/-! 99.zl9b -/
section
/-! Tester.fillTable -/
def vw_169 : sx_Wl := ([(9, 1), (9, 2), (9, 3)], [34, 92, 93, 94, 96], [(9, 0)])
end
