/-! boxes of a board; written by wip/p55/gen/vg -/

/-! how_ many boxes each net_ has_ -/
def cg (g_ : Nat → Nat → Int) (c_ : Int) (w_ : Nat) : Nat → Nat
  | 0 => 0
  | y_ + 1 => cg g_ c_ w_ y_ + cne (g_ y_) c_ w_
theorem cg_s (g_ : Nat → Nat → Int) (c_ : Int) (w_ y_ : Nat) : cg g_ c_ w_ (y_ + 1) = cg g_ c_ w_ y_ + cne (g_ y_) c_ w_ := rfl
theorem cg_mo {g_ : Nat → Nat → Int} {c_ : Int} {w_ y_ : Nat} : ∀ {h_ : Nat}, y_ ≤ h_ → cg g_ c_ w_ y_ ≤ cg g_ c_ w_ h_
  | 0, q_ => by rw [show y_ = 0 by omega]; exact Nat.le_refl _
  | h_ + 1, q_ => by
    by_cases z_ : y_ = h_ + 1
    · rw [z_]; exact Nat.le_refl _
    · have a_ := cg_mo (g_ := g_) (c_ := c_) (w_ := w_) (y_ := y_) (h_ := h_) (by omega)
      rw [cg_s]; omega
theorem cg_le {g_ : Nat → Nat → Int} {c_ : Int} {w_ : Nat} : ∀ (y_ : Nat), cg g_ c_ w_ y_ ≤ y_ * w_
  | 0 => Nat.zero_le _
  | y_ + 1 => by
    have a_ := cg_le (g_ := g_) (c_ := c_) (w_ := w_) y_
    have b_ := cne_le (g_ y_) c_ w_
    rw [cg_s, Nat.add_mul, Nat.one_mul]; omega
theorem cg_st {g_ : Nat → Nat → Int} {c_ : Int} {w_ y_ x_ h_ : Nat} (hx_ : x_ < w_) (hy_ : y_ < h_) (e_ : g_ y_ x_ = c_) : cg g_ c_ w_ y_ + cne (g_ y_) c_ x_ + 1 ≤ cg g_ c_ w_ h_ := by
  have a_ := cg_mo (g_ := g_) (c_ := c_) (w_ := w_) (y_ := y_ + 1) (h_ := h_) hy_
  have b_ := cne_st (f := g_ y_) (c := c_) (j := x_) e_ (n := w_) hx_
  rw [cg_s] at a_
  omega
def gt0 (bb_ : Nat) (S_ : sm_S) (y_ x_ : Nat) : Int := tk0 (S_.2.2.1 22 (0 + bb_)) (S_.2.2.1 23 (0 + bb_)) (S_.1 0 bb_ 0 + 2) (y_ : Int) (x_ : Int)
def gt1 (bb_ : Nat) (S_ : sm_S) (x_ y_ : Nat) : Int := tk1 (S_.2.2.1 22 (0 + bb_)) (S_.2.2.1 23 (0 + bb_)) (S_.1 0 bb_ 2) (S_.1 0 bb_ 0) (x_ : Int) (y_ : Int)
def gt2 (bb_ : Nat) (S_ : sm_S) (y_ x_ : Nat) : Int := tk2 (S_.2.2.1 22 (0 + bb_)) (S_.2.2.1 23 (0 + bb_)) (S_.1 0 bb_ 0 + 2) (y_ : Int) (x_ : Int)
def gtw (bb_ : Nat) (S_ : sm_S) : Nat := (S_.1 0 bb_ 0 + 2).toNat
def gth (bb_ : Nat) (S_ : sm_S) : Nat := (S_.1 0 bb_ 2).toNat
def btot (bb_ : Nat) (S_ : sm_S) (c_ : Int) : Nat := cg (gt0 bb_ S_) c_ (gtw bb_ S_) (gth bb_ S_) + cg (gt1 bb_ S_) c_ (gth bb_ S_) (gtw bb_ S_) + cg (gt2 bb_ S_) c_ (gtw bb_ S_) (gth bb_ S_)
theorem tk0_b {o_ s_ : Nat → Int} {w_ y_ x_ : Int} (h_ : ∀ k_, -1 ≤ o_ k_ ∧ o_ k_ ≤ 161) : -1 ≤ tk0 o_ s_ w_ y_ x_ ∧ tk0 o_ s_ w_ y_ x_ ≤ 161 := by
  unfold tk0
  have a_ := h_ (y_ * w_ + x_).toNat
  split
  · omega
  · split <;> omega
theorem tk1_b {o_ s_ : Nat → Int} {h9_ w_ y_ x_ : Int} (h_ : ∀ k_, -1 ≤ o_ k_ ∧ o_ k_ ≤ 161) : -1 ≤ tk1 o_ s_ h9_ w_ x_ y_ ∧ tk1 o_ s_ h9_ w_ x_ y_ ≤ 161 := by
  unfold tk1
  have a_ := h_ ((h9_ + y_) * (w_ + 2) + x_).toNat
  split
  · omega
  · split <;> omega
/-- counts so_ far_: P_ of_ each net_ -/
def nbx (ii_ : Nat) (P_ : Int → Nat) (S0_ S_ : sm_S) : Prop := ∀ c_ : Nat, c_ < 162 → S_.2.2.1 49 (0 + ii_) c_ = S0_.2.2.1 49 (0 + ii_) c_ + (P_ (c_ : Int) : Int)
theorem nbx_st {ii_ : Nat} {P_ P'_ : Int → Nat} {S0_ S_ S'_ : sm_S} {t_ : Int} (h_ : nbx ii_ P_ S0_ S_) (g_ : nxb9 ii_ t_ S_ S'_) (e_ : ∀ c_ : Int, P'_ c_ = P_ c_ + if t_ = c_ then 1 else 0) : nbx ii_ P'_ S0_ S'_ := by
  intro c_ hc_
  rw [g_ c_, h_ c_ hc_, e_]
  split <;> (push_cast; omega)
theorem nbx_cg {ii_ : Nat} {P_ P'_ : Int → Nat} {S0_ S_ : sm_S} (h_ : nbx ii_ P_ S0_ S_) (e_ : ∀ c_ : Int, P'_ c_ = P_ c_) : nbx ii_ P'_ S0_ S_ := by
  intro c_ hc_
  rw [e_]
  exact h_ c_ hc_
theorem nbx_bd {ii_ : Nat} {P_ : Int → Nat} {S0_ S_ : sm_S} {t_ M_ : Int} {T_ : Int → Nat} (h_ : nbx ii_ P_ S0_ S_) (h0_ : 0 ≤ t_) (h1_ : t_ ≤ 161) (hT_ : ∀ c_ : Nat, c_ < 162 → S0_.2.2.1 49 (0 + ii_) c_ + (T_ (c_ : Int) : Int) ≤ M_) (hs_ : P_ t_ + 1 ≤ T_ t_) : S_.2.2.1 49 (0 + ii_) t_.toNat ≤ M_ - 1 := by
  have a_ := h_ t_.toNat (by omega)
  have b_ := hT_ t_.toNat (by omega)
  rw [show ((t_.toNat : Nat) : Int) = t_ by omega] at a_ b_
  omega
/-! Layout.scanBoard -/
def vw_73 : sx_Wl := ([], [48, 49], [])
def vq_73 (ii_ : Nat) (bb_ : Nat) (S0_ : sm_S) (u_ : Option sm_V) (S1_ : sm_S) : Prop := u_ = none ∧ gi S1_ ∧ ai_fr (sx_W vw_73) S0_ S1_ ∧ (cdf ii_ S0_ S1_ ∧ (nbx ii_ (btot bb_ S0_) S0_ S1_))
set_option maxHeartbeats 4000000 in
theorem vl_73 {sc_ : Nat × (Nat → Int)} (ii_ : Nat) (bb_ : Nat) (S0_ : sm_S) (hI0_ : gi S0_) (hst_ : bst bb_ S0_) (hT1_ : ∀ c_ : Nat, c_ < 162 → S0_.2.2.1 49 (0 + ii_) c_ + (btot bb_ S0_ (c_ : Int) : Int) ≤ 20000) (hT2_ : S0_.1 4 ii_ 11 ≠ 0 → ∀ c_ : Nat, c_ < 162 → S0_.2.2.1 49 (0 + ii_) c_ + (btot bb_ S0_ (c_ : Int) : Int) ≤ 2000) : ∀ nn_ : Nat, (∀ (w9_ : Int) (y_ : Int) (S_ : sm_S), gi S_ → ai_fr (sx_W vw_73) S0_ S_ → ((0 ≤ y_ ∧ y_ ≤ S0_.1 0 bb_ 2 ∧ w9_ = S0_.1 0 bb_ 0 + 2) ∧ (nbx ii_ (fun c9_ => cg (gt0 bb_ S0_) c9_ (gtw bb_ S0_) y_.toNat) S0_ S_) ∧ (cdf ii_ S0_ S_) ∧ True) → ((200000 + 100 * (100 - y_) + 99).toNat) < nn_ → sm_T (mt_P sc_) 3 73 (9, [some (.inr (.inr (some (4, ii_)))), some (.inr (.inr (some (0, bb_)))), some (.inl w9_), some (.inl y_), none, none], [], S_) (fun ro9_ => ∃ u_ S1_, ro9_ = (.inl u_, S1_, 0) ∧ vq_73 ii_ bb_ S0_ u_ S1_)) ∧ (∀ (w9_ : Int) (y_ : Int) (x_ : Int) (S_ : sm_S), gi S_ → ai_fr (sx_W vw_73) S0_ S_ → ((0 ≤ y_ ∧ y_ < S0_.1 0 bb_ 2 ∧ w9_ = S0_.1 0 bb_ 0 + 2 ∧ 0 ≤ x_ ∧ x_ ≤ w9_) ∧ (nbx ii_ (fun c9_ => cg (gt0 bb_ S0_) c9_ (gtw bb_ S0_) y_.toNat + cne (gt0 bb_ S0_ y_.toNat) c9_ x_.toNat) S0_ S_) ∧ (cdf ii_ S0_ S_) ∧ True) → ((200000 + 100 * (100 - y_) + 90 - x_).toNat) < nn_ → sm_T (mt_P sc_) 3 73 (20, [some (.inr (.inr (some (4, ii_)))), some (.inr (.inr (some (0, bb_)))), some (.inl w9_), some (.inl y_), some (.inl x_), none], [], S_) (fun ro9_ => ∃ u_ S1_, ro9_ = (.inl u_, S1_, 0) ∧ vq_73 ii_ bb_ S0_ u_ S1_)) ∧ (∀ (w9_ : Int) (x_ : Int) (S_ : sm_S), gi S_ → ai_fr (sx_W vw_73) S0_ S_ → ((0 ≤ x_ ∧ x_ ≤ w9_ ∧ w9_ = S0_.1 0 bb_ 0 + 2) ∧ (nbx ii_ (fun c9_ => cg (gt0 bb_ S0_) c9_ (gtw bb_ S0_) (gth bb_ S0_) + cg (gt1 bb_ S0_) c9_ (gth bb_ S0_) x_.toNat) S0_ S_) ∧ (cdf ii_ S0_ S_) ∧ True) → ((100000 + 100 * (100 - x_) + 99).toNat) < nn_ → sm_T (mt_P sc_) 3 73 (49, [some (.inr (.inr (some (4, ii_)))), some (.inr (.inr (some (0, bb_)))), some (.inl w9_), some (.inl x_), none, none], [], S_) (fun ro9_ => ∃ u_ S1_, ro9_ = (.inl u_, S1_, 0) ∧ vq_73 ii_ bb_ S0_ u_ S1_)) ∧ (∀ (w9_ : Int) (x_ : Int) (y_ : Int) (S_ : sm_S), gi S_ → ai_fr (sx_W vw_73) S0_ S_ → ((0 ≤ x_ ∧ x_ < w9_ ∧ w9_ = S0_.1 0 bb_ 0 + 2 ∧ 0 ≤ y_ ∧ y_ ≤ S0_.1 0 bb_ 2) ∧ (nbx ii_ (fun c9_ => cg (gt0 bb_ S0_) c9_ (gtw bb_ S0_) (gth bb_ S0_) + cg (gt1 bb_ S0_) c9_ (gth bb_ S0_) x_.toNat + cne (gt1 bb_ S0_ x_.toNat) c9_ y_.toNat) S0_ S_) ∧ (cdf ii_ S0_ S_) ∧ True) → ((100000 + 100 * (100 - x_) + 90 - y_).toNat) < nn_ → sm_T (mt_P sc_) 3 73 (57, [some (.inr (.inr (some (4, ii_)))), some (.inr (.inr (some (0, bb_)))), some (.inl w9_), some (.inl x_), some (.inl y_), none], [], S_) (fun ro9_ => ∃ u_ S1_, ro9_ = (.inl u_, S1_, 0) ∧ vq_73 ii_ bb_ S0_ u_ S1_)) ∧ (∀ (w9_ : Int) (y_ : Int) (S_ : sm_S), gi S_ → ai_fr (sx_W vw_73) S0_ S_ → ((0 ≤ y_ ∧ y_ ≤ S0_.1 0 bb_ 2 ∧ w9_ = S0_.1 0 bb_ 0 + 2) ∧ (nbx ii_ (fun c9_ => cg (gt0 bb_ S0_) c9_ (gtw bb_ S0_) (gth bb_ S0_) + cg (gt1 bb_ S0_) c9_ (gth bb_ S0_) (gtw bb_ S0_) + cg (gt2 bb_ S0_) c9_ (gtw bb_ S0_) y_.toNat) S0_ S_) ∧ (cdf ii_ S0_ S_) ∧ True) → ((100 * (100 - y_) + 99).toNat) < nn_ → sm_T (mt_P sc_) 3 73 (89, [some (.inr (.inr (some (4, ii_)))), some (.inr (.inr (some (0, bb_)))), some (.inl w9_), some (.inl y_), none, none], [], S_) (fun ro9_ => ∃ u_ S1_, ro9_ = (.inl u_, S1_, 0) ∧ vq_73 ii_ bb_ S0_ u_ S1_)) ∧ (∀ (w9_ : Int) (y_ : Int) (x_ : Int) (S_ : sm_S), gi S_ → ai_fr (sx_W vw_73) S0_ S_ → ((0 ≤ y_ ∧ y_ < S0_.1 0 bb_ 2 ∧ w9_ = S0_.1 0 bb_ 0 + 2 ∧ 0 ≤ x_ ∧ x_ ≤ w9_) ∧ (nbx ii_ (fun c9_ => cg (gt0 bb_ S0_) c9_ (gtw bb_ S0_) (gth bb_ S0_) + cg (gt1 bb_ S0_) c9_ (gth bb_ S0_) (gtw bb_ S0_) + cg (gt2 bb_ S0_) c9_ (gtw bb_ S0_) y_.toNat + cne (gt2 bb_ S0_ y_.toNat) c9_ x_.toNat) S0_ S_) ∧ (cdf ii_ S0_ S_) ∧ True) → ((100 * (100 - y_) + 90 - x_).toNat) < nn_ → sm_T (mt_P sc_) 3 73 (100, [some (.inr (.inr (some (4, ii_)))), some (.inr (.inr (some (0, bb_)))), some (.inl w9_), some (.inl y_), some (.inl x_), none], [], S_) (fun ro9_ => ∃ u_ S1_, ro9_ = (.inl u_, S1_, 0) ∧ vq_73 ii_ bb_ S0_ u_ S1_)) := by
  intro nn_
  induction nn_ with
  | zero => exact ⟨fun _ _ _ _ _ _ h_ => absurd h_ (Nat.not_lt_zero _), fun _ _ _ _ _ _ _ h_ => absurd h_ (Nat.not_lt_zero _), fun _ _ _ _ _ _ h_ => absurd h_ (Nat.not_lt_zero _), fun _ _ _ _ _ _ _ h_ => absurd h_ (Nat.not_lt_zero _), fun _ _ _ _ _ _ h_ => absurd h_ (Nat.not_lt_zero _), fun _ _ _ _ _ _ _ h_ => absurd h_ (Nat.not_lt_zero _)⟩
  | succ nn_ ih_ =>
    refine ⟨?_, ?_, ?_, ?_, ?_, ?_⟩
    · rintro w9_ y_ S_ hI_ hF_ ⟨h0_, hb_, hC_, -⟩ hm_
      have e22_ : S_.2.2.1 22 (0 + bb_) = S0_.2.2.1 22 (0 + bb_) := fr_arr hF_ rfl
      have e23_ : S_.2.2.1 23 (0 + bb_) = S0_.2.2.1 23 (0 + bb_) := fr_arr hF_ rfl
      have e0_ : S_.1 0 bb_ 0 = S0_.1 0 bb_ 0 := hF_.1 0 bb_ 0 rfl
      have e2_ : S_.1 0 bb_ 2 = S0_.1 0 bb_ 2 := hF_.1 0 bb_ 2 rfl
      have ew : S_.1 4 ii_ 11 = S0_.1 4 ii_ 11 := hF_.1 4 ii_ 11 rfl
      have cs_ : 0 ≤ S_.1 0 bb_ 0 ∧ S_.1 0 bb_ 0 ≤ 60 := hI_.1 0 bb_ 0 rfl
      have ch_ : 0 ≤ S_.1 0 bb_ 2 ∧ S_.1 0 bb_ 2 ≤ 38 := hI_.1 0 bb_ 2 rfl
      have bx1_ : 0 ≤ S_.1 0 bb_ 2 ∧ S_.1 0 bb_ 2 ≤ 38 := hI_.1 0 bb_ 2 rfl
      refine sm_T_go 3 (c1 := (14, [some (.inr (.inr (some (4, ii_)))), some (.inr (.inr (some (0, bb_)))), some (.inl w9_), some (.inl y_), none, none], [.inl (S_.1 0 bb_ 2), .inl y_], S_)) rfl ?_
      refine sm_T_br (a := 3) (z := 33) rfl (fun cx2_ => ?_) (fun cx2_ => ?_)
      · have cx2_ : (S_.1 0 bb_ 2) ≤ y_ := of_decide_eq_true cx2_
        refine sm_T_go 2 (c1 := (49, [some (.inr (.inr (some (4, ii_)))), some (.inr (.inr (some (0, bb_)))), some (.inl w9_), some (.inl 0), none, none], [], S_)) rfl ?_
        refine ih_.2.2.1 w9_ 0 S_ hI_ hF_ ⟨?_, ?_, ?_, trivial⟩ ?_
        · omega
        · refine nbx_cg hb_ (fun c9_ => ?_)
          rw [show y_.toNat = gth bb_ S0_ by (show _ = Int.toNat _; omega)]
          rfl
        · exact hC_
        · omega
      · have cx2_ : ¬ ((S_.1 0 bb_ 2) ≤ y_) := of_decide_eq_false cx2_
        refine sm_T_go 2 (c1 := (20, [some (.inr (.inr (some (4, ii_)))), some (.inr (.inr (some (0, bb_)))), some (.inl w9_), some (.inl y_), some (.inl 0), none], [], S_)) rfl ?_
        refine ih_.2.1 w9_ y_ 0 S_ hI_ hF_ ⟨?_, ?_, ?_, trivial⟩ ?_
        · omega
        · exact nbx_cg hb_ (fun c9_ => rfl)
        · exact hC_
        · omega
    · rintro w9_ y_ x_ S_ hI_ hF_ ⟨h0_, hb_, hC_, -⟩ hm_
      have e22_ : S_.2.2.1 22 (0 + bb_) = S0_.2.2.1 22 (0 + bb_) := fr_arr hF_ rfl
      have e23_ : S_.2.2.1 23 (0 + bb_) = S0_.2.2.1 23 (0 + bb_) := fr_arr hF_ rfl
      have e0_ : S_.1 0 bb_ 0 = S0_.1 0 bb_ 0 := hF_.1 0 bb_ 0 rfl
      have e2_ : S_.1 0 bb_ 2 = S0_.1 0 bb_ 2 := hF_.1 0 bb_ 2 rfl
      have ew : S_.1 4 ii_ 11 = S0_.1 4 ii_ 11 := hF_.1 4 ii_ 11 rfl
      have cs_ : 0 ≤ S_.1 0 bb_ 0 ∧ S_.1 0 bb_ 0 ≤ 60 := hI_.1 0 bb_ 0 rfl
      have ch_ : 0 ≤ S_.1 0 bb_ 2 ∧ S_.1 0 bb_ 2 ≤ 38 := hI_.1 0 bb_ 2 rfl
      refine sm_T_go 2 (c1 := (23, [some (.inr (.inr (some (4, ii_)))), some (.inr (.inr (some (0, bb_)))), some (.inl w9_), some (.inl y_), some (.inl x_), none], [.inl w9_, .inl x_], S_)) rfl ?_
      refine sm_T_br (a := 3) (z := 18) rfl (fun cx1_ => ?_) (fun cx1_ => ?_)
      · have cx1_ : w9_ ≤ x_ := of_decide_eq_true cx1_
        refine sm_T_inc (a := 3) (z := 1) (v := y_) (w := y_ + 1) rfl rfl (by omega) (by omega) (by omega) ?_ -- pc_ 41
        refine sm_T_go 1 (c1 := (9, [some (.inr (.inr (some (4, ii_)))), some (.inr (.inr (some (0, bb_)))), some (.inl w9_), some (.inl (y_ + 1)), some (.inl x_), none], [], S_)) rfl ?_
        refine sm_T_wk [some (.inr (.inr (some (4, ii_)))), some (.inr (.inr (some (0, bb_)))), some (.inl w9_), some (.inl (y_ + 1)), none, none] (by exact ⟨rfl, rfl, rfl, rfl, trivial⟩) ?_
        refine ih_.1 w9_ (y_ + 1) S_ hI_ hF_ ⟨?_, ?_, ?_, trivial⟩ ?_
        · omega
        · refine nbx_cg hb_ (fun c9_ => ?_)
          rw [show (y_ + 1).toNat = y_.toNat + 1 by omega, cg_s, show x_.toNat = gtw bb_ S0_ by (show _ = Int.toNat _; omega)]
        · exact hC_
        · omega
      · have cx1_ : ¬ (w9_ ≤ x_) := of_decide_eq_false cx1_
        have tb9_ := tk0_b (o_ := S0_.2.2.1 22 (0 + bb_)) (s_ := S0_.2.2.1 23 (0 + bb_)) (w_ := S0_.1 0 bb_ 0 + 2) (y_ := y_) (x_ := x_) (fun k9_ => hI0_.2 22 (0 + bb_) k9_)
        refine sm_T_go 5 (c1 := (32, [some (.inr (.inr (some (4, ii_)))), some (.inr (.inr (some (0, bb_)))), some (.inl w9_), some (.inl y_), some (.inl x_), none], [.inl y_, .inl x_, .inl 0, .inr (.inr (some (0, bb_))), .inr (.inr (some (4, ii_)))], S_)) rfl ?_
        refine sm_T_cal (d1 := 2) (Q1 := vq_74r x_ y_ ii_ bb_ S_) rfl rfl (by decide) (vc_74r x_ y_ ii_ bb_ S_ hI_ (by omega) (by omega) (by (rw [e22_, e23_, e0_, ew]; intro u9_ v9_; have z9_ := nbx_bd hb_ v9_ tb9_.2 (hT2_ u9_) (by have s9_ := cg_st (g_ := gt0 bb_ S0_) (w_ := gtw bb_ S0_) (y_ := y_.toNat) (x_ := x_.toNat) (h_ := gth bb_ S0_) (by show _ < Int.toNat _; omega) (by show _ < Int.toNat _; omega) (show gt0 bb_ S0_ y_.toNat x_.toNat = _ from by unfold gt0; rw [show ((y_.toNat : Nat) : Int) = y_ by omega, show ((x_.toNat : Nat) : Int) = x_ by omega]); unfold btot; (try dsimp only); omega); omega)) (by (rw [e22_, e23_, e0_]; intro v9_; have z9_ := nbx_bd hb_ v9_ tb9_.2 hT1_ (by have s9_ := cg_st (g_ := gt0 bb_ S0_) (w_ := gtw bb_ S0_) (y_ := y_.toNat) (x_ := x_.toNat) (h_ := gth bb_ S0_) (by show _ < Int.toNat _; omega) (by show _ < Int.toNat _; omega) (show gt0 bb_ S0_ y_.toNat x_.toNat = _ from by unfold gt0; rw [show ((y_.toNat : Nat) : Int) = y_ by omega, show ((x_.toNat : Nat) : Int) = x_ by omega]); unfold btot; (try dsimp only); omega); omega))) (fun u_ Sx2_ px5_ => ?_)
        obtain ⟨rfl, hIx3_, hFx4_, px5_⟩ := px5_
        have hFx6_ : ai_fr (sx_W vw_73) S0_ Sx2_ := ai_fr_tr hF_ (fr_le hFx4_ rfl)
        obtain ⟨dx8_, px5_⟩ := px5_
        have hCx7_ : cdf ii_ S0_ Sx2_ := cdf_tr hC_ (cdf_cg (by omega) dx8_)
        have n9_ := px5_
        rw [e22_, e23_, e0_] at n9_
        refine sm_T_inc (a := 4) (z := 1) (v := x_) (w := x_ + 1) rfl rfl (by omega) (by omega) (by omega) ?_ -- pc_ 35
        refine sm_T_go 1 (c1 := (20, [some (.inr (.inr (some (4, ii_)))), some (.inr (.inr (some (0, bb_)))), some (.inl w9_), some (.inl y_), some (.inl (x_ + 1)), none], [], Sx2_)) rfl ?_
        refine ih_.2.1 w9_ y_ (x_ + 1) Sx2_ hIx3_ hFx6_ ⟨?_, ?_, ?_, trivial⟩ ?_
        · omega
        · refine nbx_st hb_ n9_ (fun c9_ => ?_)
          rw [show (x_ + 1).toNat = x_.toNat + 1 by omega, cne_s]
          unfold gt0
          rw [show ((y_.toNat : Nat) : Int) = y_ by omega, show ((x_.toNat : Nat) : Int) = x_ by omega]
          omega
        · exact hCx7_
        · omega
    · rintro w9_ x_ S_ hI_ hF_ ⟨h0_, hb_, hC_, -⟩ hm_
      have e22_ : S_.2.2.1 22 (0 + bb_) = S0_.2.2.1 22 (0 + bb_) := fr_arr hF_ rfl
      have e23_ : S_.2.2.1 23 (0 + bb_) = S0_.2.2.1 23 (0 + bb_) := fr_arr hF_ rfl
      have e0_ : S_.1 0 bb_ 0 = S0_.1 0 bb_ 0 := hF_.1 0 bb_ 0 rfl
      have e2_ : S_.1 0 bb_ 2 = S0_.1 0 bb_ 2 := hF_.1 0 bb_ 2 rfl
      have ew : S_.1 4 ii_ 11 = S0_.1 4 ii_ 11 := hF_.1 4 ii_ 11 rfl
      have cs_ : 0 ≤ S_.1 0 bb_ 0 ∧ S_.1 0 bb_ 0 ≤ 60 := hI_.1 0 bb_ 0 rfl
      have ch_ : 0 ≤ S_.1 0 bb_ 2 ∧ S_.1 0 bb_ 2 ≤ 38 := hI_.1 0 bb_ 2 rfl
      refine sm_T_go 2 (c1 := (51, [some (.inr (.inr (some (4, ii_)))), some (.inr (.inr (some (0, bb_)))), some (.inl w9_), some (.inl x_), none, none], [.inl w9_, .inl x_], S_)) rfl ?_
      refine sm_T_br (a := 3) (z := 36) rfl (fun cx1_ => ?_) (fun cx1_ => ?_)
      · have cx1_ : w9_ ≤ x_ := of_decide_eq_true cx1_
        refine sm_T_go 2 (c1 := (89, [some (.inr (.inr (some (4, ii_)))), some (.inr (.inr (some (0, bb_)))), some (.inl w9_), some (.inl 0), none, none], [], S_)) rfl ?_
        refine ih_.2.2.2.2.1 w9_ 0 S_ hI_ hF_ ⟨?_, ?_, ?_, trivial⟩ ?_
        · omega
        · refine nbx_cg hb_ (fun c9_ => ?_)
          rw [show x_.toNat = gtw bb_ S0_ by (show _ = Int.toNat _; omega)]
          rfl
        · exact hC_
        · omega
      · have cx1_ : ¬ (w9_ ≤ x_) := of_decide_eq_false cx1_
        refine sm_T_go 2 (c1 := (57, [some (.inr (.inr (some (4, ii_)))), some (.inr (.inr (some (0, bb_)))), some (.inl w9_), some (.inl x_), some (.inl 0), none], [], S_)) rfl ?_
        refine ih_.2.2.2.1 w9_ x_ 0 S_ hI_ hF_ ⟨?_, ?_, ?_, trivial⟩ ?_
        · omega
        · exact nbx_cg hb_ (fun c9_ => rfl)
        · exact hC_
        · omega
    · rintro w9_ x_ y_ S_ hI_ hF_ ⟨h0_, hb_, hC_, -⟩ hm_
      have e22_ : S_.2.2.1 22 (0 + bb_) = S0_.2.2.1 22 (0 + bb_) := fr_arr hF_ rfl
      have e23_ : S_.2.2.1 23 (0 + bb_) = S0_.2.2.1 23 (0 + bb_) := fr_arr hF_ rfl
      have e0_ : S_.1 0 bb_ 0 = S0_.1 0 bb_ 0 := hF_.1 0 bb_ 0 rfl
      have e2_ : S_.1 0 bb_ 2 = S0_.1 0 bb_ 2 := hF_.1 0 bb_ 2 rfl
      have ew : S_.1 4 ii_ 11 = S0_.1 4 ii_ 11 := hF_.1 4 ii_ 11 rfl
      have cs_ : 0 ≤ S_.1 0 bb_ 0 ∧ S_.1 0 bb_ 0 ≤ 60 := hI_.1 0 bb_ 0 rfl
      have ch_ : 0 ≤ S_.1 0 bb_ 2 ∧ S_.1 0 bb_ 2 ≤ 38 := hI_.1 0 bb_ 2 rfl
      have bx1_ : 0 ≤ S_.1 0 bb_ 2 ∧ S_.1 0 bb_ 2 ≤ 38 := hI_.1 0 bb_ 2 rfl
      refine sm_T_go 3 (c1 := (63, [some (.inr (.inr (some (4, ii_)))), some (.inr (.inr (some (0, bb_)))), some (.inl w9_), some (.inl x_), some (.inl y_), none], [.inl (S_.1 0 bb_ 2), .inl y_], S_)) rfl ?_
      refine sm_T_br (a := 3) (z := 18) rfl (fun cx2_ => ?_) (fun cx2_ => ?_)
      · have cx2_ : (S_.1 0 bb_ 2) ≤ y_ := of_decide_eq_true cx2_
        refine sm_T_inc (a := 3) (z := 1) (v := x_) (w := x_ + 1) rfl rfl (by omega) (by omega) (by omega) ?_ -- pc_ 81
        refine sm_T_go 1 (c1 := (49, [some (.inr (.inr (some (4, ii_)))), some (.inr (.inr (some (0, bb_)))), some (.inl w9_), some (.inl (x_ + 1)), some (.inl y_), none], [], S_)) rfl ?_
        refine sm_T_wk [some (.inr (.inr (some (4, ii_)))), some (.inr (.inr (some (0, bb_)))), some (.inl w9_), some (.inl (x_ + 1)), none, none] (by exact ⟨rfl, rfl, rfl, rfl, trivial⟩) ?_
        refine ih_.2.2.1 w9_ (x_ + 1) S_ hI_ hF_ ⟨?_, ?_, ?_, trivial⟩ ?_
        · omega
        · refine nbx_cg hb_ (fun c9_ => ?_)
          rw [show (x_ + 1).toNat = x_.toNat + 1 by omega, cg_s, show y_.toNat = gth bb_ S0_ by (show _ = Int.toNat _; omega)]
          omega
        · exact hC_
        · omega
      · have cx2_ : ¬ ((S_.1 0 bb_ 2) ≤ y_) := of_decide_eq_false cx2_
        have tb9_ := tk1_b (o_ := S0_.2.2.1 22 (0 + bb_)) (s_ := S0_.2.2.1 23 (0 + bb_)) (h9_ := S0_.1 0 bb_ 2) (w_ := S0_.1 0 bb_ 0) (y_ := y_) (x_ := x_) (fun k9_ => hI0_.2 22 (0 + bb_) k9_)
        refine sm_T_go 5 (c1 := (72, [some (.inr (.inr (some (4, ii_)))), some (.inr (.inr (some (0, bb_)))), some (.inl w9_), some (.inl x_), some (.inl y_), none], [.inl y_, .inl x_, .inl 1, .inr (.inr (some (0, bb_))), .inr (.inr (some (4, ii_)))], S_)) rfl ?_
        refine sm_T_cal (d1 := 2) (Q1 := vq_74c x_ y_ ii_ bb_ S_) rfl rfl (by decide) (vc_74c x_ y_ ii_ bb_ S_ hI_ (by omega) (by omega) (by (rw [e22_, e23_, e0_, e2_, ew]; intro u9_ v9_; have z9_ := nbx_bd hb_ v9_ tb9_.2 (hT2_ u9_) (by have s9_ := cg_st (g_ := gt1 bb_ S0_) (w_ := gth bb_ S0_) (y_ := x_.toNat) (x_ := y_.toNat) (h_ := gtw bb_ S0_) (by show _ < Int.toNat _; omega) (by show _ < Int.toNat _; omega) (show gt1 bb_ S0_ x_.toNat y_.toNat = _ from by unfold gt1; rw [show ((x_.toNat : Nat) : Int) = x_ by omega, show ((y_.toNat : Nat) : Int) = y_ by omega]); unfold btot; (try dsimp only); omega); omega)) (by (rw [e22_, e23_, e0_, e2_]; intro v9_; have z9_ := nbx_bd hb_ v9_ tb9_.2 hT1_ (by have s9_ := cg_st (g_ := gt1 bb_ S0_) (w_ := gth bb_ S0_) (y_ := x_.toNat) (x_ := y_.toNat) (h_ := gtw bb_ S0_) (by show _ < Int.toNat _; omega) (by show _ < Int.toNat _; omega) (show gt1 bb_ S0_ x_.toNat y_.toNat = _ from by unfold gt1; rw [show ((x_.toNat : Nat) : Int) = x_ by omega, show ((y_.toNat : Nat) : Int) = y_ by omega]); unfold btot; (try dsimp only); omega); omega))) (fun u_ Sx3_ px6_ => ?_)
        obtain ⟨rfl, hIx4_, hFx5_, px6_⟩ := px6_
        have hFx7_ : ai_fr (sx_W vw_73) S0_ Sx3_ := ai_fr_tr hF_ (fr_le hFx5_ rfl)
        obtain ⟨dx9_, px6_⟩ := px6_
        have hCx8_ : cdf ii_ S0_ Sx3_ := cdf_tr hC_ (cdf_cg (by omega) dx9_)
        have ex10_ : Sx3_.1 0 bb_ 2 = S_.1 0 bb_ 2 := hFx5_.1 0 bb_ 2 rfl
        have n9_ := px6_
        rw [e22_, e23_, e0_, e2_] at n9_
        refine sm_T_inc (a := 4) (z := 1) (v := y_) (w := y_ + 1) rfl rfl (by omega) (by omega) (by omega) ?_ -- pc_ 75
        refine sm_T_go 1 (c1 := (57, [some (.inr (.inr (some (4, ii_)))), some (.inr (.inr (some (0, bb_)))), some (.inl w9_), some (.inl x_), some (.inl (y_ + 1)), none], [], Sx3_)) rfl ?_
        refine ih_.2.2.2.1 w9_ x_ (y_ + 1) Sx3_ hIx4_ hFx7_ ⟨?_, ?_, ?_, trivial⟩ ?_
        · omega
        · refine nbx_st hb_ n9_ (fun c9_ => ?_)
          rw [show (y_ + 1).toNat = y_.toNat + 1 by omega, cne_s]
          unfold gt1
          rw [show ((y_.toNat : Nat) : Int) = y_ by omega, show ((x_.toNat : Nat) : Int) = x_ by omega]
          omega
        · exact hCx8_
        · omega
    · rintro w9_ y_ S_ hI_ hF_ ⟨h0_, hb_, hC_, -⟩ hm_
      have e22_ : S_.2.2.1 22 (0 + bb_) = S0_.2.2.1 22 (0 + bb_) := fr_arr hF_ rfl
      have e23_ : S_.2.2.1 23 (0 + bb_) = S0_.2.2.1 23 (0 + bb_) := fr_arr hF_ rfl
      have e0_ : S_.1 0 bb_ 0 = S0_.1 0 bb_ 0 := hF_.1 0 bb_ 0 rfl
      have e2_ : S_.1 0 bb_ 2 = S0_.1 0 bb_ 2 := hF_.1 0 bb_ 2 rfl
      have ew : S_.1 4 ii_ 11 = S0_.1 4 ii_ 11 := hF_.1 4 ii_ 11 rfl
      have cs_ : 0 ≤ S_.1 0 bb_ 0 ∧ S_.1 0 bb_ 0 ≤ 60 := hI_.1 0 bb_ 0 rfl
      have ch_ : 0 ≤ S_.1 0 bb_ 2 ∧ S_.1 0 bb_ 2 ≤ 38 := hI_.1 0 bb_ 2 rfl
      have bx1_ : 0 ≤ S_.1 0 bb_ 2 ∧ S_.1 0 bb_ 2 ≤ 38 := hI_.1 0 bb_ 2 rfl
      refine sm_T_go 3 (c1 := (94, [some (.inr (.inr (some (4, ii_)))), some (.inr (.inr (some (0, bb_)))), some (.inl w9_), some (.inl y_), none, none], [.inl (S_.1 0 bb_ 2), .inl y_], S_)) rfl ?_
      refine sm_T_br (a := 3) (z := 62) rfl (fun cx2_ => ?_) (fun cx2_ => ?_)
      · have cx2_ : (S_.1 0 bb_ 2) ≤ y_ := of_decide_eq_true cx2_
        refine sm_T_rv rfl ⟨_, _, rfl, rfl, hI_, hF_, ?_⟩
        refine ⟨hC_, ?_⟩
        refine nbx_cg hb_ (fun c9_ => ?_)
        unfold btot
        rw [show y_.toNat = gth bb_ S0_ by (show _ = Int.toNat _; omega)]
      · have cx2_ : ¬ ((S_.1 0 bb_ 2) ≤ y_) := of_decide_eq_false cx2_
        refine sm_T_go 2 (c1 := (100, [some (.inr (.inr (some (4, ii_)))), some (.inr (.inr (some (0, bb_)))), some (.inl w9_), some (.inl y_), some (.inl 0), none], [], S_)) rfl ?_
        refine ih_.2.2.2.2.2 w9_ y_ 0 S_ hI_ hF_ ⟨?_, ?_, ?_, trivial⟩ ?_
        · omega
        · exact nbx_cg hb_ (fun c9_ => rfl)
        · exact hC_
        · omega
    · rintro w9_ y_ x_ S_ hI_ hF_ ⟨h0_, hb_, hC_, -⟩ hm_
      have e22_ : S_.2.2.1 22 (0 + bb_) = S0_.2.2.1 22 (0 + bb_) := fr_arr hF_ rfl
      have e23_ : S_.2.2.1 23 (0 + bb_) = S0_.2.2.1 23 (0 + bb_) := fr_arr hF_ rfl
      have e0_ : S_.1 0 bb_ 0 = S0_.1 0 bb_ 0 := hF_.1 0 bb_ 0 rfl
      have e2_ : S_.1 0 bb_ 2 = S0_.1 0 bb_ 2 := hF_.1 0 bb_ 2 rfl
      have ew : S_.1 4 ii_ 11 = S0_.1 4 ii_ 11 := hF_.1 4 ii_ 11 rfl
      have cs_ : 0 ≤ S_.1 0 bb_ 0 ∧ S_.1 0 bb_ 0 ≤ 60 := hI_.1 0 bb_ 0 rfl
      have ch_ : 0 ≤ S_.1 0 bb_ 2 ∧ S_.1 0 bb_ 2 ≤ 38 := hI_.1 0 bb_ 2 rfl
      refine sm_T_go 2 (c1 := (103, [some (.inr (.inr (some (4, ii_)))), some (.inr (.inr (some (0, bb_)))), some (.inl w9_), some (.inl y_), some (.inl x_), none], [.inl w9_, .inl x_], S_)) rfl ?_
      refine sm_T_br (a := 3) (z := 47) rfl (fun cx1_ => ?_) (fun cx1_ => ?_)
      · have cx1_ : w9_ ≤ x_ := of_decide_eq_true cx1_
        refine sm_T_inc (a := 3) (z := 1) (v := y_) (w := y_ + 1) rfl rfl (by omega) (by omega) (by omega) ?_ -- pc_ 150
        refine sm_T_go 1 (c1 := (89, [some (.inr (.inr (some (4, ii_)))), some (.inr (.inr (some (0, bb_)))), some (.inl w9_), some (.inl (y_ + 1)), some (.inl x_), none], [], S_)) rfl ?_
        refine sm_T_wk [some (.inr (.inr (some (4, ii_)))), some (.inr (.inr (some (0, bb_)))), some (.inl w9_), some (.inl (y_ + 1)), none, none] (by exact ⟨rfl, rfl, rfl, rfl, trivial⟩) ?_
        refine ih_.2.2.2.2.1 w9_ (y_ + 1) S_ hI_ hF_ ⟨?_, ?_, ?_, trivial⟩ ?_
        · omega
        · refine nbx_cg hb_ (fun c9_ => ?_)
          rw [show (y_ + 1).toNat = y_.toNat + 1 by omega, cg_s, show x_.toNat = gtw bb_ S0_ by (show _ = Int.toNat _; omega)]
          omega
        · exact hC_
        · omega
      · have cx1_ : ¬ (w9_ ≤ x_) := of_decide_eq_false cx1_
        refine sm_T_go 2 (c1 := (108, [some (.inr (.inr (some (4, ii_)))), some (.inr (.inr (some (0, bb_)))), some (.inl w9_), some (.inl y_), some (.inl x_), none], [.inl w9_, .inl y_], S_)) rfl ?_
        have bx2_ := mul_b (x_ := y_) (y_ := w9_) (X_ := 37) (Y_ := 62) (Z_ := 2294) (by omega) (by omega) (by decide)
        refine sm_T_bin (w := (y_ * w9_)) rfl (bi_mul rfl (by omega) (by omega)) ?_ -- pc_ 108
        refine sm_T_go 1 (c1 := (111, [some (.inr (.inr (some (4, ii_)))), some (.inr (.inr (some (0, bb_)))), some (.inl w9_), some (.inl y_), some (.inl x_), none], [.inl x_, .inl (y_ * w9_)], S_)) rfl ?_
        refine sm_T_bin (w := (y_ * w9_) + x_) rfl (bi_add (by omega) (by omega) (by omega)) ?_ -- pc_ 111
        refine sm_T_go 4 (c1 := (120, [some (.inr (.inr (some (4, ii_)))), some (.inr (.inr (some (0, bb_)))), some (.inl w9_), some (.inl y_), some (.inl x_), some (.inl ((y_ * w9_) + x_))], [.inl ((y_ * w9_) + x_), .inr (.inr (some (23, (0 + bb_))))], S_)) rfl ?_
        refine sm_T_iald (n := 4712) rfl rfl (by omega) (by omega) ?_
        have bx3_ : 0 ≤ S_.2.2.1 23 (0 + bb_) ((y_ * w9_) + x_).toNat ∧ S_.2.2.1 23 (0 + bb_) ((y_ * w9_) + x_).toNat ≤ 7 := hI_.2 23 (0 + bb_) _
        refine sm_T_go 1 (c1 := (122, [some (.inr (.inr (some (4, ii_)))), some (.inr (.inr (some (0, bb_)))), some (.inl w9_), some (.inl y_), some (.inl x_), some (.inl ((y_ * w9_) + x_))], [.inl 4, .inl (S_.2.2.1 23 (0 + bb_) ((y_ * w9_) + x_).toNat)], S_)) rfl ?_
        refine sm_T_bin (w := (i_and (S_.2.2.1 23 (0 + bb_) ((y_ * w9_) + x_).toNat) 4)) rfl rfl ?_ -- pc_ 122
        refine sm_T_b0 (a := 0) (z := 21) rfl (fun cx4_ => ?_) (fun cx4_ => ?_)
        · have cx4_ : (i_and (S_.2.2.1 23 (0 + bb_) ((y_ * w9_) + x_).toNat) 4) = 0 := of_decide_eq_true cx4_
          have t29_ : tk2 (S0_.2.2.1 22 (0 + bb_)) (S0_.2.2.1 23 (0 + bb_)) (S0_.1 0 bb_ 0 + 2) y_ x_ = -1 := by (unfold tk2; rw [show (S0_.1 0 bb_ 0 + 2) = w9_ by omega, ← e23_, ← e22_, if_pos cx4_])
          refine sm_T_inc (a := 4) (z := 1) (v := x_) (w := x_ + 1) rfl rfl (by omega) (by omega) (by omega) ?_ -- pc_ 144
          refine sm_T_go 1 (c1 := (100, [some (.inr (.inr (some (4, ii_)))), some (.inr (.inr (some (0, bb_)))), some (.inl w9_), some (.inl y_), some (.inl (x_ + 1)), some (.inl ((y_ * w9_) + x_))], [], S_)) rfl ?_
          refine sm_T_wk [some (.inr (.inr (some (4, ii_)))), some (.inr (.inr (some (0, bb_)))), some (.inl w9_), some (.inl y_), some (.inl (x_ + 1)), none] (by exact ⟨rfl, rfl, rfl, rfl, rfl, trivial⟩) ?_
          refine ih_.2.2.2.2.2 w9_ y_ (x_ + 1) S_ hI_ hF_ ⟨?_, ?_, ?_, trivial⟩ ?_
          · omega
          · have g9_ : ∀ c9_ : Int, cne (gt2 bb_ S0_ y_.toNat) c9_ (x_ + 1).toNat = cne (gt2 bb_ S0_ y_.toNat) c9_ x_.toNat + if tk2 (S0_.2.2.1 22 (0 + bb_)) (S0_.2.2.1 23 (0 + bb_)) (S0_.1 0 bb_ 0 + 2) y_ x_ = c9_ then 1 else 0 := fun c9_ => by (rw [show (x_ + 1).toNat = x_.toNat + 1 by omega, cne_s]; unfold gt2; rw [show ((y_.toNat : Nat) : Int) = y_ by omega, show ((x_.toNat : Nat) : Int) = x_ by omega])
            first | exact nbx_st hb_ n9_ (fun c9_ => by rw [g9_]; omega) | exact nbx_st hb_ (nxb9_n (t_ := -1) (by decide)) (fun c9_ => by rw [g9_, t29_]; omega)
          · exact hC_
          · omega
        · have cx4_ : ¬ ((i_and (S_.2.2.1 23 (0 + bb_) ((y_ * w9_) + x_).toNat) 4) = 0) := of_decide_eq_false cx4_
          have sn9_ : S0_.2.2.1 23 (0 + bb_) (y_ * w9_ + x_).toNat ≠ 0 := by (intro u9_; rw [← e23_] at u9_; rw [u9_] at cx4_; exact cx4_ (by decide))
          have on9_ := hst_ (y_ * w9_ + x_).toNat (by omega) sn9_
          have t29_ : tk2 (S0_.2.2.1 22 (0 + bb_)) (S0_.2.2.1 23 (0 + bb_)) (S0_.1 0 bb_ 0 + 2) y_ x_ = S_.2.2.1 22 (0 + bb_) (y_ * w9_ + x_).toNat := by (unfold tk2; rw [show (S0_.1 0 bb_ 0 + 2) = w9_ by omega, ← e23_, ← e22_, if_neg cx4_])
          refine sm_T_go 4 (c1 := (133, [some (.inr (.inr (some (4, ii_)))), some (.inr (.inr (some (0, bb_)))), some (.inl w9_), some (.inl y_), some (.inl x_), some (.inl ((y_ * w9_) + x_))], [.inl ((y_ * w9_) + x_), .inr (.inr (some (22, (0 + bb_)))), .inr (.inr (some (4, ii_)))], S_)) rfl ?_
          refine sm_T_iald (n := 4712) rfl rfl (by omega) (by omega) ?_
          have bx5_ : (-1) ≤ S_.2.2.1 22 (0 + bb_) ((y_ * w9_) + x_).toNat ∧ S_.2.2.1 22 (0 + bb_) ((y_ * w9_) + x_).toNat ≤ 161 := hI_.2 22 (0 + bb_) _
          refine sm_T_go 5 (c1 := (141, [some (.inr (.inr (some (4, ii_)))), some (.inr (.inr (some (0, bb_)))), some (.inl w9_), some (.inl y_), some (.inl x_), some (.inl ((y_ * w9_) + x_))], [.inl y_, .inl x_, .inl y_, .inl x_, .inl 2, .inl (S_.2.2.1 22 (0 + bb_) ((y_ * w9_) + x_).toNat), .inr (.inr (some (4, ii_)))], S_)) rfl ?_
          refine sm_T_cal (d1 := 1) (Q1 := vq_75 (S_.2.2.1 22 (0 + bb_) ((y_ * w9_) + x_).toNat) 2 x_ y_ x_ y_ ii_ S_) rfl rfl (by decide) (vc_75 (S_.2.2.1 22 (0 + bb_) ((y_ * w9_) + x_).toNat) 2 x_ y_ x_ y_ ii_ S_ hI_ (by (rw [← e22_] at on9_; omega)) (by decide) (by omega) (by (rw [ew]; intro u9_; have z9_ := nbx_bd (t_ := S_.2.2.1 22 (0 + bb_) (y_ * w9_ + x_).toNat) hb_ (by rw [← e22_] at on9_; omega) (by omega) (hT2_ u9_) (by have q9_ := t29_; have s9_ := cg_st (g_ := gt2 bb_ S0_) (w_ := gtw bb_ S0_) (y_ := y_.toNat) (x_ := x_.toNat) (h_ := gth bb_ S0_) (by show _ < Int.toNat _; omega) (by show _ < Int.toNat _; omega) (show gt2 bb_ S0_ y_.toNat x_.toNat = S_.2.2.1 22 (0 + bb_) (y_ * w9_ + x_).toNat from by unfold gt2; rw [show ((y_.toNat : Nat) : Int) = y_ by omega, show ((x_.toNat : Nat) : Int) = x_ by omega]; exact q9_); unfold btot; (try dsimp only); omega); omega)) (by (have z9_ := nbx_bd (t_ := S_.2.2.1 22 (0 + bb_) (y_ * w9_ + x_).toNat) hb_ (by rw [← e22_] at on9_; omega) (by omega) hT1_ (by have q9_ := t29_; have s9_ := cg_st (g_ := gt2 bb_ S0_) (w_ := gtw bb_ S0_) (y_ := y_.toNat) (x_ := x_.toNat) (h_ := gth bb_ S0_) (by show _ < Int.toNat _; omega) (by show _ < Int.toNat _; omega) (show gt2 bb_ S0_ y_.toNat x_.toNat = S_.2.2.1 22 (0 + bb_) (y_ * w9_ + x_).toNat from by unfold gt2; rw [show ((y_.toNat : Nat) : Int) = y_ by omega, show ((x_.toNat : Nat) : Int) = x_ by omega]; exact q9_); unfold btot; (try dsimp only); omega); omega))) (fun u_ Sx6_ px9_ => ?_)
          obtain ⟨rfl, hIx7_, hFx8_, px9_⟩ := px9_
          have hFx10_ : ai_fr (sx_W vw_73) S0_ Sx6_ := ai_fr_tr hF_ (fr_le hFx8_ rfl)
          obtain ⟨dx12_, px9_⟩ := px9_
          have hCx11_ : cdf ii_ S0_ Sx6_ := cdf_tr hC_ (cdf_cg (by omega) dx12_)
          have n9_ := px9_
          rw [← t29_] at n9_
          refine sm_T_inc (a := 4) (z := 1) (v := x_) (w := x_ + 1) rfl rfl (by omega) (by omega) (by omega) ?_ -- pc_ 144
          refine sm_T_go 1 (c1 := (100, [some (.inr (.inr (some (4, ii_)))), some (.inr (.inr (some (0, bb_)))), some (.inl w9_), some (.inl y_), some (.inl (x_ + 1)), some (.inl ((y_ * w9_) + x_))], [], Sx6_)) rfl ?_
          refine sm_T_wk [some (.inr (.inr (some (4, ii_)))), some (.inr (.inr (some (0, bb_)))), some (.inl w9_), some (.inl y_), some (.inl (x_ + 1)), none] (by exact ⟨rfl, rfl, rfl, rfl, rfl, trivial⟩) ?_
          refine ih_.2.2.2.2.2 w9_ y_ (x_ + 1) Sx6_ hIx7_ hFx10_ ⟨?_, ?_, ?_, trivial⟩ ?_
          · omega
          · have g9_ : ∀ c9_ : Int, cne (gt2 bb_ S0_ y_.toNat) c9_ (x_ + 1).toNat = cne (gt2 bb_ S0_ y_.toNat) c9_ x_.toNat + if tk2 (S0_.2.2.1 22 (0 + bb_)) (S0_.2.2.1 23 (0 + bb_)) (S0_.1 0 bb_ 0 + 2) y_ x_ = c9_ then 1 else 0 := fun c9_ => by (rw [show (x_ + 1).toNat = x_.toNat + 1 by omega, cne_s]; unfold gt2; rw [show ((y_.toNat : Nat) : Int) = y_ by omega, show ((x_.toNat : Nat) : Int) = x_ by omega])
            first | exact nbx_st hb_ n9_ (fun c9_ => by rw [g9_]; omega) | exact nbx_st hb_ (nxb9_n (t_ := -1) (by decide)) (fun c9_ => by rw [g9_, t29_]; omega)
          · exact hCx11_
          · omega
set_option maxHeartbeats 4000000 in
theorem vc_73 {sc_ : Nat × (Nat → Int)} (ii_ : Nat) (bb_ : Nat) (S0_ : sm_S) (hI_ : gi S0_) (hI0_ : gi S0_) (hst_ : bst bb_ S0_) (hT1_ : ∀ c_ : Nat, c_ < 162 → S0_.2.2.1 49 (0 + ii_) c_ + (btot bb_ S0_ (c_ : Int) : Int) ≤ 20000) (hT2_ : S0_.1 4 ii_ 11 ≠ 0 → ∀ c_ : Nat, c_ < 162 → S0_.2.2.1 49 (0 + ii_) c_ + (btot bb_ S0_ (c_ : Int) : Int) ≤ 2000) : sm_T (mt_P sc_) 3 73 (0, [some (.inr (.inr (some (4, ii_)))), some (.inr (.inr (some (0, bb_)))), none, none, none, none], [], S0_) (fun ro9_ => ∃ u_ S1_, ro9_ = (.inl u_, S1_, 0) ∧ vq_73 ii_ bb_ S0_ u_ S1_) := by
  have hF_ : ai_fr (sx_W vw_73) S0_ S0_ := ai_fr_rf
  have hC_ : cdf ii_ S0_ S0_ := cdf_rf
  have ch0_ : 0 ≤ S0_.1 0 bb_ 2 ∧ S0_.1 0 bb_ 2 ≤ 38 := hI_.1 0 bb_ 2 rfl
  have bx1_ : 0 ≤ S0_.1 0 bb_ 0 ∧ S0_.1 0 bb_ 0 ≤ 60 := hI_.1 0 bb_ 0 rfl
  refine sm_T_go 3 (c1 := (5, [some (.inr (.inr (some (4, ii_)))), some (.inr (.inr (some (0, bb_)))), none, none, none, none], [.inl 2, .inl (S0_.1 0 bb_ 0)], S0_)) rfl ?_
  refine sm_T_bin (w := (S0_.1 0 bb_ 0) + 2) rfl (bi_add (by omega) (by omega) (by omega)) ?_ -- pc_ 5
  refine sm_T_go 3 (c1 := (9, [some (.inr (.inr (some (4, ii_)))), some (.inr (.inr (some (0, bb_)))), some (.inl ((S0_.1 0 bb_ 0) + 2)), some (.inl 0), none, none], [], S0_)) rfl ?_
  refine (vl_73 ii_ bb_ S0_ hI0_ hst_ hT1_ hT2_ _).1 ((S0_.1 0 bb_ 0) + 2) 0 S0_ hI_ hF_ ⟨?_, ?_, ?_, trivial⟩ (Nat.lt_succ_self _)
  · omega
  · (intro c_ hc_; show _ = _ + ((0 : Nat) : Int); omega)
  · exact hC_
