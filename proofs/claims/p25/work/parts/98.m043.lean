/-! 99.zs6 -/
section
/-! the reference: cuts; written by wip/p55/gen/vg -/

/-! the_ reference: cuts -/
def ctp (P_ : Int → Prop) (S_ : sm_S) : Prop := ∀ c_ : Int, 0 ≤ c_ → c_ < S_.1 13 0 114 → 1 ≤ S_.2.2.1 204 0 c_.toNat ∧ ∀ k_ : Int, 0 ≤ k_ → k_ < S_.2.2.1 204 0 c_.toNat → P_ (S_.2.2.1 205 0 (3 * c_ + k_).toNat)
def trp (P_ : Int → Prop) (S_ : sm_S) : Prop := ∀ k_ : Int, 0 ≤ k_ → k_ < S_.1 13 0 123 → P_ (S_.2.2.1 212 0 k_.toNat)
theorem ctp_fr {w_ : sx_Wl} {P_ : Int → Prop} {S_ S'_ : sm_S} (h_ : ctp P_ S_) (g_ : ai_fr (sx_W w_) S_ S'_) (h1_ : (sx_W w_).1 13 114 = false := by rfl) (h2_ : (sx_W w_).2.1 204 = false := by rfl) (h3_ : (sx_W w_).2.1 205 = false := by rfl) : ctp P_ S'_ := by
  unfold ctp
  rw [g_.1 13 0 114 h1_, fr_arr g_ h2_, fr_arr g_ h3_]
  exact h_
theorem trp_fr {w_ : sx_Wl} {P_ : Int → Prop} {S_ S'_ : sm_S} (h_ : trp P_ S_) (g_ : ai_fr (sx_W w_) S_ S'_) (h1_ : (sx_W w_).1 13 123 = false := by rfl) (h2_ : (sx_W w_).2.1 212 = false := by rfl) : trp P_ S'_ := by
  unfold trp
  rw [g_.1 13 0 123 h1_, fr_arr g_ h2_]
  exact h_
/-- a_ leaf that may_ stand in a_ cut_ of_ n_ -/
def cnd9 (n_ : Int) (u_ : Nat → Int) (x_ : Int) : Prop := 1 ≤ x_ ∧ x_ < n_ ∧ u_ x_.toNat = 1
def iat (sz_ o_ k_ : Int) : Int := if sz_ < 3 then (if o_ = 0 then k_ else sz_ - 1 - k_) else if k_ = 0 then o_ / 2 else if (k_ = 1 ∧ o_ % 2 = 0) ∨ (k_ ≠ 1 ∧ o_ % 2 ≠ 0) then (if o_ / 2 = 0 then 1 else 0) else (if o_ / 2 = 2 then 1 else 2)
def cst (F_ : Int) (S_ : sm_S) (x_ t_ : Int) : Int := if F_ ≤ x_ ∧ S_.2.2.1 203 0 x_.toNat = 0 then S_.2.2.1 210 0 (2 * x_ + t_).toNat else if t_ = 0 then 0 else S_.1 13 0 108
/-! M_.isInner -/
def vw_395 : sx_Wl := ([], [], [])
def vq_395 (n_ : Int) (F_ : Int) (S0_ : sm_S) (u_ : Option sm_V) (S1_ : sm_S) : Prop := S0_ = S1_ ∧ ∃ v_ : Int, u_ = some (.inl v_) ∧ ((v_ = 1 ∧ F_ ≤ n_ ∧ S0_.2.2.1 203 0 n_.toNat = 0) ∨ (v_ = 0 ∧ (n_ < F_ ∨ S0_.2.2.1 203 0 n_.toNat = 1)))
set_option maxHeartbeats 400000 in
set_option maxRecDepth 20000 in
theorem vc_395 {sc_ : Nat × (Nat → Int)} (n_ : Int) (F_ : Int) (S0_ : sm_S) (hI_ : gi S0_) (hf_ : S0_.2.2.1 160 0 (S0_.1 13 0 105).toNat = F_) (hn_ : 0 ≤ n_ ∧ n_ ≤ 2047) : sm_T (mt_P sc_) 0 395 (0, [some (.inr (.inr (some (13, 0)))), some (.inl n_)], [], S0_) (fun ro9_ => ∃ u_ S1_, ro9_ = (.inl u_, S1_, 0) ∧ vq_395 n_ F_ S0_ u_ S1_) := by
  have hF_ : ai_fr (sx_W vw_395) S0_ S0_ := ai_fr_rf
  have bx1_ : 0 ≤ S0_.1 13 0 105 ∧ S0_.1 13 0 105 ≤ 5 := hI_.1 13 0 105 rfl
  refine sm_T_go 5 (c1 := (9, [some (.inr (.inr (some (13, 0)))), some (.inl n_)], [.inl (S0_.1 13 0 105), .inr (.inr (some (160, 0))), .inl n_], S0_)) rfl ?_
  refine sm_T_iald (n := 6) rfl rfl (by omega) (by omega) ?_
  have bx2_ : 0 ≤ S0_.2.2.1 160 0 (S0_.1 13 0 105).toNat ∧ S0_.2.2.1 160 0 (S0_.1 13 0 105).toNat ≤ 19 := hI_.2 160 0 _
  refine sm_T_br (a := 2) (z := 16) rfl (fun cx3_ => ?_) (fun cx3_ => ?_)
  · have cx3_ : n_ < (S0_.2.2.1 160 0 (S0_.1 13 0 105).toNat) := of_decide_eq_true cx3_
    refine sm_T_go 1 (c1 := (27, [some (.inr (.inr (some (13, 0)))), some (.inl n_)], [.inl 0], S0_)) rfl ?_
    refine sm_T_rz rfl (by omega) ⟨_, _, rfl, rfl, _, rfl, ?_⟩
    omega
  · have cx3_ : ¬ (n_ < (S0_.2.2.1 160 0 (S0_.1 13 0 105).toNat)) := of_decide_eq_false cx3_
    refine sm_T_go 3 (c1 := (18, [some (.inr (.inr (some (13, 0)))), some (.inl n_)], [.inl n_, .inr (.inr (some (203, 0)))], S0_)) rfl ?_
    refine sm_T_zald (n := 2048) rfl rfl (by omega) (by omega) ?_
    have bx4_ : 0 ≤ S0_.2.2.1 203 0 n_.toNat ∧ S0_.2.2.1 203 0 n_.toNat ≤ 1 := hI_.2 203 0 _
    refine sm_T_b0 (a := 1) (z := 7) rfl (fun cx5_ => ?_) (fun cx5_ => ?_)
    · have cx5_ : (S0_.2.2.1 203 0 n_.toNat) ≠ 0 := of_decide_eq_true cx5_
      refine sm_T_go 1 (c1 := (27, [some (.inr (.inr (some (13, 0)))), some (.inl n_)], [.inl 0], S0_)) rfl ?_
      refine sm_T_rz rfl (by omega) ⟨_, _, rfl, rfl, _, rfl, ?_⟩
      omega
    · have cx5_ : ¬ ((S0_.2.2.1 203 0 n_.toNat) ≠ 0) := of_decide_eq_false cx5_
      refine sm_T_go 2 (c1 := (27, [some (.inr (.inr (some (13, 0)))), some (.inl n_)], [.inl 1], S0_)) rfl ?_
      refine sm_T_rz rfl (by omega) ⟨_, _, rfl, rfl, _, rfl, ?_⟩
      omega
/-! M_.put -/
def vw_396 : sx_Wl := ([(13, 123)], [212], [])
def vq_396 (n_ : Int) (P_ : Int → Prop) (S0_ : sm_S) (u_ : Option sm_V) (S1_ : sm_S) : Prop := u_ = none ∧ gi S1_ ∧ ai_fr (sx_W vw_396) S0_ S1_ ∧ (S1_.1 13 0 123 ≤ S0_.1 13 0 123 + 1 ∧ 1 ≤ S1_.1 13 0 123 ∧ trp P_ S1_)
set_option maxHeartbeats 400000 in
set_option maxRecDepth 20000 in
theorem vl_396 {sc_ : Nat × (Nat → Int)} (n_ : Int) (P_ : Int → Prop) (S0_ : sm_S) (hn_ : 0 ≤ n_ ∧ n_ ≤ 1012) (h1_ : (S0_.1 13 0 123) ≤ 7) (hP_ : P_ n_) (ht_ : trp P_ S0_) : ∀ nn_ : Nat, (∀ (k_ : Int) (S_ : sm_S), gi S_ → ai_fr (sx_W vw_396) S0_ S_ → ((0 ≤ k_ ∧ k_ ≤ S_.1 13 0 123 ∧ S_.1 13 0 123 = S0_.1 13 0 123) ∧ (trp P_ S_) ∧ True) → ((500 - k_).toNat) < nn_ → sm_T (mt_P sc_) 0 396 (2, [some (.inr (.inr (some (13, 0)))), some (.inl n_), some (.inl k_), none], [], S_) (fun ro9_ => ∃ u_ S1_, ro9_ = (.inl u_, S1_, 0) ∧ vq_396 n_ P_ S0_ u_ S1_)) ∧ (∀ (k_ : Int) (i_ : Int) (S_ : sm_S), gi S_ → ai_fr (sx_W vw_396) S0_ S_ → ((0 ≤ k_ ∧ k_ ≤ i_ ∧ i_ ≤ S_.1 13 0 123 ∧ S_.1 13 0 123 = S0_.1 13 0 123) ∧ (∀ j9_ : Int, 0 ≤ j9_ → j9_ ≤ S_.1 13 0 123 → j9_ ≠ i_ → P_ (S_.2.2.1 212 0 j9_.toNat)) ∧ True) → ((100 + i_).toNat) < nn_ → sm_T (mt_P sc_) 0 396 (50, [some (.inr (.inr (some (13, 0)))), some (.inl n_), some (.inl k_), some (.inl i_)], [], S_) (fun ro9_ => ∃ u_ S1_, ro9_ = (.inl u_, S1_, 0) ∧ vq_396 n_ P_ S0_ u_ S1_)) := by
  intro nn_
  induction nn_ with
  | zero => exact ⟨fun _ _ _ _ _ h_ => absurd h_ (Nat.not_lt_zero _), fun _ _ _ _ _ _ h_ => absurd h_ (Nat.not_lt_zero _)⟩
  | succ nn_ ih_ =>
    refine ⟨?_, ?_⟩
    · rintro k_ S_ hI_ hF_ ⟨h0_, h2_, -⟩ hm_
      have bx1_ : 0 ≤ S_.1 13 0 123 ∧ S_.1 13 0 123 ≤ 8 := hI_.1 13 0 123 rfl
      refine sm_T_go 3 (c1 := (7, [some (.inr (.inr (some (13, 0)))), some (.inl n_), some (.inl k_), none], [.inl (S_.1 13 0 123), .inl k_], S_)) rfl ?_
      refine sm_T_br (a := 3) (z := 19) rfl (fun cx2_ => ?_) (fun cx2_ => ?_)
      · have cx2_ : (S_.1 13 0 123) ≤ k_ := of_decide_eq_true cx2_
        refine sm_T_go 3 (c1 := (31, [some (.inr (.inr (some (13, 0)))), some (.inl n_), some (.inl k_), none], [.inl (S_.1 13 0 123), .inl k_], S_)) rfl ?_
        refine sm_T_br (a := 3) (z := 14) rfl (fun cx3_ => ?_) (fun cx3_ => ?_)
        · have cx3_ : (S_.1 13 0 123) ≤ k_ := of_decide_eq_true cx3_
          refine sm_T_go 3 (c1 := (50, [some (.inr (.inr (some (13, 0)))), some (.inl n_), some (.inl k_), some (.inl (S_.1 13 0 123))], [], S_)) rfl ?_
          refine ih_.2 k_ (S_.1 13 0 123) S_ hI_ hF_ ⟨?_, ?_, trivial⟩ ?_
          · omega
          · (intro j9_ u0_ u1_ u2_; exact h2_ j9_ u0_ (by omega))
          · omega
        · have cx3_ : ¬ ((S_.1 13 0 123) ≤ k_) := of_decide_eq_false cx3_
          exfalso; omega
      · have cx2_ : ¬ ((S_.1 13 0 123) ≤ k_) := of_decide_eq_false cx2_
        refine sm_T_go 3 (c1 := (15, [some (.inr (.inr (some (13, 0)))), some (.inl n_), some (.inl k_), none], [.inl k_, .inr (.inr (some (212, 0)))], S_)) rfl ?_
        refine sm_T_iald (n := 8) rfl rfl (by omega) (by omega) ?_
        have bx4_ : 0 ≤ S_.2.2.1 212 0 k_.toNat ∧ S_.2.2.1 212 0 k_.toNat ≤ 1012 := hI_.2 212 0 _
        refine sm_T_go 1 (c1 := (17, [some (.inr (.inr (some (13, 0)))), some (.inl n_), some (.inl k_), none], [.inl n_, .inl (S_.2.2.1 212 0 k_.toNat)], S_)) rfl ?_
        refine sm_T_br (a := 3) (z := 9) rfl (fun cx5_ => ?_) (fun cx5_ => ?_)
        · have cx5_ : n_ ≤ (S_.2.2.1 212 0 k_.toNat) := of_decide_eq_true cx5_
          refine sm_T_go 3 (c1 := (31, [some (.inr (.inr (some (13, 0)))), some (.inl n_), some (.inl k_), none], [.inl (S_.1 13 0 123), .inl k_], S_)) rfl ?_
          refine sm_T_br (a := 3) (z := 14) rfl (fun cx6_ => ?_) (fun cx6_ => ?_)
          · have cx6_ : (S_.1 13 0 123) ≤ k_ := of_decide_eq_true cx6_
            exfalso; omega
          · have cx6_ : ¬ ((S_.1 13 0 123) ≤ k_) := of_decide_eq_false cx6_
            refine sm_T_go 3 (c1 := (39, [some (.inr (.inr (some (13, 0)))), some (.inl n_), some (.inl k_), none], [.inl k_, .inr (.inr (some (212, 0)))], S_)) rfl ?_
            refine sm_T_iald (n := 8) rfl rfl (by omega) (by omega) ?_
            refine sm_T_go 1 (c1 := (41, [some (.inr (.inr (some (13, 0)))), some (.inl n_), some (.inl k_), none], [.inl n_, .inl (S_.2.2.1 212 0 k_.toNat)], S_)) rfl ?_
            refine sm_T_br (a := 1) (z := 4) rfl (fun cx7_ => ?_) (fun cx7_ => ?_)
            · have cx7_ : (S_.2.2.1 212 0 k_.toNat) ≠ n_ := of_decide_eq_true cx7_
              refine sm_T_go 3 (c1 := (50, [some (.inr (.inr (some (13, 0)))), some (.inl n_), some (.inl k_), some (.inl (S_.1 13 0 123))], [], S_)) rfl ?_
              refine ih_.2 k_ (S_.1 13 0 123) S_ hI_ hF_ ⟨?_, ?_, trivial⟩ ?_
              · omega
              · (intro j9_ u0_ u1_ u2_; exact h2_ j9_ u0_ (by omega))
              · omega
            · have cx7_ : ¬ ((S_.2.2.1 212 0 k_.toNat) ≠ n_) := of_decide_eq_false cx7_
              refine sm_T_rv rfl ⟨_, _, rfl, rfl, hI_, hF_, ?_⟩
              exact ⟨by omega, by omega, h2_⟩
        · have cx5_ : ¬ (n_ ≤ (S_.2.2.1 212 0 k_.toNat)) := of_decide_eq_false cx5_
          refine sm_T_inc (a := 2) (z := 1) (v := k_) (w := k_ + 1) rfl rfl (by omega) (by omega) (by omega) ?_ -- pc_ 20
          refine sm_T_go 1 (c1 := (2, [some (.inr (.inr (some (13, 0)))), some (.inl n_), some (.inl (k_ + 1)), none], [], S_)) rfl ?_
          refine ih_.1 (k_ + 1) S_ hI_ hF_ ⟨?_, ?_, trivial⟩ ?_
          · omega
          · exact h2_
          · omega
    · rintro k_ i_ S_ hI_ hF_ ⟨h0_, h2_, -⟩ hm_
      refine sm_T_go 2 (c1 := (52, [some (.inr (.inr (some (13, 0)))), some (.inl n_), some (.inl k_), some (.inl i_)], [.inl k_, .inl i_], S_)) rfl ?_
      refine sm_T_br (a := 5) (z := 23) rfl (fun cx1_ => ?_) (fun cx1_ => ?_)
      · have cx1_ : i_ ≤ k_ := of_decide_eq_true cx1_
        refine sm_T_go 4 (c1 := (81, [some (.inr (.inr (some (13, 0)))), some (.inl n_), some (.inl k_), some (.inl i_)], [.inl n_, .inl k_, .inr (.inr (some (212, 0)))], S_)) rfl ?_
        refine sm_T_iast (n := 8) rfl rfl (by omega) (by omega) ?_
        have hIx2_ : gi (sm_aI S_ 212 0 k_.toNat n_) := gi_aI hI_ (show 0 ≤ n_ ∧ n_ ≤ 1012 from ⟨by omega, by omega⟩)
        have hFx3_ : ai_fr (sx_W vw_396) S0_ (sm_aI S_ 212 0 k_.toNat n_) := ai_fr_tr hF_ (ai_fr_aI rfl)
        have bx4_ : 0 ≤ S_.1 13 0 123 ∧ S_.1 13 0 123 ≤ 8 := hI_.1 13 0 123 rfl
        refine sm_T_go 4 (c1 := (88, [some (.inr (.inr (some (13, 0)))), some (.inl n_), some (.inl k_), some (.inl i_)], [.inl 1, .inl (S_.1 13 0 123), .inr (.inr (some (13, 0)))], sm_aI S_ 212 0 k_.toNat n_)) rfl ?_
        refine sm_T_bin (w := (S_.1 13 0 123) + 1) rfl (bi_add (by omega) (by omega) (by omega)) ?_ -- pc_ 88
        have hIx5_ : gi (sm_pI (sm_aI S_ 212 0 k_.toNat n_) 13 0 123 ((S_.1 13 0 123) + 1)) := gi_pI hIx2_ (show 0 ≤ (S_.1 13 0 123) + 1 ∧ (S_.1 13 0 123) + 1 ≤ 8 from ⟨by omega, by omega⟩)
        have hFx6_ : ai_fr (sx_W vw_396) S0_ (sm_pI (sm_aI S_ 212 0 k_.toNat n_) 13 0 123 ((S_.1 13 0 123) + 1)) := ai_fr_tr hFx3_ (ai_fr_pI rfl)
        refine sm_T_go 1 (c1 := (92, [some (.inr (.inr (some (13, 0)))), some (.inl n_), some (.inl k_), some (.inl i_)], [], sm_pI (sm_aI S_ 212 0 k_.toNat n_) 13 0 123 ((S_.1 13 0 123) + 1))) rfl ?_
        refine sm_T_rv rfl ⟨_, _, rfl, rfl, hIx5_, hFx6_, ?_⟩
        refine ⟨by (rw [rf_eq]; omega), by (rw [rf_eq]; omega), fun j9_ u0_ u1_ => ?_⟩
        rw [rf_eq] at u1_
        (try simp only [rd_eq, rd_ne, rf_eq, rf_nk, rf_nt, rd_fa, rd_af, rd_fl, rd_al, rd_lf, rd_la, rd_leq, rd_lne, rd_fr, rd_ar, ne_eq, Nat.reduceEqDiff, not_false_eq_true])
        by_cases z9_ : j9_.toNat = k_.toNat
        · rw [if_pos z9_]; exact hP_
        · rw [if_neg z9_]; exact h2_ j9_ u0_ (by omega) (by omega)
      · have cx1_ : ¬ (i_ ≤ k_) := of_decide_eq_false cx1_
        refine sm_T_go 7 (c1 := (66, [some (.inr (.inr (some (13, 0)))), some (.inl n_), some (.inl k_), some (.inl i_)], [.inl 1, .inl i_, .inr (.inr (some (212, 0))), .inl i_, .inr (.inr (some (212, 0)))], S_)) rfl ?_
        refine sm_T_bin (w := i_ - 1) rfl (bi_sub (by omega) (by omega) (by omega)) ?_ -- pc_ 66
        refine sm_T_iald (n := 8) rfl rfl (by omega) (by omega) ?_
        have bx7_ : 0 ≤ S_.2.2.1 212 0 (i_ - 1).toNat ∧ S_.2.2.1 212 0 (i_ - 1).toNat ≤ 1012 := hI_.2 212 0 _
        refine sm_T_iast (n := 8) rfl rfl (by omega) (by omega) ?_
        have hIx8_ : gi (sm_aI S_ 212 0 i_.toNat (S_.2.2.1 212 0 (i_ - 1).toNat)) := gi_aI hI_ (show 0 ≤ (S_.2.2.1 212 0 (i_ - 1).toNat) ∧ (S_.2.2.1 212 0 (i_ - 1).toNat) ≤ 1012 from ⟨by omega, by omega⟩)
        have hFx9_ : ai_fr (sx_W vw_396) S0_ (sm_aI S_ 212 0 i_.toNat (S_.2.2.1 212 0 (i_ - 1).toNat)) := ai_fr_tr hF_ (ai_fr_aI rfl)
        refine sm_T_inc (a := 3) (z := (-1)) (v := i_) (w := i_ - 1) rfl rfl (by omega) (by omega) (by omega) ?_ -- pc_ 69
        refine sm_T_go 1 (c1 := (50, [some (.inr (.inr (some (13, 0)))), some (.inl n_), some (.inl k_), some (.inl (i_ - 1))], [], sm_aI S_ 212 0 i_.toNat (S_.2.2.1 212 0 (i_ - 1).toNat))) rfl ?_
        refine ih_.2 k_ (i_ - 1) (sm_aI S_ 212 0 i_.toNat (S_.2.2.1 212 0 (i_ - 1).toNat)) hIx8_ hFx9_ ⟨?_, ?_, trivial⟩ ?_
        · ((try simp only [rd_eq, rd_ne, rf_eq, rf_nk, rf_nt, rd_fa, rd_af, rd_fl, rd_al, rd_lf, rd_la, rd_leq, rd_lne, rd_fr, rd_ar, ne_eq, Nat.reduceEqDiff, not_false_eq_true]); omega)
        · intro j9_ u0_ u1_ u2_
          rw [rd_eq]
          by_cases z9_ : j9_.toNat = i_.toNat
          · rw [if_pos z9_]; exact h2_ (i_ - 1) (by omega) (by omega) (by omega)
          · rw [if_neg z9_]; exact h2_ j9_ u0_ u1_ (by omega)
        · omega
set_option maxHeartbeats 400000 in
set_option maxRecDepth 20000 in
theorem vc_396 {sc_ : Nat × (Nat → Int)} (n_ : Int) (P_ : Int → Prop) (S0_ : sm_S) (hI_ : gi S0_) (hn_ : 0 ≤ n_ ∧ n_ ≤ 1012) (h1_ : (S0_.1 13 0 123) ≤ 7) (hP_ : P_ n_) (ht_ : trp P_ S0_) : sm_T (mt_P sc_) 0 396 (0, [some (.inr (.inr (some (13, 0)))), some (.inl n_), none, none], [], S0_) (fun ro9_ => ∃ u_ S1_, ro9_ = (.inl u_, S1_, 0) ∧ vq_396 n_ P_ S0_ u_ S1_) := by
  have hF_ : ai_fr (sx_W vw_396) S0_ S0_ := ai_fr_rf
  refine sm_T_go 2 (c1 := (2, [some (.inr (.inr (some (13, 0)))), some (.inl n_), some (.inl 0), none], [], S0_)) rfl ?_
  refine (vl_396 n_ P_ S0_ hn_ h1_ hP_ ht_ _).1 0 S0_ hI_ hF_ ⟨?_, ?_, trivial⟩ (Nat.lt_succ_self _)
  · (have c9_ : 0 ≤ S0_.1 13 0 123 := (hI_.1 13 0 123 rfl).1; omega)
  · exact ht_
/-! M_.keepCut -/
def vw_397 : sx_Wl := ([(13, 114)], [204, 205], [])
def vq_397 (P_ : Int → Prop) (S0_ : sm_S) (u_ : Option sm_V) (S1_ : sm_S) : Prop := u_ = none ∧ gi S1_ ∧ ai_fr (sx_W vw_397) S0_ S1_ ∧ (S0_.1 13 0 114 ≤ S1_.1 13 0 114 ∧ ctp P_ S1_)
set_option maxHeartbeats 1000000 in
set_option maxRecDepth 20000 in
theorem vl_397 {sc_ : Nat × (Nat → Int)} (P_ : Int → Prop) (S0_ : sm_S) (h1_ : 1 ≤ (S0_.1 13 0 123)) (ht_ : trp P_ S0_) (hc_ : ctp P_ S0_) : ∀ nn_ : Nat, (∀ (c_ : Int) (S_ : sm_S), gi S_ → ai_fr (sx_W vw_397) S0_ S_ → ((0 ≤ c_ ∧ c_ ≤ 64 ∧ S_.1 13 0 114 ≤ 63 ∧ S_.1 13 0 123 ≤ 3 ∧ S_.1 13 0 114 = S0_.1 13 0 114) ∧ (ctp P_ S_) ∧ True) → ((10000 * (100 - c_) + 900).toNat) < nn_ → sm_T (mt_P sc_) 0 397 (20, [some (.inr (.inr (some (13, 0)))), some (.inl c_), none, none], [], S_) (fun ro9_ => ∃ u_ S1_, ro9_ = (.inl u_, S1_, 0) ∧ vq_397 P_ S0_ u_ S1_)) ∧ (∀ (c_ : Int) (sm_ : Int) (k_ : Int) (S_ : sm_S), gi S_ → ai_fr (sx_W vw_397) S0_ S_ → ((0 ≤ c_ ∧ c_ < S_.1 13 0 114 ∧ S_.1 13 0 114 ≤ 63 ∧ S_.1 13 0 123 ≤ 3 ∧ 0 ≤ k_ ∧ k_ ≤ 3 ∧ S_.1 13 0 114 = S0_.1 13 0 114) ∧ (ctp P_ S_) ∧ True) → ((10000 * (100 - c_) + 800 - k_).toNat) < nn_ → sm_T (mt_P sc_) 0 397 (49, [some (.inr (.inr (some (13, 0)))), some (.inl c_), some (.inl sm_), some (.inl k_)], [], S_) (fun ro9_ => ∃ u_ S1_, ro9_ = (.inl u_, S1_, 0) ∧ vq_397 P_ S0_ u_ S1_)) ∧ (∀ (k_ : Int) (S_ : sm_S), gi S_ → ai_fr (sx_W vw_397) S0_ S_ → ((0 ≤ k_ ∧ k_ ≤ S_.1 13 0 123 ∧ S_.1 13 0 114 ≤ 63 ∧ 0 ≤ S_.1 13 0 114 ∧ S_.1 13 0 123 ≤ 3 ∧ S_.1 13 0 123 = S0_.1 13 0 123 ∧ S_.1 13 0 114 = S0_.1 13 0 114) ∧ (ctp P_ S_) ∧ (S_.2.2.1 204 0 (S_.1 13 0 114).toNat = S_.1 13 0 123) ∧ (∀ j9_ : Int, 0 ≤ j9_ → j9_ < k_ → P_ (S_.2.2.1 205 0 (3 * S_.1 13 0 114 + j9_).toNat)) ∧ True) → ((500 - k_).toNat) < nn_ → sm_T (mt_P sc_) 0 397 (118, [some (.inr (.inr (some (13, 0)))), some (.inl k_), none, none], [], S_) (fun ro9_ => ∃ u_ S1_, ro9_ = (.inl u_, S1_, 0) ∧ vq_397 P_ S0_ u_ S1_)) := by
  intro nn_
  induction nn_ with
  | zero => exact ⟨fun _ _ _ _ _ h_ => absurd h_ (Nat.not_lt_zero _), fun _ _ _ _ _ _ _ h_ => absurd h_ (Nat.not_lt_zero _), fun _ _ _ _ _ h_ => absurd h_ (Nat.not_lt_zero _)⟩
  | succ nn_ ih_ =>
    refine ⟨?_, ?_, ?_⟩
    · rintro c_ S_ hI_ hF_ ⟨h0_, h2_, -⟩ hm_
      have g23_ : S_.1 13 0 123 = S0_.1 13 0 123 := hF_.1 13 0 123 rfl
      have bx1_ : 0 ≤ S_.1 13 0 114 ∧ S_.1 13 0 114 ≤ 64 := hI_.1 13 0 114 rfl
      refine sm_T_go 3 (c1 := (25, [some (.inr (.inr (some (13, 0)))), some (.inl c_), none, none], [.inl (S_.1 13 0 114), .inl c_], S_)) rfl ?_
      refine sm_T_br (a := 3) (z := 78) rfl (fun cx2_ => ?_) (fun cx2_ => ?_)
      · have cx2_ : (S_.1 13 0 114) ≤ c_ := of_decide_eq_true cx2_
        have bx3_ : 0 ≤ S_.1 13 0 123 ∧ S_.1 13 0 123 ≤ 8 := hI_.1 13 0 123 rfl
        refine sm_T_go 6 (c1 := (115, [some (.inr (.inr (some (13, 0)))), some (.inl c_), none, none], [.inl (S_.1 13 0 123), .inl (S_.1 13 0 114), .inr (.inr (some (204, 0)))], S_)) rfl ?_
        refine sm_T_iast (n := 64) rfl rfl (by omega) (by omega) ?_
        have hIx4_ : gi (sm_aI S_ 204 0 (S_.1 13 0 114).toNat (S_.1 13 0 123)) := gi_aI hI_ (show 0 ≤ (S_.1 13 0 123) ∧ (S_.1 13 0 123) ≤ 3 from ⟨by omega, by omega⟩)
        have hFx5_ : ai_fr (sx_W vw_397) S0_ (sm_aI S_ 204 0 (S_.1 13 0 114).toNat (S_.1 13 0 123)) := ai_fr_tr hF_ (ai_fr_aI rfl)
        refine sm_T_go 2 (c1 := (118, [some (.inr (.inr (some (13, 0)))), some (.inl 0), none, none], [], sm_aI S_ 204 0 (S_.1 13 0 114).toNat (S_.1 13 0 123))) rfl ?_
        refine ih_.2.2 0 (sm_aI S_ 204 0 (S_.1 13 0 114).toNat (S_.1 13 0 123)) hIx4_ hFx5_ ⟨?_, ?_, ?_, ?_, trivial⟩ ?_
        · ((try simp only [rd_eq, rd_ne, rf_eq, rf_nk, rf_nt, rd_fa, rd_af, rd_fl, rd_al, rd_lf, rd_la, rd_leq, rd_lne, rd_fr, rd_ar, ne_eq, Nat.reduceEqDiff, not_false_eq_true]); omega)
        · intro c9_ u0_ u1_
          (try simp only [rd_eq, rd_ne, rf_eq, rf_nk, rf_nt, rd_fa, rd_af, rd_fl, rd_al, rd_lf, rd_la, rd_leq, rd_lne, rd_fr, rd_ar, ne_eq, Nat.reduceEqDiff, not_false_eq_true] at *)
          (try simp only [rd_eq, rd_ne, rf_eq, rf_nk, rf_nt, rd_fa, rd_af, rd_fl, rd_al, rd_lf, rd_la, rd_leq, rd_lne, rd_fr, rd_ar, ne_eq, Nat.reduceEqDiff, not_false_eq_true])
          rw [if_neg (by omega)]
          exact h2_ c9_ u0_ u1_
        · ((try simp only [rd_eq, rd_ne, rf_eq, rf_nk, rf_nt, rd_fa, rd_af, rd_fl, rd_al, rd_lf, rd_la, rd_leq, rd_lne, rd_fr, rd_ar, ne_eq, Nat.reduceEqDiff, not_false_eq_true]); first | rw [if_pos rfl] | rfl | skip)
        · (intro j9_ u0_ u1_; exfalso; omega)
        · omega
      · have cx2_ : ¬ ((S_.1 13 0 114) ≤ c_) := of_decide_eq_false cx2_
        refine sm_T_go 3 (c1 := (33, [some (.inr (.inr (some (13, 0)))), some (.inl c_), none, none], [.inl c_, .inr (.inr (some (204, 0)))], S_)) rfl ?_
        refine sm_T_iald (n := 64) rfl rfl (by omega) (by omega) ?_
        have bx6_ : 0 ≤ S_.2.2.1 204 0 c_.toNat ∧ S_.2.2.1 204 0 c_.toNat ≤ 3 := hI_.2 204 0 _
        have bx7_ : 0 ≤ S_.1 13 0 123 ∧ S_.1 13 0 123 ≤ 8 := hI_.1 13 0 123 rfl
        refine sm_T_go 2 (c1 := (38, [some (.inr (.inr (some (13, 0)))), some (.inl c_), none, none], [.inl (S_.1 13 0 123), .inl (S_.2.2.1 204 0 c_.toNat)], S_)) rfl ?_
        refine sm_T_br (a := 1) (z := 7) rfl (fun cx8_ => ?_) (fun cx8_ => ?_)
        · have cx8_ : (S_.2.2.1 204 0 c_.toNat) ≠ (S_.1 13 0 123) := of_decide_eq_true cx8_
          refine sm_T_go 4 (c1 := (49, [some (.inr (.inr (some (13, 0)))), some (.inl c_), some (.inl 0), some (.inl 0)], [], S_)) rfl ?_
          refine ih_.2.1 c_ 0 0 S_ hI_ hF_ ⟨?_, ?_, trivial⟩ ?_
          · omega
          · exact h2_
          · omega
        · have cx8_ : ¬ ((S_.2.2.1 204 0 c_.toNat) ≠ (S_.1 13 0 123)) := of_decide_eq_false cx8_
          refine sm_T_go 5 (c1 := (49, [some (.inr (.inr (some (13, 0)))), some (.inl c_), some (.inl 1), some (.inl 0)], [], S_)) rfl ?_
          refine ih_.2.1 c_ 1 0 S_ hI_ hF_ ⟨?_, ?_, trivial⟩ ?_
          · omega
          · exact h2_
          · omega
    · rintro c_ sm_ k_ S_ hI_ hF_ ⟨h0_, h2_, -⟩ hm_
      have bx1_ : 0 ≤ S_.1 13 0 123 ∧ S_.1 13 0 123 ≤ 8 := hI_.1 13 0 123 rfl
      refine sm_T_go 3 (c1 := (54, [some (.inr (.inr (some (13, 0)))), some (.inl c_), some (.inl sm_), some (.inl k_)], [.inl (S_.1 13 0 123), .inl k_], S_)) rfl ?_
      refine sm_T_br (a := 3) (z := 38) rfl (fun cx2_ => ?_) (fun cx2_ => ?_)
      · have cx2_ : (S_.1 13 0 123) ≤ k_ := of_decide_eq_true cx2_
        refine sm_T_go 1 (c1 := (93, [some (.inr (.inr (some (13, 0)))), some (.inl c_), some (.inl sm_), some (.inl k_)], [.inl sm_], S_)) rfl ?_
        refine sm_T_b0 (a := 0) (z := 4) rfl (fun cx3_ => ?_) (fun cx3_ => ?_)
        · have cx3_ : sm_ = 0 := of_decide_eq_true cx3_
          refine sm_T_inc (a := 1) (z := 1) (v := c_) (w := c_ + 1) rfl rfl (by omega) (by omega) (by omega) ?_ -- pc_ 97
          refine sm_T_go 1 (c1 := (20, [some (.inr (.inr (some (13, 0)))), some (.inl (c_ + 1)), some (.inl sm_), some (.inl k_)], [], S_)) rfl ?_
          refine sm_T_wk [some (.inr (.inr (some (13, 0)))), some (.inl (c_ + 1)), none, none] (by exact ⟨rfl, rfl, trivial⟩) ?_
          refine ih_.1 (c_ + 1) S_ hI_ hF_ ⟨?_, ?_, trivial⟩ ?_
          · omega
          · exact h2_
          · omega
        · have cx3_ : ¬ (sm_ = 0) := of_decide_eq_false cx3_
          refine sm_T_rv rfl ⟨_, _, rfl, rfl, hI_, hF_, ?_⟩
          exact ⟨by omega, h2_⟩
      · have cx2_ : ¬ ((S_.1 13 0 123) ≤ k_) := of_decide_eq_false cx2_
        refine sm_T_go 1 (c1 := (58, [some (.inr (.inr (some (13, 0)))), some (.inl c_), some (.inl sm_), some (.inl k_)], [.inl sm_], S_)) rfl ?_
        refine sm_T_b0 (a := 0) (z := 34) rfl (fun cx4_ => ?_) (fun cx4_ => ?_)
        · have cx4_ : sm_ = 0 := of_decide_eq_true cx4_
          refine sm_T_go 1 (c1 := (93, [some (.inr (.inr (some (13, 0)))), some (.inl c_), some (.inl sm_), some (.inl k_)], [.inl sm_], S_)) rfl ?_
          refine sm_T_b0 (a := 0) (z := 4) rfl (fun cx5_ => ?_) (fun cx5_ => ?_)
          · have cx5_ : sm_ = 0 := of_decide_eq_true cx5_
            refine sm_T_inc (a := 1) (z := 1) (v := c_) (w := c_ + 1) rfl rfl (by omega) (by omega) (by omega) ?_ -- pc_ 97
            refine sm_T_go 1 (c1 := (20, [some (.inr (.inr (some (13, 0)))), some (.inl (c_ + 1)), some (.inl sm_), some (.inl k_)], [], S_)) rfl ?_
            refine sm_T_wk [some (.inr (.inr (some (13, 0)))), some (.inl (c_ + 1)), none, none] (by exact ⟨rfl, rfl, trivial⟩) ?_
            refine ih_.1 (c_ + 1) S_ hI_ hF_ ⟨?_, ?_, trivial⟩ ?_
            · omega
            · exact h2_
            · omega
          · have cx5_ : ¬ (sm_ = 0) := of_decide_eq_false cx5_
            exfalso; omega
        · have cx4_ : ¬ (sm_ = 0) := of_decide_eq_false cx4_
          refine sm_T_go 4 (c1 := (67, [some (.inr (.inr (some (13, 0)))), some (.inl c_), some (.inl sm_), some (.inl k_)], [.inl c_, .inl 3, .inr (.inr (some (205, 0)))], S_)) rfl ?_
          refine sm_T_bin (w := 3 * c_) rfl (bi_mul (by omega) (by omega) (by omega)) ?_ -- pc_ 67
          refine sm_T_go 1 (c1 := (69, [some (.inr (.inr (some (13, 0)))), some (.inl c_), some (.inl sm_), some (.inl k_)], [.inl k_, .inl (3 * c_), .inr (.inr (some (205, 0)))], S_)) rfl ?_
          refine sm_T_bin (w := 3 * c_ + k_) rfl (bi_add (by omega) (by omega) (by omega)) ?_ -- pc_ 69
          refine sm_T_iald (n := 192) rfl rfl (by omega) (by omega) ?_
          have bx6_ : 0 ≤ S_.2.2.1 205 0 (3 * c_ + k_).toNat ∧ S_.2.2.1 205 0 (3 * c_ + k_).toNat ≤ 1012 := hI_.2 205 0 _
          refine sm_T_go 3 (c1 := (76, [some (.inr (.inr (some (13, 0)))), some (.inl c_), some (.inl sm_), some (.inl k_)], [.inl k_, .inr (.inr (some (212, 0))), .inl (S_.2.2.1 205 0 (3 * c_ + k_).toNat)], S_)) rfl ?_
          refine sm_T_iald (n := 8) rfl rfl (by omega) (by omega) ?_
          have bx7_ : 0 ≤ S_.2.2.1 212 0 k_.toNat ∧ S_.2.2.1 212 0 k_.toNat ≤ 1012 := hI_.2 212 0 _
          refine sm_T_br (a := 1) (z := 7) rfl (fun cx8_ => ?_) (fun cx8_ => ?_)
          · have cx8_ : (S_.2.2.1 205 0 (3 * c_ + k_).toNat) ≠ (S_.2.2.1 212 0 k_.toNat) := of_decide_eq_true cx8_
            refine sm_T_go 2 (c1 := (86, [some (.inr (.inr (some (13, 0)))), some (.inl c_), some (.inl 0), some (.inl k_)], [], S_)) rfl ?_
            refine sm_T_inc (a := 3) (z := 1) (v := k_) (w := k_ + 1) rfl rfl (by omega) (by omega) (by omega) ?_ -- pc_ 86
            refine sm_T_go 1 (c1 := (49, [some (.inr (.inr (some (13, 0)))), some (.inl c_), some (.inl 0), some (.inl (k_ + 1))], [], S_)) rfl ?_
            refine ih_.2.1 c_ 0 (k_ + 1) S_ hI_ hF_ ⟨?_, ?_, trivial⟩ ?_
            · omega
            · exact h2_
            · omega
          · have cx8_ : ¬ ((S_.2.2.1 205 0 (3 * c_ + k_).toNat) ≠ (S_.2.2.1 212 0 k_.toNat)) := of_decide_eq_false cx8_
            refine sm_T_go 3 (c1 := (86, [some (.inr (.inr (some (13, 0)))), some (.inl c_), some (.inl 1), some (.inl k_)], [], S_)) rfl ?_
            refine sm_T_inc (a := 3) (z := 1) (v := k_) (w := k_ + 1) rfl rfl (by omega) (by omega) (by omega) ?_ -- pc_ 86
            refine sm_T_go 1 (c1 := (49, [some (.inr (.inr (some (13, 0)))), some (.inl c_), some (.inl 1), some (.inl (k_ + 1))], [], S_)) rfl ?_
            refine ih_.2.1 c_ 1 (k_ + 1) S_ hI_ hF_ ⟨?_, ?_, trivial⟩ ?_
            · omega
            · exact h2_
            · omega
    · rintro k_ S_ hI_ hF_ ⟨h0_, h2_, h4_, h5_, -⟩ hm_
      have t9_ := trp_fr ht_ hF_
      have bx1_ : 0 ≤ S_.1 13 0 123 ∧ S_.1 13 0 123 ≤ 8 := hI_.1 13 0 123 rfl
      refine sm_T_go 3 (c1 := (123, [some (.inr (.inr (some (13, 0)))), some (.inl k_), none, none], [.inl (S_.1 13 0 123), .inl k_], S_)) rfl ?_
      refine sm_T_br (a := 3) (z := 28) rfl (fun cx2_ => ?_) (fun cx2_ => ?_)
      · have cx2_ : (S_.1 13 0 123) ≤ k_ := of_decide_eq_true cx2_
        have bx3_ : 0 ≤ S_.1 13 0 114 ∧ S_.1 13 0 114 ≤ 64 := hI_.1 13 0 114 rfl
        refine sm_T_go 4 (c1 := (157, [some (.inr (.inr (some (13, 0)))), some (.inl k_), none, none], [.inl 1, .inl (S_.1 13 0 114), .inr (.inr (some (13, 0)))], S_)) rfl ?_
        refine sm_T_bin (w := (S_.1 13 0 114) + 1) rfl (bi_add (by omega) (by omega) (by omega)) ?_ -- pc_ 157
        have hIx4_ : gi (sm_pI S_ 13 0 114 ((S_.1 13 0 114) + 1)) := gi_pI hI_ (show 0 ≤ (S_.1 13 0 114) + 1 ∧ (S_.1 13 0 114) + 1 ≤ 64 from ⟨by omega, by omega⟩)
        have hFx5_ : ai_fr (sx_W vw_397) S0_ (sm_pI S_ 13 0 114 ((S_.1 13 0 114) + 1)) := ai_fr_tr hF_ (ai_fr_pI rfl)
        refine sm_T_go 1 (c1 := (161, [some (.inr (.inr (some (13, 0)))), some (.inl k_), none, none], [], sm_pI S_ 13 0 114 ((S_.1 13 0 114) + 1))) rfl ?_
        refine sm_T_rv rfl ⟨_, _, rfl, rfl, hIx4_, hFx5_, ?_⟩
        refine ⟨by (rw [rf_eq]; omega), ?_⟩
        intro c9_ u0_ u1_
        rw [rf_eq] at u1_
        (try simp only [rd_eq, rd_ne, rf_eq, rf_nk, rf_nt, rd_fa, rd_af, rd_fl, rd_al, rd_lf, rd_la, rd_leq, rd_lne, rd_fr, rd_ar, ne_eq, Nat.reduceEqDiff, not_false_eq_true])
        by_cases z9_ : c9_ = S_.1 13 0 114
        · rw [z9_, h4_]; exact ⟨by omega, fun k9_ v0_ v1_ => h5_ k9_ v0_ (by omega)⟩
        · exact h2_ c9_ u0_ (by omega)
      · have cx2_ : ¬ ((S_.1 13 0 123) ≤ k_) := of_decide_eq_false cx2_
        have bx6_ : 0 ≤ S_.1 13 0 114 ∧ S_.1 13 0 114 ≤ 64 := hI_.1 13 0 114 rfl
        refine sm_T_go 5 (c1 := (135, [some (.inr (.inr (some (13, 0)))), some (.inl k_), none, none], [.inl (S_.1 13 0 114), .inl 3, .inr (.inr (some (205, 0)))], S_)) rfl ?_
        refine sm_T_bin (w := 3 * (S_.1 13 0 114)) rfl (bi_mul (by omega) (by omega) (by omega)) ?_ -- pc_ 135
        refine sm_T_go 1 (c1 := (137, [some (.inr (.inr (some (13, 0)))), some (.inl k_), none, none], [.inl k_, .inl (3 * (S_.1 13 0 114)), .inr (.inr (some (205, 0)))], S_)) rfl ?_
        refine sm_T_bin (w := 3 * (S_.1 13 0 114) + k_) rfl (bi_add (by omega) (by omega) (by omega)) ?_ -- pc_ 137
        refine sm_T_go 3 (c1 := (143, [some (.inr (.inr (some (13, 0)))), some (.inl k_), none, none], [.inl k_, .inr (.inr (some (212, 0))), .inl (3 * (S_.1 13 0 114) + k_), .inr (.inr (some (205, 0)))], S_)) rfl ?_
        refine sm_T_iald (n := 8) rfl rfl (by omega) (by omega) ?_
        have bx7_ : 0 ≤ S_.2.2.1 212 0 k_.toNat ∧ S_.2.2.1 212 0 k_.toNat ≤ 1012 := hI_.2 212 0 _
        refine sm_T_iast (n := 192) rfl rfl (by omega) (by omega) ?_
        have hIx8_ : gi (sm_aI S_ 205 0 (3 * (S_.1 13 0 114) + k_).toNat (S_.2.2.1 212 0 k_.toNat)) := gi_aI hI_ (show 0 ≤ (S_.2.2.1 212 0 k_.toNat) ∧ (S_.2.2.1 212 0 k_.toNat) ≤ 1012 from ⟨by omega, by omega⟩)
        have hFx9_ : ai_fr (sx_W vw_397) S0_ (sm_aI S_ 205 0 (3 * (S_.1 13 0 114) + k_).toNat (S_.2.2.1 212 0 k_.toNat)) := ai_fr_tr hF_ (ai_fr_aI rfl)
        refine sm_T_inc (a := 1) (z := 1) (v := k_) (w := k_ + 1) rfl rfl (by omega) (by omega) (by omega) ?_ -- pc_ 145
        refine sm_T_go 1 (c1 := (118, [some (.inr (.inr (some (13, 0)))), some (.inl (k_ + 1)), none, none], [], sm_aI S_ 205 0 (3 * (S_.1 13 0 114) + k_).toNat (S_.2.2.1 212 0 k_.toNat))) rfl ?_
        refine ih_.2.2 (k_ + 1) (sm_aI S_ 205 0 (3 * (S_.1 13 0 114) + k_).toNat (S_.2.2.1 212 0 k_.toNat)) hIx8_ hFx9_ ⟨?_, ?_, ?_, ?_, trivial⟩ ?_
        · ((try simp only [rd_eq, rd_ne, rf_eq, rf_nk, rf_nt, rd_fa, rd_af, rd_fl, rd_al, rd_lf, rd_la, rd_leq, rd_lne, rd_fr, rd_ar, ne_eq, Nat.reduceEqDiff, not_false_eq_true]); omega)
        · intro c9_ u0_ u1_
          have q9_ : c9_ < S_.1 13 0 114 := by ((try simp only [rd_eq, rd_ne, rf_eq, rf_nk, rf_nt, rd_fa, rd_af, rd_fl, rd_al, rd_lf, rd_la, rd_leq, rd_lne, rd_fr, rd_ar, ne_eq, Nat.reduceEqDiff, not_false_eq_true] at *); exact u1_)
          have w9_ := h2_ c9_ u0_ q9_
          have b9_ := hI_.2 204 0 c9_.toNat
          have b8_ : 0 ≤ S_.2.2.1 204 0 c9_.toNat ∧ S_.2.2.1 204 0 c9_.toNat ≤ 3 := b9_
          (try simp only [rd_eq, rd_ne, rf_eq, rf_nk, rf_nt, rd_fa, rd_af, rd_fl, rd_al, rd_lf, rd_la, rd_leq, rd_lne, rd_fr, rd_ar, ne_eq, Nat.reduceEqDiff, not_false_eq_true])
          refine ⟨w9_.1, fun k9_ v0_ v1_ => ?_⟩
          rw [if_neg (by omega)]
          exact w9_.2 k9_ v0_ v1_
        · ((try simp only [rd_eq, rd_ne, rf_eq, rf_nk, rf_nt, rd_fa, rd_af, rd_fl, rd_al, rd_lf, rd_la, rd_leq, rd_lne, rd_fr, rd_ar, ne_eq, Nat.reduceEqDiff, not_false_eq_true]); exact h4_)
        · intro j9_ u0_ u1_
          (try simp only [rd_eq, rd_ne, rf_eq, rf_nk, rf_nt, rd_fa, rd_af, rd_fl, rd_al, rd_lf, rd_la, rd_leq, rd_lne, rd_fr, rd_ar, ne_eq, Nat.reduceEqDiff, not_false_eq_true])
          by_cases z9_ : (3 * S_.1 13 0 114 + j9_).toNat = (3 * S_.1 13 0 114 + k_).toNat
          · rw [if_pos z9_]; exact t9_ k_ (by omega) (by omega)
          · rw [if_neg z9_]; exact h5_ j9_ u0_ (by omega)
        · omega
set_option maxHeartbeats 1000000 in
set_option maxRecDepth 20000 in
theorem vc_397 {sc_ : Nat × (Nat → Int)} (P_ : Int → Prop) (S0_ : sm_S) (hI_ : gi S0_) (h1_ : 1 ≤ (S0_.1 13 0 123)) (ht_ : trp P_ S0_) (hc_ : ctp P_ S0_) : sm_T (mt_P sc_) 0 397 (0, [some (.inr (.inr (some (13, 0)))), none, none, none], [], S0_) (fun ro9_ => ∃ u_ S1_, ro9_ = (.inl u_, S1_, 0) ∧ vq_397 P_ S0_ u_ S1_) := by
  have hF_ : ai_fr (sx_W vw_397) S0_ S0_ := ai_fr_rf
  have bx1_ : 0 ≤ S0_.1 13 0 123 ∧ S0_.1 13 0 123 ≤ 8 := hI_.1 13 0 123 rfl
  refine sm_T_go 3 (c1 := (5, [some (.inr (.inr (some (13, 0)))), none, none, none], [.inl 3, .inl (S0_.1 13 0 123)], S0_)) rfl ?_
  refine sm_T_br (a := 4) (z := 12) rfl (fun cx2_ => ?_) (fun cx2_ => ?_)
  · have cx2_ : 3 < (S0_.1 13 0 123) := of_decide_eq_true cx2_
    refine sm_T_rv rfl ⟨_, _, rfl, rfl, hI_, hF_, ?_⟩
    exact ⟨Int.le_refl _, hc_⟩
  · have cx2_ : ¬ (3 < (S0_.1 13 0 123)) := of_decide_eq_false cx2_
    have bx3_ : 0 ≤ S0_.1 13 0 114 ∧ S0_.1 13 0 114 ≤ 64 := hI_.1 13 0 114 rfl
    refine sm_T_go 3 (c1 := (14, [some (.inr (.inr (some (13, 0)))), none, none, none], [.inl 64, .inl (S0_.1 13 0 114)], S0_)) rfl ?_
    refine sm_T_br (a := 1) (z := 4) rfl (fun cx4_ => ?_) (fun cx4_ => ?_)
    · have cx4_ : (S0_.1 13 0 114) ≠ 64 := of_decide_eq_true cx4_
      refine sm_T_go 2 (c1 := (20, [some (.inr (.inr (some (13, 0)))), some (.inl 0), none, none], [], S0_)) rfl ?_
      refine (vl_397 P_ S0_ h1_ ht_ hc_ _).1 0 S0_ hI_ hF_ ⟨?_, ?_, trivial⟩ (Nat.lt_succ_self _)
      · omega
      · exact hc_
    · have cx4_ : ¬ ((S0_.1 13 0 114) ≠ 64) := of_decide_eq_false cx4_
      refine sm_T_rv rfl ⟨_, _, rfl, rfl, hI_, hF_, ?_⟩
      exact ⟨Int.le_refl _, hc_⟩
/-! M_.isCutBefore -/
def vw_398 : sx_Wl := ([], [], [])
def vq_398 (a_ : Int) (b_ : Int) (S0_ : sm_S) (u_ : Option sm_V) (S1_ : sm_S) : Prop := S0_ = S1_ ∧ ∃ v_ : Int, u_ = some (.inl v_) ∧ (v_ = 0 ∨ v_ = 1)
set_option maxHeartbeats 400000 in
set_option maxRecDepth 20000 in
theorem vl_398 {sc_ : Nat × (Nat → Int)} (a_ : Int) (b_ : Int) (S0_ : sm_S) (ha_ : 0 ≤ a_ ∧ a_ ≤ 63 ∧ 0 ≤ b_ ∧ b_ ≤ 63) : ∀ nn_ : Nat, (∀ (k_ : Int) (S_ : sm_S), gi S_ → ai_fr (sx_W vw_398) S0_ S_ → ((0 ≤ k_ ∧ k_ ≤ 3) ∧ (S_ = S0_) ∧ True) → ((10 - k_).toNat) < nn_ → sm_T (mt_P sc_) 0 398 (2, [some (.inr (.inr (some (13, 0)))), some (.inl a_), some (.inl b_), some (.inl k_)], [], S_) (fun ro9_ => ∃ u_ S1_, ro9_ = (.inl u_, S1_, 0) ∧ vq_398 a_ b_ S0_ u_ S1_)) := by
  intro nn_
  induction nn_ with
  | zero => exact fun _ _ _ _ _ h_ => absurd h_ (Nat.not_lt_zero _)
  | succ nn_ ih_ =>
    rintro k_ S_ hI_ hF_ ⟨h0_, hS_, -⟩ hm_
    subst hS_
    refine sm_T_go 4 (c1 := (8, [some (.inr (.inr (some (13, 0)))), some (.inl a_), some (.inl b_), some (.inl k_)], [.inl a_, .inr (.inr (some (204, 0))), .inl k_], S_)) rfl ?_
    refine sm_T_iald (n := 64) rfl rfl (by omega) (by omega) ?_
    have bx1_ : 0 ≤ S_.2.2.1 204 0 a_.toNat ∧ S_.2.2.1 204 0 a_.toNat ≤ 3 := hI_.2 204 0 _
    refine sm_T_br (a := 3) (z := 71) rfl (fun cx2_ => ?_) (fun cx2_ => ?_)
    · have cx2_ : (S_.2.2.1 204 0 a_.toNat) ≤ k_ := of_decide_eq_true cx2_
      refine sm_T_go 3 (c1 := (85, [some (.inr (.inr (some (13, 0)))), some (.inl a_), some (.inl b_), some (.inl k_)], [.inl a_, .inr (.inr (some (204, 0)))], S_)) rfl ?_
      refine sm_T_iald (n := 64) rfl rfl (by omega) (by omega) ?_
      refine sm_T_go 3 (c1 := (91, [some (.inr (.inr (some (13, 0)))), some (.inl a_), some (.inl b_), some (.inl k_)], [.inl b_, .inr (.inr (some (204, 0))), .inl (S_.2.2.1 204 0 a_.toNat)], S_)) rfl ?_
      refine sm_T_iald (n := 64) rfl rfl (by omega) (by omega) ?_
      have bx3_ : 0 ≤ S_.2.2.1 204 0 b_.toNat ∧ S_.2.2.1 204 0 b_.toNat ≤ 3 := hI_.2 204 0 _
      refine sm_T_br (a := 3) (z := 7) rfl (fun cx4_ => ?_) (fun cx4_ => ?_)
      · have cx4_ : (S_.2.2.1 204 0 b_.toNat) ≤ (S_.2.2.1 204 0 a_.toNat) := of_decide_eq_true cx4_
        refine sm_T_go 1 (c1 := (100, [some (.inr (.inr (some (13, 0)))), some (.inl a_), some (.inl b_), some (.inl k_)], [.inl 0], S_)) rfl ?_
        refine sm_T_rz rfl (by omega) ⟨_, _, rfl, (by first | rfl | exact hS_.symm), _, rfl, ?_⟩
        omega
      · have cx4_ : ¬ ((S_.2.2.1 204 0 b_.toNat) ≤ (S_.2.2.1 204 0 a_.toNat)) := of_decide_eq_false cx4_
        refine sm_T_go 2 (c1 := (100, [some (.inr (.inr (some (13, 0)))), some (.inl a_), some (.inl b_), some (.inl k_)], [.inl 1], S_)) rfl ?_
        refine sm_T_rz rfl (by omega) ⟨_, _, rfl, (by first | rfl | exact hS_.symm), _, rfl, ?_⟩
        omega
    · have cx2_ : ¬ ((S_.2.2.1 204 0 a_.toNat) ≤ k_) := of_decide_eq_false cx2_
      refine sm_T_go 4 (c1 := (18, [some (.inr (.inr (some (13, 0)))), some (.inl a_), some (.inl b_), some (.inl k_)], [.inl b_, .inr (.inr (some (204, 0))), .inl k_], S_)) rfl ?_
      refine sm_T_iald (n := 64) rfl rfl (by omega) (by omega) ?_
      have bx5_ : 0 ≤ S_.2.2.1 204 0 b_.toNat ∧ S_.2.2.1 204 0 b_.toNat ≤ 3 := hI_.2 204 0 _
      refine sm_T_br (a := 3) (z := 61) rfl (fun cx6_ => ?_) (fun cx6_ => ?_)
      · have cx6_ : (S_.2.2.1 204 0 b_.toNat) ≤ k_ := of_decide_eq_true cx6_
        refine sm_T_go 3 (c1 := (85, [some (.inr (.inr (some (13, 0)))), some (.inl a_), some (.inl b_), some (.inl k_)], [.inl a_, .inr (.inr (some (204, 0)))], S_)) rfl ?_
        refine sm_T_iald (n := 64) rfl rfl (by omega) (by omega) ?_
        refine sm_T_go 3 (c1 := (91, [some (.inr (.inr (some (13, 0)))), some (.inl a_), some (.inl b_), some (.inl k_)], [.inl b_, .inr (.inr (some (204, 0))), .inl (S_.2.2.1 204 0 a_.toNat)], S_)) rfl ?_
        refine sm_T_iald (n := 64) rfl rfl (by omega) (by omega) ?_
        refine sm_T_br (a := 3) (z := 7) rfl (fun cx7_ => ?_) (fun cx7_ => ?_)
        · have cx7_ : (S_.2.2.1 204 0 b_.toNat) ≤ (S_.2.2.1 204 0 a_.toNat) := of_decide_eq_true cx7_
          refine sm_T_go 1 (c1 := (100, [some (.inr (.inr (some (13, 0)))), some (.inl a_), some (.inl b_), some (.inl k_)], [.inl 0], S_)) rfl ?_
          refine sm_T_rz rfl (by omega) ⟨_, _, rfl, (by first | rfl | exact hS_.symm), _, rfl, ?_⟩
          omega
        · have cx7_ : ¬ ((S_.2.2.1 204 0 b_.toNat) ≤ (S_.2.2.1 204 0 a_.toNat)) := of_decide_eq_false cx7_
          refine sm_T_go 2 (c1 := (100, [some (.inr (.inr (some (13, 0)))), some (.inl a_), some (.inl b_), some (.inl k_)], [.inl 1], S_)) rfl ?_
          refine sm_T_rz rfl (by omega) ⟨_, _, rfl, (by first | rfl | exact hS_.symm), _, rfl, ?_⟩
          omega
      · have cx6_ : ¬ ((S_.2.2.1 204 0 b_.toNat) ≤ k_) := of_decide_eq_false cx6_
        refine sm_T_go 4 (c1 := (28, [some (.inr (.inr (some (13, 0)))), some (.inl a_), some (.inl b_), some (.inl k_)], [.inl a_, .inl 3, .inr (.inr (some (205, 0)))], S_)) rfl ?_
        refine sm_T_bin (w := 3 * a_) rfl (bi_mul (by omega) (by omega) (by omega)) ?_ -- pc_ 28
        refine sm_T_go 1 (c1 := (30, [some (.inr (.inr (some (13, 0)))), some (.inl a_), some (.inl b_), some (.inl k_)], [.inl k_, .inl (3 * a_), .inr (.inr (some (205, 0)))], S_)) rfl ?_
        refine sm_T_bin (w := 3 * a_ + k_) rfl (bi_add (by omega) (by omega) (by omega)) ?_ -- pc_ 30
        refine sm_T_iald (n := 192) rfl rfl (by omega) (by omega) ?_
        have bx8_ : 0 ≤ S_.2.2.1 205 0 (3 * a_ + k_).toNat ∧ S_.2.2.1 205 0 (3 * a_ + k_).toNat ≤ 1012 := hI_.2 205 0 _
        refine sm_T_go 4 (c1 := (38, [some (.inr (.inr (some (13, 0)))), some (.inl a_), some (.inl b_), some (.inl k_)], [.inl b_, .inl 3, .inr (.inr (some (205, 0))), .inl (S_.2.2.1 205 0 (3 * a_ + k_).toNat)], S_)) rfl ?_
        refine sm_T_bin (w := 3 * b_) rfl (bi_mul (by omega) (by omega) (by omega)) ?_ -- pc_ 38
        refine sm_T_go 1 (c1 := (40, [some (.inr (.inr (some (13, 0)))), some (.inl a_), some (.inl b_), some (.inl k_)], [.inl k_, .inl (3 * b_), .inr (.inr (some (205, 0))), .inl (S_.2.2.1 205 0 (3 * a_ + k_).toNat)], S_)) rfl ?_
        refine sm_T_bin (w := 3 * b_ + k_) rfl (bi_add (by omega) (by omega) (by omega)) ?_ -- pc_ 40
        refine sm_T_iald (n := 192) rfl rfl (by omega) (by omega) ?_
        have bx9_ : 0 ≤ S_.2.2.1 205 0 (3 * b_ + k_).toNat ∧ S_.2.2.1 205 0 (3 * b_ + k_).toNat ≤ 1012 := hI_.2 205 0 _
        refine sm_T_br (a := 0) (z := 32) rfl (fun cx10_ => ?_) (fun cx10_ => ?_)
        · have cx10_ : (S_.2.2.1 205 0 (3 * a_ + k_).toNat) = (S_.2.2.1 205 0 (3 * b_ + k_).toNat) := of_decide_eq_true cx10_
          refine sm_T_inc (a := 3) (z := 1) (v := k_) (w := k_ + 1) rfl rfl (by omega) (by omega) (by omega) ?_ -- pc_ 74
          refine sm_T_go 1 (c1 := (2, [some (.inr (.inr (some (13, 0)))), some (.inl a_), some (.inl b_), some (.inl (k_ + 1))], [], S_)) rfl ?_
          refine ih_ (k_ + 1) S_ hI_ hF_ ⟨?_, ?_, trivial⟩ ?_
          · omega
          · rfl
          · omega
        · have cx10_ : ¬ ((S_.2.2.1 205 0 (3 * a_ + k_).toNat) = (S_.2.2.1 205 0 (3 * b_ + k_).toNat)) := of_decide_eq_false cx10_
          refine sm_T_go 4 (c1 := (51, [some (.inr (.inr (some (13, 0)))), some (.inl a_), some (.inl b_), some (.inl k_)], [.inl a_, .inl 3, .inr (.inr (some (205, 0)))], S_)) rfl ?_
          refine sm_T_bin (w := 3 * a_) rfl (bi_mul (by omega) (by omega) (by omega)) ?_ -- pc_ 51
          refine sm_T_go 1 (c1 := (53, [some (.inr (.inr (some (13, 0)))), some (.inl a_), some (.inl b_), some (.inl k_)], [.inl k_, .inl (3 * a_), .inr (.inr (some (205, 0)))], S_)) rfl ?_
          refine sm_T_bin (w := 3 * a_ + k_) rfl (bi_add (by omega) (by omega) (by omega)) ?_ -- pc_ 53
          refine sm_T_iald (n := 192) rfl rfl (by omega) (by omega) ?_
          refine sm_T_go 4 (c1 := (61, [some (.inr (.inr (some (13, 0)))), some (.inl a_), some (.inl b_), some (.inl k_)], [.inl b_, .inl 3, .inr (.inr (some (205, 0))), .inl (S_.2.2.1 205 0 (3 * a_ + k_).toNat)], S_)) rfl ?_
          refine sm_T_bin (w := 3 * b_) rfl (bi_mul (by omega) (by omega) (by omega)) ?_ -- pc_ 61
          refine sm_T_go 1 (c1 := (63, [some (.inr (.inr (some (13, 0)))), some (.inl a_), some (.inl b_), some (.inl k_)], [.inl k_, .inl (3 * b_), .inr (.inr (some (205, 0))), .inl (S_.2.2.1 205 0 (3 * a_ + k_).toNat)], S_)) rfl ?_
          refine sm_T_bin (w := 3 * b_ + k_) rfl (bi_add (by omega) (by omega) (by omega)) ?_ -- pc_ 63
          refine sm_T_iald (n := 192) rfl rfl (by omega) (by omega) ?_
          refine sm_T_br (a := 3) (z := 7) rfl (fun cx11_ => ?_) (fun cx11_ => ?_)
          · have cx11_ : (S_.2.2.1 205 0 (3 * b_ + k_).toNat) ≤ (S_.2.2.1 205 0 (3 * a_ + k_).toNat) := of_decide_eq_true cx11_
            refine sm_T_go 1 (c1 := (73, [some (.inr (.inr (some (13, 0)))), some (.inl a_), some (.inl b_), some (.inl k_)], [.inl 0], S_)) rfl ?_
            refine sm_T_rz rfl (by omega) ⟨_, _, rfl, (by first | rfl | exact hS_.symm), _, rfl, ?_⟩
            omega
          · have cx11_ : ¬ ((S_.2.2.1 205 0 (3 * b_ + k_).toNat) ≤ (S_.2.2.1 205 0 (3 * a_ + k_).toNat)) := of_decide_eq_false cx11_
            refine sm_T_go 2 (c1 := (73, [some (.inr (.inr (some (13, 0)))), some (.inl a_), some (.inl b_), some (.inl k_)], [.inl 1], S_)) rfl ?_
            refine sm_T_rz rfl (by omega) ⟨_, _, rfl, (by first | rfl | exact hS_.symm), _, rfl, ?_⟩
            omega
set_option maxHeartbeats 400000 in
set_option maxRecDepth 20000 in
theorem vc_398 {sc_ : Nat × (Nat → Int)} (a_ : Int) (b_ : Int) (S0_ : sm_S) (hI_ : gi S0_) (ha_ : 0 ≤ a_ ∧ a_ ≤ 63 ∧ 0 ≤ b_ ∧ b_ ≤ 63) : sm_T (mt_P sc_) 0 398 (0, [some (.inr (.inr (some (13, 0)))), some (.inl a_), some (.inl b_), none], [], S0_) (fun ro9_ => ∃ u_ S1_, ro9_ = (.inl u_, S1_, 0) ∧ vq_398 a_ b_ S0_ u_ S1_) := by
  have hF_ : ai_fr (sx_W vw_398) S0_ S0_ := ai_fr_rf
  refine sm_T_go 2 (c1 := (2, [some (.inr (.inr (some (13, 0)))), some (.inl a_), some (.inl b_), some (.inl 0)], [], S0_)) rfl ?_
  refine (vl_398 a_ b_ S0_ ha_ _) 0 S0_ hI_ hF_ ⟨?_, ?_, trivial⟩ (Nat.lt_succ_self _)
  · omega
  · rfl
/-! M_.swapCuts -/
def vw_399 : sx_Wl := ([], [204, 205], [])
def vq_399 (a_ : Int) (b_ : Int) (P_ : Int → Prop) (S0_ : sm_S) (u_ : Option sm_V) (S1_ : sm_S) : Prop := u_ = none ∧ gi S1_ ∧ ai_fr (sx_W vw_399) S0_ S1_ ∧ (ctp P_ S1_)
set_option maxHeartbeats 1500000 in
set_option maxRecDepth 20000 in
theorem vl_399 {sc_ : Nat × (Nat → Int)} (a_ : Int) (b_ : Int) (P_ : Int → Prop) (S0_ : sm_S) (ha_ : 0 ≤ a_ ∧ a_ < (S0_.1 13 0 114) ∧ 0 ≤ b_ ∧ b_ < (S0_.1 13 0 114) ∧ a_ ≠ b_) (hc_ : ctp P_ S0_) : ∀ nn_ : Nat, (∀ (k_ : Int) (S_ : sm_S), gi S_ → ai_fr (sx_W vw_399) S0_ S_ → ((0 ≤ k_ ∧ k_ ≤ 3) ∧ (∀ j9_ : Int, 0 ≤ j9_ → S_.2.2.1 205 0 j9_.toNat = if 3 * a_ ≤ j9_ ∧ j9_ < 3 * a_ + k_ then S0_.2.2.1 205 0 (j9_ - 3 * a_ + 3 * b_).toNat else if 3 * b_ ≤ j9_ ∧ j9_ < 3 * b_ + k_ then S0_.2.2.1 205 0 (j9_ - 3 * b_ + 3 * a_).toNat else S0_.2.2.1 205 0 j9_.toNat) ∧ (∀ j9_ : Nat, S_.2.2.1 204 0 j9_ = if j9_ = b_.toNat then S0_.2.2.1 204 0 a_.toNat else if j9_ = a_.toNat then S0_.2.2.1 204 0 b_.toNat else S0_.2.2.1 204 0 j9_) ∧ True) → ((50 - k_).toNat) < nn_ → sm_T (mt_P sc_) 0 399 (29, [some (.inr (.inr (some (13, 0)))), some (.inl a_), some (.inl b_), none, some (.inl k_), none], [], S_) (fun ro9_ => ∃ u_ S1_, ro9_ = (.inl u_, S1_, 0) ∧ vq_399 a_ b_ P_ S0_ u_ S1_)) := by
  intro nn_
  induction nn_ with
  | zero => exact fun _ _ _ _ _ h_ => absurd h_ (Nat.not_lt_zero _)
  | succ nn_ ih_ =>
    rintro k_ S_ hI_ hF_ ⟨h0_, h1_, h2_, -⟩ hm_
    have c9_ : S_.1 13 0 114 ≤ 64 := (hI_.1 13 0 114 rfl).2
    have g14_ : S_.1 13 0 114 = S0_.1 13 0 114 := hF_.1 13 0 114 rfl
    refine sm_T_go 2 (c1 := (32, [some (.inr (.inr (some (13, 0)))), some (.inl a_), some (.inl b_), none, some (.inl k_), none], [.inl 3, .inl k_], S_)) rfl ?_
    refine sm_T_br (a := 3) (z := 57) rfl (fun cx1_ => ?_) (fun cx1_ => ?_)
    · have cx1_ : 3 ≤ k_ := of_decide_eq_true cx1_
      refine sm_T_rv rfl ⟨_, _, rfl, rfl, hI_, hF_, ?_⟩
      have bb_ : ∀ i9_ : Nat, 0 ≤ S_.2.2.1 204 0 i9_ ∧ S_.2.2.1 204 0 i9_ ≤ 3 := fun i9_ => hI_.2 204 0 i9_
      intro c8_ u0_ u1_
      rw [g14_] at u1_
      have q9_ := h2_ c8_.toNat
      have b9_ := bb_ c8_.toNat
      by_cases z9_ : c8_.toNat = b_.toNat
      · rw [if_pos z9_] at q9_
        have w9_ := hc_ a_ (by omega) (by omega)
        refine ⟨by omega, fun k9_ v0_ v1_ => ?_⟩
        rw [h1_ (3 * c8_ + k9_) (by omega), if_neg (by omega), if_pos (by omega), show 3 * c8_ + k9_ - 3 * b_ + 3 * a_ = 3 * a_ + k9_ by omega]
        exact w9_.2 k9_ v0_ (by omega)
      · rw [if_neg z9_] at q9_
        by_cases y9_ : c8_.toNat = a_.toNat
        · rw [if_pos y9_] at q9_
          have w9_ := hc_ b_ (by omega) (by omega)
          refine ⟨by omega, fun k9_ v0_ v1_ => ?_⟩
          rw [h1_ (3 * c8_ + k9_) (by omega), if_pos (by omega), show 3 * c8_ + k9_ - 3 * a_ + 3 * b_ = 3 * b_ + k9_ by omega]
          exact w9_.2 k9_ v0_ (by omega)
        · rw [if_neg y9_] at q9_
          have w9_ := hc_ c8_ u0_ (by omega)
          refine ⟨by omega, fun k9_ v0_ v1_ => ?_⟩
          rw [h1_ (3 * c8_ + k9_) (by omega), if_neg (by omega), if_neg (by omega)]
          exact w9_.2 k9_ v0_ (by omega)
    · have cx1_ : ¬ (3 ≤ k_) := of_decide_eq_false cx1_
      refine sm_T_go 4 (c1 := (41, [some (.inr (.inr (some (13, 0)))), some (.inl a_), some (.inl b_), none, some (.inl k_), none], [.inl a_, .inl 3, .inr (.inr (some (205, 0)))], S_)) rfl ?_
      refine sm_T_bin (w := 3 * a_) rfl (bi_mul (by omega) (by omega) (by omega)) ?_ -- pc_ 41
      refine sm_T_go 1 (c1 := (44, [some (.inr (.inr (some (13, 0)))), some (.inl a_), some (.inl b_), none, some (.inl k_), none], [.inl k_, .inl (3 * a_), .inr (.inr (some (205, 0)))], S_)) rfl ?_
      refine sm_T_bin (w := 3 * a_ + k_) rfl (bi_add (by omega) (by omega) (by omega)) ?_ -- pc_ 44
      refine sm_T_iald (n := 192) rfl rfl (by omega) (by omega) ?_
      have bx2_ : 0 ≤ S_.2.2.1 205 0 (3 * a_ + k_).toNat ∧ S_.2.2.1 205 0 (3 * a_ + k_).toNat ≤ 1012 := hI_.2 205 0 _
      refine sm_T_go 5 (c1 := (54, [some (.inr (.inr (some (13, 0)))), some (.inl a_), some (.inl b_), none, some (.inl k_), some (.inl (S_.2.2.1 205 0 (3 * a_ + k_).toNat))], [.inl a_, .inl 3, .inr (.inr (some (205, 0)))], S_)) rfl ?_
      refine sm_T_bin (w := 3 * a_) rfl (bi_mul (by omega) (by omega) (by omega)) ?_ -- pc_ 54
      refine sm_T_go 1 (c1 := (57, [some (.inr (.inr (some (13, 0)))), some (.inl a_), some (.inl b_), none, some (.inl k_), some (.inl (S_.2.2.1 205 0 (3 * a_ + k_).toNat))], [.inl k_, .inl (3 * a_), .inr (.inr (some (205, 0)))], S_)) rfl ?_
      refine sm_T_bin (w := 3 * a_ + k_) rfl (bi_add (by omega) (by omega) (by omega)) ?_ -- pc_ 57
      refine sm_T_go 4 (c1 := (64, [some (.inr (.inr (some (13, 0)))), some (.inl a_), some (.inl b_), none, some (.inl k_), some (.inl (S_.2.2.1 205 0 (3 * a_ + k_).toNat))], [.inl b_, .inl 3, .inr (.inr (some (205, 0))), .inl (3 * a_ + k_), .inr (.inr (some (205, 0)))], S_)) rfl ?_
      refine sm_T_bin (w := 3 * b_) rfl (bi_mul (by omega) (by omega) (by omega)) ?_ -- pc_ 64
      refine sm_T_go 1 (c1 := (67, [some (.inr (.inr (some (13, 0)))), some (.inl a_), some (.inl b_), none, some (.inl k_), some (.inl (S_.2.2.1 205 0 (3 * a_ + k_).toNat))], [.inl k_, .inl (3 * b_), .inr (.inr (some (205, 0))), .inl (3 * a_ + k_), .inr (.inr (some (205, 0)))], S_)) rfl ?_
      refine sm_T_bin (w := 3 * b_ + k_) rfl (bi_add (by omega) (by omega) (by omega)) ?_ -- pc_ 67
      refine sm_T_iald (n := 192) rfl rfl (by omega) (by omega) ?_
      have bx3_ : 0 ≤ S_.2.2.1 205 0 (3 * b_ + k_).toNat ∧ S_.2.2.1 205 0 (3 * b_ + k_).toNat ≤ 1012 := hI_.2 205 0 _
      refine sm_T_iast (n := 192) rfl rfl (by omega) (by omega) ?_
      have hIx4_ : gi (sm_aI S_ 205 0 (3 * a_ + k_).toNat (S_.2.2.1 205 0 (3 * b_ + k_).toNat)) := gi_aI hI_ (show 0 ≤ (S_.2.2.1 205 0 (3 * b_ + k_).toNat) ∧ (S_.2.2.1 205 0 (3 * b_ + k_).toNat) ≤ 1012 from ⟨by omega, by omega⟩)
      have hFx5_ : ai_fr (sx_W vw_399) S0_ (sm_aI S_ 205 0 (3 * a_ + k_).toNat (S_.2.2.1 205 0 (3 * b_ + k_).toNat)) := ai_fr_tr hF_ (ai_fr_aI rfl)
      refine sm_T_go 4 (c1 := (76, [some (.inr (.inr (some (13, 0)))), some (.inl a_), some (.inl b_), none, some (.inl k_), some (.inl (S_.2.2.1 205 0 (3 * a_ + k_).toNat))], [.inl b_, .inl 3, .inr (.inr (some (205, 0)))], sm_aI S_ 205 0 (3 * a_ + k_).toNat (S_.2.2.1 205 0 (3 * b_ + k_).toNat))) rfl ?_
      refine sm_T_bin (w := 3 * b_) rfl (bi_mul (by omega) (by omega) (by omega)) ?_ -- pc_ 76
      refine sm_T_go 1 (c1 := (79, [some (.inr (.inr (some (13, 0)))), some (.inl a_), some (.inl b_), none, some (.inl k_), some (.inl (S_.2.2.1 205 0 (3 * a_ + k_).toNat))], [.inl k_, .inl (3 * b_), .inr (.inr (some (205, 0)))], sm_aI S_ 205 0 (3 * a_ + k_).toNat (S_.2.2.1 205 0 (3 * b_ + k_).toNat))) rfl ?_
      refine sm_T_bin (w := 3 * b_ + k_) rfl (bi_add (by omega) (by omega) (by omega)) ?_ -- pc_ 79
      refine sm_T_go 1 (c1 := (82, [some (.inr (.inr (some (13, 0)))), some (.inl a_), some (.inl b_), none, some (.inl k_), some (.inl (S_.2.2.1 205 0 (3 * a_ + k_).toNat))], [.inl (S_.2.2.1 205 0 (3 * a_ + k_).toNat), .inl (3 * b_ + k_), .inr (.inr (some (205, 0)))], sm_aI S_ 205 0 (3 * a_ + k_).toNat (S_.2.2.1 205 0 (3 * b_ + k_).toNat))) rfl ?_
      refine sm_T_iast (n := 192) rfl rfl (by omega) (by omega) ?_
      have hIx6_ : gi (sm_aI (sm_aI S_ 205 0 (3 * a_ + k_).toNat (S_.2.2.1 205 0 (3 * b_ + k_).toNat)) 205 0 (3 * b_ + k_).toNat (S_.2.2.1 205 0 (3 * a_ + k_).toNat)) := gi_aI hIx4_ (show 0 ≤ (S_.2.2.1 205 0 (3 * a_ + k_).toNat) ∧ (S_.2.2.1 205 0 (3 * a_ + k_).toNat) ≤ 1012 from ⟨by omega, by omega⟩)
      have hFx7_ : ai_fr (sx_W vw_399) S0_ (sm_aI (sm_aI S_ 205 0 (3 * a_ + k_).toNat (S_.2.2.1 205 0 (3 * b_ + k_).toNat)) 205 0 (3 * b_ + k_).toNat (S_.2.2.1 205 0 (3 * a_ + k_).toNat)) := ai_fr_tr hFx5_ (ai_fr_aI rfl)
      refine sm_T_inc (a := 4) (z := 1) (v := k_) (w := k_ + 1) rfl rfl (by omega) (by omega) (by omega) ?_ -- pc_ 83
      refine sm_T_go 1 (c1 := (29, [some (.inr (.inr (some (13, 0)))), some (.inl a_), some (.inl b_), none, some (.inl (k_ + 1)), some (.inl (S_.2.2.1 205 0 (3 * a_ + k_).toNat))], [], sm_aI (sm_aI S_ 205 0 (3 * a_ + k_).toNat (S_.2.2.1 205 0 (3 * b_ + k_).toNat)) 205 0 (3 * b_ + k_).toNat (S_.2.2.1 205 0 (3 * a_ + k_).toNat))) rfl ?_
      refine sm_T_wk [some (.inr (.inr (some (13, 0)))), some (.inl a_), some (.inl b_), none, some (.inl (k_ + 1)), none] (by exact ⟨rfl, rfl, rfl, rfl, trivial⟩) ?_
      refine ih_ (k_ + 1) (sm_aI (sm_aI S_ 205 0 (3 * a_ + k_).toNat (S_.2.2.1 205 0 (3 * b_ + k_).toNat)) 205 0 (3 * b_ + k_).toNat (S_.2.2.1 205 0 (3 * a_ + k_).toNat)) hIx6_ hFx7_ ⟨?_, ?_, ?_, trivial⟩ ?_
      · omega
      · have A9_ := h1_ (3 * a_ + k_) (by omega)
        have B9_ := h1_ (3 * b_ + k_) (by omega)
        rw [if_neg (by omega), if_neg (by omega)] at A9_ B9_
        intro j9_ u0_
        (try simp only [rd_eq, rd_ne, rf_eq, rf_nk, rf_nt, rd_fa, rd_af, rd_fl, rd_al, rd_lf, rd_la, rd_leq, rd_lne, rd_fr, rd_ar, ne_eq, Nat.reduceEqDiff, not_false_eq_true])
        by_cases z9_ : j9_ = 3 * b_ + k_
        · rw [if_pos (by omega), if_neg (by omega), if_pos (by omega), A9_, show j9_ - 3 * b_ + 3 * a_ = 3 * a_ + k_ by omega]
        · rw [if_neg (by omega)]
          by_cases y9_ : j9_ = 3 * a_ + k_
          · rw [if_pos (by omega), if_pos (by omega), B9_, show j9_ - 3 * a_ + 3 * b_ = 3 * b_ + k_ by omega]
          · rw [if_neg (by omega), h1_ j9_ u0_]
            have e1_ : (3 * a_ ≤ j9_ ∧ j9_ < 3 * a_ + k_) ↔ (3 * a_ ≤ j9_ ∧ j9_ < 3 * a_ + (k_ + 1)) := by omega
            have e2_ : (3 * b_ ≤ j9_ ∧ j9_ < 3 * b_ + k_) ↔ (3 * b_ ≤ j9_ ∧ j9_ < 3 * b_ + (k_ + 1)) := by omega
            simp only [e1_, e2_]
      · (intro j9_; (try simp only [rd_eq, rd_ne, rf_eq, rf_nk, rf_nt, rd_fa, rd_af, rd_fl, rd_al, rd_lf, rd_la, rd_leq, rd_lne, rd_fr, rd_ar, ne_eq, Nat.reduceEqDiff, not_false_eq_true]); exact h2_ j9_)
      · omega
set_option maxHeartbeats 1500000 in
set_option maxRecDepth 20000 in
theorem vc_399 {sc_ : Nat × (Nat → Int)} (a_ : Int) (b_ : Int) (P_ : Int → Prop) (S0_ : sm_S) (hI_ : gi S0_) (ha_ : 0 ≤ a_ ∧ a_ < (S0_.1 13 0 114) ∧ 0 ≤ b_ ∧ b_ < (S0_.1 13 0 114) ∧ a_ ≠ b_) (hc_ : ctp P_ S0_) : sm_T (mt_P sc_) 0 399 (0, [some (.inr (.inr (some (13, 0)))), some (.inl a_), some (.inl b_), none, none, none], [], S0_) (fun ro9_ => ∃ u_ S1_, ro9_ = (.inl u_, S1_, 0) ∧ vq_399 a_ b_ P_ S0_ u_ S1_) := by
  have hF_ : ai_fr (sx_W vw_399) S0_ S0_ := ai_fr_rf
  have c9_ : S0_.1 13 0 114 ≤ 64 := (hI_.1 13 0 114 rfl).2
  refine sm_T_go 3 (c1 := (5, [some (.inr (.inr (some (13, 0)))), some (.inl a_), some (.inl b_), none, none, none], [.inl a_, .inr (.inr (some (204, 0)))], S0_)) rfl ?_
  refine sm_T_iald (n := 64) rfl rfl (by omega) (by omega) ?_
  have bx1_ : 0 ≤ S0_.2.2.1 204 0 a_.toNat ∧ S0_.2.2.1 204 0 a_.toNat ≤ 3 := hI_.2 204 0 _
  refine sm_T_go 7 (c1 := (17, [some (.inr (.inr (some (13, 0)))), some (.inl a_), some (.inl b_), some (.inl (S0_.2.2.1 204 0 a_.toNat)), none, none], [.inl b_, .inr (.inr (some (204, 0))), .inl a_, .inr (.inr (some (204, 0)))], S0_)) rfl ?_
  refine sm_T_iald (n := 64) rfl rfl (by omega) (by omega) ?_
  have bx2_ : 0 ≤ S0_.2.2.1 204 0 b_.toNat ∧ S0_.2.2.1 204 0 b_.toNat ≤ 3 := hI_.2 204 0 _
  refine sm_T_iast (n := 64) rfl rfl (by omega) (by omega) ?_
  have hIx3_ : gi (sm_aI S0_ 204 0 a_.toNat (S0_.2.2.1 204 0 b_.toNat)) := gi_aI hI_ (show 0 ≤ (S0_.2.2.1 204 0 b_.toNat) ∧ (S0_.2.2.1 204 0 b_.toNat) ≤ 3 from ⟨by omega, by omega⟩)
  have hFx4_ : ai_fr (sx_W vw_399) S0_ (sm_aI S0_ 204 0 a_.toNat (S0_.2.2.1 204 0 b_.toNat)) := ai_fr_tr hF_ (ai_fr_aI rfl)
  refine sm_T_go 4 (c1 := (25, [some (.inr (.inr (some (13, 0)))), some (.inl a_), some (.inl b_), some (.inl (S0_.2.2.1 204 0 a_.toNat)), none, none], [.inl (S0_.2.2.1 204 0 a_.toNat), .inl b_, .inr (.inr (some (204, 0)))], sm_aI S0_ 204 0 a_.toNat (S0_.2.2.1 204 0 b_.toNat))) rfl ?_
  refine sm_T_iast (n := 64) rfl rfl (by omega) (by omega) ?_
  have hIx5_ : gi (sm_aI (sm_aI S0_ 204 0 a_.toNat (S0_.2.2.1 204 0 b_.toNat)) 204 0 b_.toNat (S0_.2.2.1 204 0 a_.toNat)) := gi_aI hIx3_ (show 0 ≤ (S0_.2.2.1 204 0 a_.toNat) ∧ (S0_.2.2.1 204 0 a_.toNat) ≤ 3 from ⟨by omega, by omega⟩)
  have hFx6_ : ai_fr (sx_W vw_399) S0_ (sm_aI (sm_aI S0_ 204 0 a_.toNat (S0_.2.2.1 204 0 b_.toNat)) 204 0 b_.toNat (S0_.2.2.1 204 0 a_.toNat)) := ai_fr_tr hFx4_ (ai_fr_aI rfl)
  refine sm_T_go 2 (c1 := (29, [some (.inr (.inr (some (13, 0)))), some (.inl a_), some (.inl b_), some (.inl (S0_.2.2.1 204 0 a_.toNat)), some (.inl 0), none], [], sm_aI (sm_aI S0_ 204 0 a_.toNat (S0_.2.2.1 204 0 b_.toNat)) 204 0 b_.toNat (S0_.2.2.1 204 0 a_.toNat))) rfl ?_
  refine sm_T_wk [some (.inr (.inr (some (13, 0)))), some (.inl a_), some (.inl b_), none, some (.inl 0), none] (by exact ⟨rfl, rfl, rfl, rfl, trivial⟩) ?_
  refine (vl_399 a_ b_ P_ S0_ ha_ hc_ _) 0 (sm_aI (sm_aI S0_ 204 0 a_.toNat (S0_.2.2.1 204 0 b_.toNat)) 204 0 b_.toNat (S0_.2.2.1 204 0 a_.toNat)) hIx5_ hFx6_ ⟨?_, ?_, ?_, trivial⟩ (Nat.lt_succ_self _)
  · omega
  · (intro j9_ u0_; rw [if_neg (by omega), if_neg (by omega)]; (try simp only [rd_eq, rd_ne, rf_eq, rf_nk, rf_nt, rd_fa, rd_af, rd_fl, rd_al, rd_lf, rd_la, rd_leq, rd_lne, rd_fr, rd_ar, ne_eq, Nat.reduceEqDiff, not_false_eq_true]))
  · (intro j9_; (try simp only [rd_eq, rd_ne, rf_eq, rf_nk, rf_nt, rd_fa, rd_af, rd_fl, rd_al, rd_lf, rd_la, rd_leq, rd_lne, rd_fr, rd_ar, ne_eq, Nat.reduceEqDiff, not_false_eq_true]))
/-! M_.findCuts -/
def vw_400 : sx_Wl := ([(13, 114), (13, 123)], [204, 205, 212], [])
def vq_400 (n_ : Int) (F_ : Int) (N_ : Int) (S0_ : sm_S) (u_ : Option sm_V) (S1_ : sm_S) : Prop := u_ = none ∧ gi S1_ ∧ ai_fr (sx_W vw_400) S0_ S1_ ∧ (ctp (cnd9 n_ (S0_.2.2.1 202 0)) S1_)
set_option maxHeartbeats 4000000 in
set_option maxRecDepth 20000 in
theorem vl_400 {sc_ : Nat × (Nat → Int)} (n_ : Int) (F_ : Int) (N_ : Int) (S0_ : sm_S) (hf_ : S0_.2.2.1 160 0 (S0_.1 13 0 105).toNat = F_) (hn_ : 1 ≤ F_ ∧ F_ ≤ n_ ∧ n_ < N_ ∧ N_ ≤ 1013) (hw_ : S0_.2.2.1 202 0 n_.toNat = 1) (hl_ : lgn F_ N_ S0_) : ∀ nn_ : Nat, (∀ (c_ : Int) (S_ : sm_S), gi S_ → ai_fr (sx_W vw_400) S0_ S_ → ((0 ≤ c_ ∧ c_ ≤ 64) ∧ (ctp (cnd9 n_ (S0_.2.2.1 202 0)) S_) ∧ True) → ((1000 * (100 - c_) + 900).toNat) < nn_ → sm_T (mt_P sc_) 1 400 (40, [some (.inr (.inr (some (13, 0)))), some (.inl n_), some (.inl c_), none, none, none], [], S_) (fun ro9_ => ∃ u_ S1_, ro9_ = (.inl u_, S1_, 0) ∧ vq_400 n_ F_ N_ S0_ u_ S1_)) ∧ (∀ (c_ : Int) (k_ : Int) (S_ : sm_S), gi S_ → ai_fr (sx_W vw_400) S0_ S_ → ((0 ≤ c_ ∧ c_ < S_.1 13 0 114 ∧ 0 ≤ k_ ∧ k_ ≤ 3) ∧ (ctp (cnd9 n_ (S0_.2.2.1 202 0)) S_) ∧ True) → ((1000 * (100 - c_) + 800 - 10 * k_).toNat) < nn_ → sm_T (mt_P sc_) 1 400 (50, [some (.inr (.inr (some (13, 0)))), some (.inl n_), some (.inl c_), some (.inl k_), none, none], [], S_) (fun ro9_ => ∃ u_ S1_, ro9_ = (.inl u_, S1_, 0) ∧ vq_400 n_ F_ N_ S0_ u_ S1_)) ∧ (∀ (c_ : Int) (k_ : Int) (x_ : Int) (i_ : Int) (S_ : sm_S), gi S_ → ai_fr (sx_W vw_400) S0_ S_ → ((0 ≤ c_ ∧ c_ < S_.1 13 0 114 ∧ 0 ≤ k_ ∧ k_ ≤ 2 ∧ 0 ≤ i_ ∧ i_ ≤ 3 ∧ S_.1 13 0 123 ≤ i_ ∧ F_ ≤ x_ ∧ x_ ≤ 1012) ∧ (ctp (cnd9 n_ (S0_.2.2.1 202 0)) S_) ∧ (trp (cnd9 n_ (S0_.2.2.1 202 0)) S_) ∧ (cnd9 n_ (S0_.2.2.1 202 0) x_) ∧ True) → ((1000 * (100 - c_) + 800 - 10 * k_ - 2 - i_).toNat) < nn_ → sm_T (mt_P sc_) 1 400 (89, [some (.inr (.inr (some (13, 0)))), some (.inl n_), some (.inl c_), some (.inl k_), some (.inl x_), some (.inl i_)], [], S_) (fun ro9_ => ∃ u_ S1_, ro9_ = (.inl u_, S1_, 0) ∧ vq_400 n_ F_ N_ S0_ u_ S1_)) ∧ (∀ (i_ : Int) (S_ : sm_S), gi S_ → ai_fr (sx_W vw_400) S0_ S_ → ((1 ≤ i_ ∧ i_ ≤ 65) ∧ (ctp (cnd9 n_ (S0_.2.2.1 202 0)) S_) ∧ True) → ((100 * (100 - i_) + 90).toNat) < nn_ → sm_T (mt_P sc_) 1 400 (171, [some (.inr (.inr (some (13, 0)))), some (.inl n_), some (.inl i_), none, none, none], [], S_) (fun ro9_ => ∃ u_ S1_, ro9_ = (.inl u_, S1_, 0) ∧ vq_400 n_ F_ N_ S0_ u_ S1_)) ∧ (∀ (i_ : Int) (j_ : Int) (S_ : sm_S), gi S_ → ai_fr (sx_W vw_400) S0_ S_ → ((1 ≤ i_ ∧ i_ < S_.1 13 0 114 ∧ 0 ≤ j_ ∧ j_ ≤ i_) ∧ (ctp (cnd9 n_ (S0_.2.2.1 202 0)) S_) ∧ True) → ((100 * (100 - i_) + j_).toNat) < nn_ → sm_T (mt_P sc_) 1 400 (181, [some (.inr (.inr (some (13, 0)))), some (.inl n_), some (.inl i_), some (.inl j_), none, none], [], S_) (fun ro9_ => ∃ u_ S1_, ro9_ = (.inl u_, S1_, 0) ∧ vq_400 n_ F_ N_ S0_ u_ S1_)) := by
  intro nn_
  induction nn_ with
  | zero => exact ⟨fun _ _ _ _ _ h_ => absurd h_ (Nat.not_lt_zero _), fun _ _ _ _ _ _ h_ => absurd h_ (Nat.not_lt_zero _), fun _ _ _ _ _ _ _ _ h_ => absurd h_ (Nat.not_lt_zero _), fun _ _ _ _ _ h_ => absurd h_ (Nat.not_lt_zero _), fun _ _ _ _ _ _ h_ => absurd h_ (Nat.not_lt_zero _)⟩
  | succ nn_ ih_ =>
    refine ⟨?_, ?_, ?_, ?_, ?_⟩
    · rintro c_ S_ hI_ hF_ ⟨h0_, hc_, -⟩ hm_
      have f202_ : S_.2.2.1 202 0 = S0_.2.2.1 202 0 := fr_arr hF_ rfl
      have f199_ : S_.2.2.1 199 0 = S0_.2.2.1 199 0 := fr_arr hF_ rfl
      have f200_ : S_.2.2.1 200 0 = S0_.2.2.1 200 0 := fr_arr hF_ rfl
      have f160_ : S_.2.2.1 160 0 (S_.1 13 0 105).toNat = F_ := by (rw [hF_.1 13 0 105 rfl, fr_arr (t := 160) (i := 0) hF_ rfl]; exact hf_)
      have c14_ : 0 ≤ S_.1 13 0 114 ∧ S_.1 13 0 114 ≤ 64 := hI_.1 13 0 114 rfl
      have c23_ : 0 ≤ S_.1 13 0 123 ∧ S_.1 13 0 123 ≤ 8 := hI_.1 13 0 123 rfl
      have bx1_ : 0 ≤ S_.1 13 0 114 ∧ S_.1 13 0 114 ≤ 64 := hI_.1 13 0 114 rfl
      refine sm_T_go 3 (c1 := (45, [some (.inr (.inr (some (13, 0)))), some (.inl n_), some (.inl c_), none, none, none], [.inl (S_.1 13 0 114), .inl c_], S_)) rfl ?_
      refine sm_T_br (a := 3) (z := 124) rfl (fun cx2_ => ?_) (fun cx2_ => ?_)
      · have cx2_ : (S_.1 13 0 114) ≤ c_ := of_decide_eq_true cx2_
        refine sm_T_go 2 (c1 := (171, [some (.inr (.inr (some (13, 0)))), some (.inl n_), some (.inl 1), none, none, none], [], S_)) rfl ?_
        refine ih_.2.2.2.1 1 S_ hI_ hF_ ⟨?_, ?_, trivial⟩ ?_
        · omega
        · exact hc_
        · omega
      · have cx2_ : ¬ ((S_.1 13 0 114) ≤ c_) := of_decide_eq_false cx2_
        refine sm_T_go 2 (c1 := (50, [some (.inr (.inr (some (13, 0)))), some (.inl n_), some (.inl c_), some (.inl 0), none, none], [], S_)) rfl ?_
        refine ih_.2.1 c_ 0 S_ hI_ hF_ ⟨?_, ?_, trivial⟩ ?_
        · omega
        · exact hc_
        · omega
    · rintro c_ k_ S_ hI_ hF_ ⟨h0_, hc_, -⟩ hm_
      have f202_ : S_.2.2.1 202 0 = S0_.2.2.1 202 0 := fr_arr hF_ rfl
      have f199_ : S_.2.2.1 199 0 = S0_.2.2.1 199 0 := fr_arr hF_ rfl
      have f200_ : S_.2.2.1 200 0 = S0_.2.2.1 200 0 := fr_arr hF_ rfl
      have f160_ : S_.2.2.1 160 0 (S_.1 13 0 105).toNat = F_ := by (rw [hF_.1 13 0 105 rfl, fr_arr (t := 160) (i := 0) hF_ rfl]; exact hf_)
      have c14_ : 0 ≤ S_.1 13 0 114 ∧ S_.1 13 0 114 ≤ 64 := hI_.1 13 0 114 rfl
      have c23_ : 0 ≤ S_.1 13 0 123 ∧ S_.1 13 0 123 ≤ 8 := hI_.1 13 0 123 rfl
      refine sm_T_go 4 (c1 := (56, [some (.inr (.inr (some (13, 0)))), some (.inl n_), some (.inl c_), some (.inl k_), none, none], [.inl c_, .inr (.inr (some (204, 0))), .inl k_], S_)) rfl ?_
      refine sm_T_iald (n := 64) rfl rfl (by omega) (by omega) ?_
      have bx1_ : 0 ≤ S_.2.2.1 204 0 c_.toNat ∧ S_.2.2.1 204 0 c_.toNat ≤ 3 := hI_.2 204 0 _
      refine sm_T_br (a := 3) (z := 106) rfl (fun cx2_ => ?_) (fun cx2_ => ?_)
      · have cx2_ : (S_.2.2.1 204 0 c_.toNat) ≤ k_ := of_decide_eq_true cx2_
        refine sm_T_inc (a := 2) (z := 1) (v := c_) (w := c_ + 1) rfl rfl (by omega) (by omega) (by omega) ?_ -- pc_ 163
        refine sm_T_go 1 (c1 := (40, [some (.inr (.inr (some (13, 0)))), some (.inl n_), some (.inl (c_ + 1)), some (.inl k_), none, none], [], S_)) rfl ?_
        refine sm_T_wk [some (.inr (.inr (some (13, 0)))), some (.inl n_), some (.inl (c_ + 1)), none, none, none] (by exact ⟨rfl, rfl, rfl, trivial⟩) ?_
        refine ih_.1 (c_ + 1) S_ hI_ hF_ ⟨?_, ?_, trivial⟩ ?_
        · omega
        · exact hc_
        · omega
      · have cx2_ : ¬ ((S_.2.2.1 204 0 c_.toNat) ≤ k_) := of_decide_eq_false cx2_
        have b4_ : 0 ≤ S_.2.2.1 204 0 c_.toNat ∧ S_.2.2.1 204 0 c_.toNat ≤ 3 := hI_.2 204 0 _
        have w9_ := (hc_ c_ (by omega) (by omega)).2 k_ (by omega) (by omega)
        have w1_ := w9_.1
        have w2_ := w9_.2.1
        refine sm_T_go 4 (c1 := (66, [some (.inr (.inr (some (13, 0)))), some (.inl n_), some (.inl c_), some (.inl k_), none, none], [.inl c_, .inl 3, .inr (.inr (some (205, 0)))], S_)) rfl ?_
        refine sm_T_bin (w := 3 * c_) rfl (bi_mul (by omega) (by omega) (by omega)) ?_ -- pc_ 66
        refine sm_T_go 1 (c1 := (68, [some (.inr (.inr (some (13, 0)))), some (.inl n_), some (.inl c_), some (.inl k_), none, none], [.inl k_, .inl (3 * c_), .inr (.inr (some (205, 0)))], S_)) rfl ?_
        refine sm_T_bin (w := 3 * c_ + k_) rfl (bi_add (by omega) (by omega) (by omega)) ?_ -- pc_ 68
        refine sm_T_iald (n := 192) rfl rfl (by omega) (by omega) ?_
        have bx3_ : 0 ≤ S_.2.2.1 205 0 (3 * c_ + k_).toNat ∧ S_.2.2.1 205 0 (3 * c_ + k_).toNat ≤ 1012 := hI_.2 205 0 _
        refine sm_T_go 3 (c1 := (75, [some (.inr (.inr (some (13, 0)))), some (.inl n_), some (.inl c_), some (.inl k_), some (.inl (S_.2.2.1 205 0 (3 * c_ + k_).toNat)), none], [.inl (S_.2.2.1 205 0 (3 * c_ + k_).toNat), .inr (.inr (some (13, 0)))], S_)) rfl ?_
        refine sm_T_cal (d1 := 0) (Q1 := vq_395 (S_.2.2.1 205 0 (3 * c_ + k_).toNat) F_ S_) rfl rfl (by decide) (vc_395 (S_.2.2.1 205 0 (3 * c_ + k_).toNat) F_ S_ hI_ (by exact f160_) (by omega)) (fun u_ Sx4_ px7_ => ?_)
        obtain ⟨rfl, vx9_, rfl, px7_⟩ := px7_
        have e75_ := px7_
        refine sm_T_b0 (a := 0) (z := 79) rfl (fun cx10_ => ?_) (fun cx10_ => ?_)
        · have cx10_ : vx9_ = 0 := of_decide_eq_true cx10_
          refine sm_T_inc (a := 3) (z := 1) (v := k_) (w := k_ + 1) rfl rfl (by omega) (by omega) (by omega) ?_ -- pc_ 157
          refine sm_T_go 1 (c1 := (50, [some (.inr (.inr (some (13, 0)))), some (.inl n_), some (.inl c_), some (.inl (k_ + 1)), some (.inl (S_.2.2.1 205 0 (3 * c_ + k_).toNat)), none], [], S_)) rfl ?_
          refine sm_T_wk [some (.inr (.inr (some (13, 0)))), some (.inl n_), some (.inl c_), some (.inl (k_ + 1)), none, none] (by exact ⟨rfl, rfl, rfl, rfl, trivial⟩) ?_
          refine ih_.2.1 c_ (k_ + 1) S_ hI_ hF_ ⟨?_, ?_, trivial⟩ ?_
          · omega
          · exact hc_
          · omega
        · have cx10_ : ¬ (vx9_ = 0) := of_decide_eq_false cx10_
          have hIx11_ : gi (sm_pI S_ 13 0 123 0) := gi_pI hI_ (show 0 ≤ 0 ∧ 0 ≤ 8 from ⟨by omega, by omega⟩)
          have hFx12_ : ai_fr (sx_W vw_400) S0_ (sm_pI S_ 13 0 123 0) := ai_fr_tr hF_ (ai_fr_pI rfl)
          refine sm_T_go 5 (c1 := (89, [some (.inr (.inr (some (13, 0)))), some (.inl n_), some (.inl c_), some (.inl k_), some (.inl (S_.2.2.1 205 0 (3 * c_ + k_).toNat)), some (.inl 0)], [], sm_pI S_ 13 0 123 0)) rfl ?_
          refine ih_.2.2.1 c_ k_ (S_.2.2.1 205 0 (3 * c_ + k_).toNat) 0 (sm_pI S_ 13 0 123 0) hIx11_ hFx12_ ⟨?_, ?_, ?_, ?_, trivial⟩ ?_
          · ((try simp only [rd_eq, rd_ne, rf_eq, rf_nk, rf_nt, rd_fa, rd_af, rd_fl, rd_al, rd_lf, rd_la, rd_leq, rd_lne, rd_fr, rd_ar, ne_eq, Nat.reduceEqDiff, not_false_eq_true]); omega)
          · exact ctp_fr (w_ := ([(13, 123)], [], [])) hc_ (ai_fr_pI rfl)
          · (intro k9_ u0_ u1_; rw [rf_eq] at u1_; exfalso; omega)
          · exact w9_
          · omega
    · rintro c_ k_ x_ i_ S_ hI_ hF_ ⟨h0_, hc_, ht_, hx_, -⟩ hm_
      have f202_ : S_.2.2.1 202 0 = S0_.2.2.1 202 0 := fr_arr hF_ rfl
      have f199_ : S_.2.2.1 199 0 = S0_.2.2.1 199 0 := fr_arr hF_ rfl
      have f200_ : S_.2.2.1 200 0 = S0_.2.2.1 200 0 := fr_arr hF_ rfl
      have f160_ : S_.2.2.1 160 0 (S_.1 13 0 105).toNat = F_ := by (rw [hF_.1 13 0 105 rfl, fr_arr (t := 160) (i := 0) hF_ rfl]; exact hf_)
      have c14_ : 0 ≤ S_.1 13 0 114 ∧ S_.1 13 0 114 ≤ 64 := hI_.1 13 0 114 rfl
      have c23_ : 0 ≤ S_.1 13 0 123 ∧ S_.1 13 0 123 ≤ 8 := hI_.1 13 0 123 rfl
      have X9_ := hl_ x_ (by omega) (by have q9_ := hx_.2.1; omega) hx_.2.2
      have x1_ := X9_.1
      have x2_ := X9_.2
      have x3_ := hx_.1
      have x4_ := hx_.2.1
      rw [← f199_, ← f202_] at x1_
      rw [← f200_, ← f202_] at x2_
      refine sm_T_go 4 (c1 := (96, [some (.inr (.inr (some (13, 0)))), some (.inl n_), some (.inl c_), some (.inl k_), some (.inl x_), some (.inl i_)], [.inl c_, .inr (.inr (some (204, 0))), .inl i_], S_)) rfl ?_
      refine sm_T_iald (n := 64) rfl rfl (by omega) (by omega) ?_
      have bx1_ : 0 ≤ S_.2.2.1 204 0 c_.toNat ∧ S_.2.2.1 204 0 c_.toNat ≤ 3 := hI_.2 204 0 _
      refine sm_T_br (a := 3) (z := 30) rfl (fun cx2_ => ?_) (fun cx2_ => ?_)
      · have cx2_ : (S_.2.2.1 204 0 c_.toNat) ≤ i_ := of_decide_eq_true cx2_
        have b4_ : 0 ≤ S_.2.2.1 204 0 c_.toNat ∧ S_.2.2.1 204 0 c_.toNat ≤ 3 := hI_.2 204 0 _
        refine sm_T_go 4 (c1 := (134, [some (.inr (.inr (some (13, 0)))), some (.inl n_), some (.inl c_), some (.inl k_), some (.inl x_), some (.inl i_)], [.inl x_, .inr (.inr (some (199, 0))), .inr (.inr (some (13, 0)))], S_)) rfl ?_
        refine sm_T_iald (n := 2048) rfl rfl (by omega) (by omega) ?_
        have bx3_ : 0 ≤ S_.2.2.1 199 0 x_.toNat ∧ S_.2.2.1 199 0 x_.toNat ≤ 2025 := hI_.2 199 0 _
        refine sm_T_go 1 (c1 := (136, [some (.inr (.inr (some (13, 0)))), some (.inl n_), some (.inl c_), some (.inl k_), some (.inl x_), some (.inl i_)], [.inl 1, .inl (S_.2.2.1 199 0 x_.toNat), .inr (.inr (some (13, 0)))], S_)) rfl ?_
        refine sm_T_bin (w := ((S_.2.2.1 199 0 x_.toNat) / 2)) rfl (bi_shr (k := 1) (by decide) (by omega) (by omega)) ?_ -- pc_ 136
        refine sm_T_cal (d1 := 0) (Q1 := vq_396 ((S_.2.2.1 199 0 x_.toNat) / 2) (cnd9 n_ (S0_.2.2.1 202 0)) S_) rfl rfl (by decide) (vc_396 ((S_.2.2.1 199 0 x_.toNat) / 2) (cnd9 n_ (S0_.2.2.1 202 0)) S_ hI_ (by omega) (by omega) (by exact ⟨by omega, by omega, by (rw [← f202_]; exact x1_.2.2)⟩) (by exact ht_)) (fun u_ Sx4_ px7_ => ?_)
        obtain ⟨rfl, hIx5_, hFx6_, px7_⟩ := px7_
        have hFx8_ : ai_fr (sx_W vw_400) S0_ Sx4_ := ai_fr_tr hF_ (fr_le hFx6_ rfl)
        have p137_ := px7_
        have q137_ := ctp_fr (P_ := (cnd9 n_ (S0_.2.2.1 202 0))) hc_ hFx6_
        have v137_ := hFx6_.1 13 0 114 rfl
        have y137_ : Sx4_.2.2.1 200 0 = S_.2.2.1 200 0 := fr_arr hFx6_ rfl
        refine sm_T_go 4 (c1 := (147, [some (.inr (.inr (some (13, 0)))), some (.inl n_), some (.inl c_), some (.inl k_), some (.inl x_), some (.inl i_)], [.inl x_, .inr (.inr (some (200, 0))), .inr (.inr (some (13, 0)))], Sx4_)) rfl ?_
        refine sm_T_iald (n := 2048) rfl rfl (by omega) (by omega) ?_
        have bx9_ : 0 ≤ Sx4_.2.2.1 200 0 x_.toNat ∧ Sx4_.2.2.1 200 0 x_.toNat ≤ 2025 := hIx5_.2 200 0 _
        refine sm_T_go 1 (c1 := (149, [some (.inr (.inr (some (13, 0)))), some (.inl n_), some (.inl c_), some (.inl k_), some (.inl x_), some (.inl i_)], [.inl 1, .inl (Sx4_.2.2.1 200 0 x_.toNat), .inr (.inr (some (13, 0)))], Sx4_)) rfl ?_
        refine sm_T_bin (w := ((Sx4_.2.2.1 200 0 x_.toNat) / 2)) rfl (bi_shr (k := 1) (by decide) (by omega) (by omega)) ?_ -- pc_ 149
        refine sm_T_cal (d1 := 0) (Q1 := vq_396 ((Sx4_.2.2.1 200 0 x_.toNat) / 2) (cnd9 n_ (S0_.2.2.1 202 0)) Sx4_) rfl rfl (by decide) (vc_396 ((Sx4_.2.2.1 200 0 x_.toNat) / 2) (cnd9 n_ (S0_.2.2.1 202 0)) Sx4_ hIx5_ (by (rw [y137_]; omega)) (by omega) (by (rw [y137_]; exact ⟨by omega, by omega, by (rw [← f202_]; exact x2_.2.2)⟩)) (by exact p137_.2.2)) (fun u_ Sx10_ px13_ => ?_)
        obtain ⟨rfl, hIx11_, hFx12_, px13_⟩ := px13_
        have hFx14_ : ai_fr (sx_W vw_400) S0_ Sx10_ := ai_fr_tr hFx8_ (fr_le hFx12_ rfl)
        have p150_ := px13_
        have q150_ := ctp_fr (P_ := (cnd9 n_ (S0_.2.2.1 202 0))) q137_ hFx12_
        have v150_ := (hFx12_.1 13 0 114 rfl).trans v137_
        refine sm_T_go 1 (c1 := (154, [some (.inr (.inr (some (13, 0)))), some (.inl n_), some (.inl c_), some (.inl k_), some (.inl x_), some (.inl i_)], [.inr (.inr (some (13, 0)))], Sx10_)) rfl ?_
        refine sm_T_cal (d1 := 0) (Q1 := vq_397 (cnd9 n_ (S0_.2.2.1 202 0)) Sx10_) rfl rfl (by decide) (vc_397 (cnd9 n_ (S0_.2.2.1 202 0)) Sx10_ hIx11_ (by exact p150_.2.1) (by exact p150_.2.2) (by exact q150_)) (fun u_ Sx15_ px18_ => ?_)
        obtain ⟨rfl, hIx16_, hFx17_, px18_⟩ := px18_
        have hFx19_ : ai_fr (sx_W vw_400) S0_ Sx15_ := ai_fr_tr hFx14_ (fr_le hFx17_ rfl)
        have p154_ := px18_.2
        have v154_ := px18_.1
        refine sm_T_inc (a := 3) (z := 1) (v := k_) (w := k_ + 1) rfl rfl (by omega) (by omega) (by omega) ?_ -- pc_ 157
        refine sm_T_go 1 (c1 := (50, [some (.inr (.inr (some (13, 0)))), some (.inl n_), some (.inl c_), some (.inl (k_ + 1)), some (.inl x_), some (.inl i_)], [], Sx15_)) rfl ?_
        refine sm_T_wk [some (.inr (.inr (some (13, 0)))), some (.inl n_), some (.inl c_), some (.inl (k_ + 1)), none, none] (by exact ⟨rfl, rfl, rfl, rfl, trivial⟩) ?_
        refine ih_.2.1 c_ (k_ + 1) Sx15_ hIx16_ hFx19_ ⟨?_, ?_, trivial⟩ ?_
        · omega
        · exact p154_
        · omega
      · have cx2_ : ¬ ((S_.2.2.1 204 0 c_.toNat) ≤ i_) := of_decide_eq_false cx2_
        have b4_ : 0 ≤ S_.2.2.1 204 0 c_.toNat ∧ S_.2.2.1 204 0 c_.toNat ≤ 3 := hI_.2 204 0 _
        have w9_ := (hc_ c_ (by omega) (by omega)).2 i_ (by omega) (by omega)
        have w1_ := w9_.1
        have w2_ := w9_.2.1
        refine sm_T_go 2 (c1 := (103, [some (.inr (.inr (some (13, 0)))), some (.inl n_), some (.inl c_), some (.inl k_), some (.inl x_), some (.inl i_)], [.inl k_, .inl i_], S_)) rfl ?_
        refine sm_T_br (a := 0) (z := 18) rfl (fun cx20_ => ?_) (fun cx20_ => ?_)
        · have cx20_ : i_ = k_ := of_decide_eq_true cx20_
          refine sm_T_inc (a := 5) (z := 1) (v := i_) (w := i_ + 1) rfl rfl (by omega) (by omega) (by omega) ?_ -- pc_ 121
          refine sm_T_go 1 (c1 := (89, [some (.inr (.inr (some (13, 0)))), some (.inl n_), some (.inl c_), some (.inl k_), some (.inl x_), some (.inl (i_ + 1))], [], S_)) rfl ?_
          refine ih_.2.2.1 c_ k_ x_ (i_ + 1) S_ hI_ hF_ ⟨?_, ?_, ?_, ?_, trivial⟩ ?_
          · omega
          · first | exact q118_ | exact hc_
          · first | exact p118_.2.2 | exact ht_
          · exact hx_
          · omega
        · have cx20_ : ¬ (i_ = k_) := of_decide_eq_false cx20_
          refine sm_T_go 5 (c1 := (113, [some (.inr (.inr (some (13, 0)))), some (.inl n_), some (.inl c_), some (.inl k_), some (.inl x_), some (.inl i_)], [.inl c_, .inl 3, .inr (.inr (some (205, 0))), .inr (.inr (some (13, 0)))], S_)) rfl ?_
          refine sm_T_bin (w := 3 * c_) rfl (bi_mul (by omega) (by omega) (by omega)) ?_ -- pc_ 113
          refine sm_T_go 1 (c1 := (116, [some (.inr (.inr (some (13, 0)))), some (.inl n_), some (.inl c_), some (.inl k_), some (.inl x_), some (.inl i_)], [.inl i_, .inl (3 * c_), .inr (.inr (some (205, 0))), .inr (.inr (some (13, 0)))], S_)) rfl ?_
          refine sm_T_bin (w := 3 * c_ + i_) rfl (bi_add (by omega) (by omega) (by omega)) ?_ -- pc_ 116
          refine sm_T_iald (n := 192) rfl rfl (by omega) (by omega) ?_
          have bx21_ : 0 ≤ S_.2.2.1 205 0 (3 * c_ + i_).toNat ∧ S_.2.2.1 205 0 (3 * c_ + i_).toNat ≤ 1012 := hI_.2 205 0 _
          refine sm_T_cal (d1 := 0) (Q1 := vq_396 (S_.2.2.1 205 0 (3 * c_ + i_).toNat) (cnd9 n_ (S0_.2.2.1 202 0)) S_) rfl rfl (by decide) (vc_396 (S_.2.2.1 205 0 (3 * c_ + i_).toNat) (cnd9 n_ (S0_.2.2.1 202 0)) S_ hI_ (by omega) (by omega) (by exact w9_) (by exact ht_)) (fun u_ Sx22_ px25_ => ?_)
          obtain ⟨rfl, hIx23_, hFx24_, px25_⟩ := px25_
          have hFx26_ : ai_fr (sx_W vw_400) S0_ Sx22_ := ai_fr_tr hF_ (fr_le hFx24_ rfl)
          have p118_ := px25_
          have q118_ := ctp_fr (P_ := (cnd9 n_ (S0_.2.2.1 202 0))) hc_ hFx24_
          have v118_ := hFx24_.1 13 0 114 rfl
          refine sm_T_inc (a := 5) (z := 1) (v := i_) (w := i_ + 1) rfl rfl (by omega) (by omega) (by omega) ?_ -- pc_ 121
          refine sm_T_go 1 (c1 := (89, [some (.inr (.inr (some (13, 0)))), some (.inl n_), some (.inl c_), some (.inl k_), some (.inl x_), some (.inl (i_ + 1))], [], Sx22_)) rfl ?_
          refine ih_.2.2.1 c_ k_ x_ (i_ + 1) Sx22_ hIx23_ hFx26_ ⟨?_, ?_, ?_, ?_, trivial⟩ ?_
          · omega
          · first | exact q118_ | exact hc_
          · first | exact p118_.2.2 | exact ht_
          · exact hx_
          · omega
    · rintro i_ S_ hI_ hF_ ⟨h0_, hc_, -⟩ hm_
      have f202_ : S_.2.2.1 202 0 = S0_.2.2.1 202 0 := fr_arr hF_ rfl
      have f199_ : S_.2.2.1 199 0 = S0_.2.2.1 199 0 := fr_arr hF_ rfl
      have f200_ : S_.2.2.1 200 0 = S0_.2.2.1 200 0 := fr_arr hF_ rfl
      have f160_ : S_.2.2.1 160 0 (S_.1 13 0 105).toNat = F_ := by (rw [hF_.1 13 0 105 rfl, fr_arr (t := 160) (i := 0) hF_ rfl]; exact hf_)
      have c14_ : 0 ≤ S_.1 13 0 114 ∧ S_.1 13 0 114 ≤ 64 := hI_.1 13 0 114 rfl
      have c23_ : 0 ≤ S_.1 13 0 123 ∧ S_.1 13 0 123 ≤ 8 := hI_.1 13 0 123 rfl
      have bx1_ : 0 ≤ S_.1 13 0 114 ∧ S_.1 13 0 114 ≤ 64 := hI_.1 13 0 114 rfl
      refine sm_T_go 3 (c1 := (176, [some (.inr (.inr (some (13, 0)))), some (.inl n_), some (.inl i_), none, none, none], [.inl (S_.1 13 0 114), .inl i_], S_)) rfl ?_
      refine sm_T_br (a := 3) (z := 40) rfl (fun cx2_ => ?_) (fun cx2_ => ?_)
      · have cx2_ : (S_.1 13 0 114) ≤ i_ := of_decide_eq_true cx2_
        refine sm_T_rv rfl ⟨_, _, rfl, rfl, hI_, hF_, ?_⟩
        exact hc_
      · have cx2_ : ¬ ((S_.1 13 0 114) ≤ i_) := of_decide_eq_false cx2_
        refine sm_T_go 2 (c1 := (181, [some (.inr (.inr (some (13, 0)))), some (.inl n_), some (.inl i_), some (.inl i_), none, none], [], S_)) rfl ?_
        refine ih_.2.2.2.2 i_ i_ S_ hI_ hF_ ⟨?_, ?_, trivial⟩ ?_
        · omega
        · exact hc_
        · omega
    · rintro i_ j_ S_ hI_ hF_ ⟨h0_, hc_, -⟩ hm_
      have f202_ : S_.2.2.1 202 0 = S0_.2.2.1 202 0 := fr_arr hF_ rfl
      have f199_ : S_.2.2.1 199 0 = S0_.2.2.1 199 0 := fr_arr hF_ rfl
      have f200_ : S_.2.2.1 200 0 = S0_.2.2.1 200 0 := fr_arr hF_ rfl
      have f160_ : S_.2.2.1 160 0 (S_.1 13 0 105).toNat = F_ := by (rw [hF_.1 13 0 105 rfl, fr_arr (t := 160) (i := 0) hF_ rfl]; exact hf_)
      have c14_ : 0 ≤ S_.1 13 0 114 ∧ S_.1 13 0 114 ≤ 64 := hI_.1 13 0 114 rfl
      have c23_ : 0 ≤ S_.1 13 0 123 ∧ S_.1 13 0 123 ≤ 8 := hI_.1 13 0 123 rfl
      refine sm_T_go 1 (c1 := (182, [some (.inr (.inr (some (13, 0)))), some (.inl n_), some (.inl i_), some (.inl j_), none, none], [.inl j_], S_)) rfl ?_
      refine sm_T_b0 (a := 5) (z := 28) rfl (fun cx1_ => ?_) (fun cx1_ => ?_)
      · have cx1_ : j_ ≤ 0 := of_decide_eq_true cx1_
        refine sm_T_inc (a := 2) (z := 1) (v := i_) (w := i_ + 1) rfl rfl (by omega) (by omega) (by omega) ?_ -- pc_ 210
        refine sm_T_go 1 (c1 := (171, [some (.inr (.inr (some (13, 0)))), some (.inl n_), some (.inl (i_ + 1)), some (.inl j_), none, none], [], S_)) rfl ?_
        refine sm_T_wk [some (.inr (.inr (some (13, 0)))), some (.inl n_), some (.inl (i_ + 1)), none, none, none] (by exact ⟨rfl, rfl, rfl, trivial⟩) ?_
        refine ih_.2.2.2.1 (i_ + 1) S_ hI_ hF_ ⟨?_, ?_, trivial⟩ ?_
        · omega
        · exact hc_
        · omega
      · have cx1_ : ¬ (j_ ≤ 0) := of_decide_eq_false cx1_
        refine sm_T_go 4 (c1 := (189, [some (.inr (.inr (some (13, 0)))), some (.inl n_), some (.inl i_), some (.inl j_), none, none], [.inl 1, .inl j_, .inl j_, .inr (.inr (some (13, 0)))], S_)) rfl ?_
        refine sm_T_bin (w := j_ - 1) rfl (bi_sub (by omega) (by omega) (by omega)) ?_ -- pc_ 189
        refine sm_T_cal (d1 := 0) (Q1 := vq_398 j_ (j_ - 1) S_) rfl rfl (by decide) (vc_398 j_ (j_ - 1) S_ hI_ (by omega)) (fun u_ Sx2_ px5_ => ?_)
        obtain ⟨rfl, vx7_, rfl, px5_⟩ := px5_
        refine sm_T_b0 (a := 0) (z := 17) rfl (fun cx8_ => ?_) (fun cx8_ => ?_)
        · have cx8_ : vx7_ = 0 := of_decide_eq_true cx8_
          refine sm_T_inc (a := 2) (z := 1) (v := i_) (w := i_ + 1) rfl rfl (by omega) (by omega) (by omega) ?_ -- pc_ 210
          refine sm_T_go 1 (c1 := (171, [some (.inr (.inr (some (13, 0)))), some (.inl n_), some (.inl (i_ + 1)), some (.inl j_), none, none], [], S_)) rfl ?_
          refine sm_T_wk [some (.inr (.inr (some (13, 0)))), some (.inl n_), some (.inl (i_ + 1)), none, none, none] (by exact ⟨rfl, rfl, rfl, trivial⟩) ?_
          refine ih_.2.2.2.1 (i_ + 1) S_ hI_ hF_ ⟨?_, ?_, trivial⟩ ?_
          · omega
          · exact hc_
          · omega
        · have cx8_ : ¬ (vx7_ = 0) := of_decide_eq_false cx8_
          refine sm_T_go 4 (c1 := (200, [some (.inr (.inr (some (13, 0)))), some (.inl n_), some (.inl i_), some (.inl j_), none, none], [.inl 1, .inl j_, .inl j_, .inr (.inr (some (13, 0)))], S_)) rfl ?_
          refine sm_T_bin (w := j_ - 1) rfl (bi_sub (by omega) (by omega) (by omega)) ?_ -- pc_ 200
          refine sm_T_cal (d1 := 0) (Q1 := vq_399 j_ (j_ - 1) (cnd9 n_ (S0_.2.2.1 202 0)) S_) rfl rfl (by decide) (vc_399 j_ (j_ - 1) (cnd9 n_ (S0_.2.2.1 202 0)) S_ hI_ (by omega) (by exact hc_)) (fun u_ Sx9_ px12_ => ?_)
          obtain ⟨rfl, hIx10_, hFx11_, px12_⟩ := px12_
          have hFx13_ : ai_fr (sx_W vw_400) S0_ Sx9_ := ai_fr_tr hF_ (fr_le hFx11_ rfl)
          have p201_ := px12_
          have v201_ := hFx11_.1 13 0 114 rfl
          refine sm_T_inc (a := 3) (z := (-1)) (v := j_) (w := j_ - 1) rfl rfl (by omega) (by omega) (by omega) ?_ -- pc_ 204
          refine sm_T_go 1 (c1 := (181, [some (.inr (.inr (some (13, 0)))), some (.inl n_), some (.inl i_), some (.inl (j_ - 1)), none, none], [], Sx9_)) rfl ?_
          refine ih_.2.2.2.2 i_ (j_ - 1) Sx9_ hIx10_ hFx13_ ⟨?_, ?_, trivial⟩ ?_
          · omega
          · exact p201_
          · omega
set_option maxHeartbeats 4000000 in
set_option maxRecDepth 20000 in
theorem vc_400 {sc_ : Nat × (Nat → Int)} (n_ : Int) (F_ : Int) (N_ : Int) (S0_ : sm_S) (hI_ : gi S0_) (hf_ : S0_.2.2.1 160 0 (S0_.1 13 0 105).toNat = F_) (hn_ : 1 ≤ F_ ∧ F_ ≤ n_ ∧ n_ < N_ ∧ N_ ≤ 1013) (hw_ : S0_.2.2.1 202 0 n_.toNat = 1) (hl_ : lgn F_ N_ S0_) : sm_T (mt_P sc_) 1 400 (0, [some (.inr (.inr (some (13, 0)))), some (.inl n_), none, none, none, none], [], S0_) (fun ro9_ => ∃ u_ S1_, ro9_ = (.inl u_, S1_, 0) ∧ vq_400 n_ F_ N_ S0_ u_ S1_) := by
  have hF_ : ai_fr (sx_W vw_400) S0_ S0_ := ai_fr_rf
  have L9_ := hl_ n_ (by omega) (by omega) hw_
  have l1_ := L9_.1
  have l2_ := L9_.2
  have hIx1_ : gi (sm_pI S0_ 13 0 114 0) := gi_pI hI_ (show 0 ≤ 0 ∧ 0 ≤ 64 from ⟨by omega, by omega⟩)
  have hFx2_ : ai_fr (sx_W vw_400) S0_ (sm_pI S0_ 13 0 114 0) := ai_fr_tr hF_ (ai_fr_pI rfl)
  have hIx3_ : gi (sm_pI (sm_pI S0_ 13 0 114 0) 13 0 123 0) := gi_pI hIx1_ (show 0 ≤ 0 ∧ 0 ≤ 8 from ⟨by omega, by omega⟩)
  have hFx4_ : ai_fr (sx_W vw_400) S0_ (sm_pI (sm_pI S0_ 13 0 114 0) 13 0 123 0) := ai_fr_tr hFx2_ (ai_fr_pI rfl)
  refine sm_T_go 10 (c1 := (16, [some (.inr (.inr (some (13, 0)))), some (.inl n_), none, none, none, none], [.inl n_, .inr (.inr (some (199, 0))), .inr (.inr (some (13, 0)))], sm_pI (sm_pI S0_ 13 0 114 0) 13 0 123 0)) rfl ?_
  refine sm_T_iald (n := 2048) rfl rfl (by omega) (by omega) ?_
  have bx5_ : 0 ≤ S0_.2.2.1 199 0 n_.toNat ∧ S0_.2.2.1 199 0 n_.toNat ≤ 2025 := hI_.2 199 0 _
  refine sm_T_go 1 (c1 := (18, [some (.inr (.inr (some (13, 0)))), some (.inl n_), none, none, none, none], [.inl 1, .inl (S0_.2.2.1 199 0 n_.toNat), .inr (.inr (some (13, 0)))], sm_pI (sm_pI S0_ 13 0 114 0) 13 0 123 0)) rfl ?_
  refine sm_T_bin (w := ((S0_.2.2.1 199 0 n_.toNat) / 2)) rfl (bi_shr (k := 1) (by decide) (by omega) (by omega)) ?_ -- pc_ 18
  refine sm_T_cal (d1 := 0) (Q1 := vq_396 ((S0_.2.2.1 199 0 n_.toNat) / 2) (cnd9 n_ (S0_.2.2.1 202 0)) (sm_pI (sm_pI S0_ 13 0 114 0) 13 0 123 0)) rfl rfl (by decide) (vc_396 ((S0_.2.2.1 199 0 n_.toNat) / 2) (cnd9 n_ (S0_.2.2.1 202 0)) (sm_pI (sm_pI S0_ 13 0 114 0) 13 0 123 0) hIx3_ (by omega) (by ((try simp only [rd_eq, rd_ne, rf_eq, rf_nk, rf_nt, rd_fa, rd_af, rd_fl, rd_al, rd_lf, rd_la, rd_leq, rd_lne, rd_fr, rd_ar, ne_eq, Nat.reduceEqDiff, not_false_eq_true]); decide)) (by exact ⟨by omega, by omega, l1_.2.2⟩) (by (intro k9_ u0_ u1_; rw [rf_eq] at u1_; exfalso; omega))) (fun u_ Sx6_ px9_ => ?_)
  obtain ⟨rfl, hIx7_, hFx8_, px9_⟩ := px9_
  have hFx10_ : ai_fr (sx_W vw_400) S0_ Sx6_ := ai_fr_tr hFx4_ (fr_le hFx8_ rfl)
  have p19_ := px9_
  have y19_ : Sx6_.2.2.1 200 0 = S0_.2.2.1 200 0 := fr_arr hFx10_ rfl
  have u19_ : Sx6_.1 13 0 123 ≤ 1 := by (have w9_ := p19_.1; rw [rf_eq] at w9_; omega)
  have v19_ : Sx6_.1 13 0 114 = 0 := (hFx8_.1 13 0 114 rfl).trans (by (try simp only [rd_eq, rd_ne, rf_eq, rf_nk, rf_nt, rd_fa, rd_af, rd_fl, rd_al, rd_lf, rd_la, rd_leq, rd_lne, rd_fr, rd_ar, ne_eq, Nat.reduceEqDiff, not_false_eq_true]))
  refine sm_T_go 4 (c1 := (28, [some (.inr (.inr (some (13, 0)))), some (.inl n_), none, none, none, none], [.inl n_, .inr (.inr (some (200, 0))), .inr (.inr (some (13, 0)))], Sx6_)) rfl ?_
  refine sm_T_iald (n := 2048) rfl rfl (by omega) (by omega) ?_
  have bx11_ : 0 ≤ Sx6_.2.2.1 200 0 n_.toNat ∧ Sx6_.2.2.1 200 0 n_.toNat ≤ 2025 := hIx7_.2 200 0 _
  refine sm_T_go 1 (c1 := (30, [some (.inr (.inr (some (13, 0)))), some (.inl n_), none, none, none, none], [.inl 1, .inl (Sx6_.2.2.1 200 0 n_.toNat), .inr (.inr (some (13, 0)))], Sx6_)) rfl ?_
  refine sm_T_bin (w := ((Sx6_.2.2.1 200 0 n_.toNat) / 2)) rfl (bi_shr (k := 1) (by decide) (by omega) (by omega)) ?_ -- pc_ 30
  refine sm_T_cal (d1 := 0) (Q1 := vq_396 ((Sx6_.2.2.1 200 0 n_.toNat) / 2) (cnd9 n_ (S0_.2.2.1 202 0)) Sx6_) rfl rfl (by decide) (vc_396 ((Sx6_.2.2.1 200 0 n_.toNat) / 2) (cnd9 n_ (S0_.2.2.1 202 0)) Sx6_ hIx7_ (by (rw [y19_]; omega)) (by omega) (by (rw [y19_]; exact ⟨by omega, by omega, l2_.2.2⟩)) (by exact p19_.2.2)) (fun u_ Sx12_ px15_ => ?_)
  obtain ⟨rfl, hIx13_, hFx14_, px15_⟩ := px15_
  have hFx16_ : ai_fr (sx_W vw_400) S0_ Sx12_ := ai_fr_tr hFx10_ (fr_le hFx14_ rfl)
  have p31_ := px15_
  have v31_ : Sx12_.1 13 0 114 = 0 := (hFx14_.1 13 0 114 rfl).trans v19_
  refine sm_T_go 1 (c1 := (35, [some (.inr (.inr (some (13, 0)))), some (.inl n_), none, none, none, none], [.inr (.inr (some (13, 0)))], Sx12_)) rfl ?_
  refine sm_T_cal (d1 := 0) (Q1 := vq_397 (cnd9 n_ (S0_.2.2.1 202 0)) Sx12_) rfl rfl (by decide) (vc_397 (cnd9 n_ (S0_.2.2.1 202 0)) Sx12_ hIx13_ (by exact p31_.2.1) (by exact p31_.2.2) (by (intro c9_ u0_ u1_; exfalso; omega))) (fun u_ Sx17_ px20_ => ?_)
  obtain ⟨rfl, hIx18_, hFx19_, px20_⟩ := px20_
  have hFx21_ : ai_fr (sx_W vw_400) S0_ Sx17_ := ai_fr_tr hFx16_ (fr_le hFx19_ rfl)
  have p35_ := px20_.2
  refine sm_T_go 2 (c1 := (40, [some (.inr (.inr (some (13, 0)))), some (.inl n_), some (.inl 0), none, none, none], [], Sx17_)) rfl ?_
  refine (vl_400 n_ F_ N_ S0_ hf_ hn_ hw_ hl_ _).1 0 Sx17_ hIx18_ hFx21_ ⟨?_, ?_, trivial⟩ (Nat.lt_succ_self _)
  · omega
  · exact p35_
/-! M_.tableOf -/
def vw_401 : sx_Wl := ([], [], [])
def vq_401 (l_ : Int) (S0_ : sm_S) (u_ : Option sm_V) (S1_ : sm_S) : Prop := S0_ = S1_ ∧ ∃ v_ : Int, u_ = some (.inl v_) ∧ ((0 ≤ v_ ∧ v_ ≤ 255))
set_option maxHeartbeats 400000 in
set_option maxRecDepth 20000 in
theorem vc_401 {sc_ : Nat × (Nat → Int)} (l_ : Int) (S0_ : sm_S) (hI_ : gi S0_) (hl_ : 0 ≤ l_ ∧ l_ ≤ 2047) : sm_T (mt_P sc_) 0 401 (0, [some (.inr (.inr (some (13, 0)))), some (.inl l_)], [], S0_) (fun ro9_ => ∃ u_ S1_, ro9_ = (.inl u_, S1_, 0) ∧ vq_401 l_ S0_ u_ S1_) := by
  have hF_ : ai_fr (sx_W vw_401) S0_ S0_ := ai_fr_rf
  refine sm_T_go 4 (c1 := (6, [some (.inr (.inr (some (13, 0)))), some (.inl l_)], [.inl 1, .inl l_, .inr (.inr (some (214, 0)))], S0_)) rfl ?_
  refine sm_T_bin (w := (l_ / 2)) rfl (bi_shr (k := 1) (by decide) (by omega) (by omega)) ?_ -- pc_ 6
  refine sm_T_iald (n := 2048) rfl rfl (by omega) (by omega) ?_
  have bx1_ : 0 ≤ S0_.2.2.1 214 0 (l_ / 2).toNat ∧ S0_.2.2.1 214 0 (l_ / 2).toNat ≤ 255 := hI_.2 214 0 _
  refine sm_T_go 2 (c1 := (10, [some (.inr (.inr (some (13, 0)))), some (.inl l_)], [.inl 1, .inl l_, .inl (S0_.2.2.1 214 0 (l_ / 2).toNat)], S0_)) rfl ?_
  refine sm_T_bin (w := (l_ % 2)) rfl (bi_msk (k := 1) (by decide)) ?_ -- pc_ 10
  refine sm_T_go 1 (c1 := (12, [some (.inr (.inr (some (13, 0)))), some (.inl l_)], [.inl 1, .inl (l_ % 2), .inl (S0_.2.2.1 214 0 (l_ / 2).toNat)], S0_)) rfl ?_
  refine sm_T_br (a := 1) (z := 9) rfl (fun cx2_ => ?_) (fun cx2_ => ?_)
  · have cx2_ : (l_ % 2) ≠ 1 := of_decide_eq_true cx2_
    refine sm_T_go 1 (c1 := (22, [some (.inr (.inr (some (13, 0)))), some (.inl l_)], [.inl 0, .inl (S0_.2.2.1 214 0 (l_ / 2).toNat)], S0_)) rfl ?_
    refine sm_T_bin (w := (i_xor (S0_.2.2.1 214 0 (l_ / 2).toNat) 0)) rfl rfl ?_ -- pc_ 22
    first | have bx3_ := i_xrp (x_ := (S0_.2.2.1 214 0 (l_ / 2).toNat)) (y_ := 0) (k_ := 1) (by decide) (by omega) (by omega) | have bx3_ := i_xrp (x_ := (S0_.2.2.1 214 0 (l_ / 2).toNat)) (y_ := 0) (k_ := 3) (by decide) (by omega) (by omega) | have bx3_ := i_xrp (x_ := (S0_.2.2.1 214 0 (l_ / 2).toNat)) (y_ := 0) (k_ := 4) (by decide) (by omega) (by omega) | have bx3_ := i_xrp (x_ := (S0_.2.2.1 214 0 (l_ / 2).toNat)) (y_ := 0) (k_ := 6) (by decide) (by omega) (by omega) | have bx3_ := i_xrp (x_ := (S0_.2.2.1 214 0 (l_ / 2).toNat)) (y_ := 0) (k_ := 8) (by decide) (by omega) (by omega) | have bx3_ := i_xrp (x_ := (S0_.2.2.1 214 0 (l_ / 2).toNat)) (y_ := 0) (k_ := 11) (by decide) (by omega) (by omega) | have bx3_ := i_xrp (x_ := (S0_.2.2.1 214 0 (l_ / 2).toNat)) (y_ := 0) (k_ := 12) (by decide) (by omega) (by omega) | have bx3_ := i_xrp (x_ := (S0_.2.2.1 214 0 (l_ / 2).toNat)) (y_ := 0) (k_ := 16) (by decide) (by omega) (by omega) | have bx3_ := i_xrp (x_ := (S0_.2.2.1 214 0 (l_ / 2).toNat)) (y_ := 0) (k_ := 22) (by decide) (by omega) (by omega) | have bx3_ := i_xrp (x_ := (S0_.2.2.1 214 0 (l_ / 2).toNat)) (y_ := 0) (k_ := 31) (by decide) (by omega) (by omega) | have bx3_ := i_xor_n (S0_.2.2.1 214 0 (l_ / 2).toNat) 0
    refine sm_T_ri rfl ⟨_, _, rfl, rfl, _, rfl, ?_⟩
    refine ⟨by omega, by omega⟩
  · have cx2_ : ¬ ((l_ % 2) ≠ 1) := of_decide_eq_false cx2_
    refine sm_T_go 2 (c1 := (22, [some (.inr (.inr (some (13, 0)))), some (.inl l_)], [.inl 255, .inl (S0_.2.2.1 214 0 (l_ / 2).toNat)], S0_)) rfl ?_
    refine sm_T_bin (w := (i_xor (S0_.2.2.1 214 0 (l_ / 2).toNat) 255)) rfl rfl ?_ -- pc_ 22
    first | have bx4_ := i_xrp (x_ := (S0_.2.2.1 214 0 (l_ / 2).toNat)) (y_ := 255) (k_ := 1) (by decide) (by omega) (by omega) | have bx4_ := i_xrp (x_ := (S0_.2.2.1 214 0 (l_ / 2).toNat)) (y_ := 255) (k_ := 3) (by decide) (by omega) (by omega) | have bx4_ := i_xrp (x_ := (S0_.2.2.1 214 0 (l_ / 2).toNat)) (y_ := 255) (k_ := 4) (by decide) (by omega) (by omega) | have bx4_ := i_xrp (x_ := (S0_.2.2.1 214 0 (l_ / 2).toNat)) (y_ := 255) (k_ := 6) (by decide) (by omega) (by omega) | have bx4_ := i_xrp (x_ := (S0_.2.2.1 214 0 (l_ / 2).toNat)) (y_ := 255) (k_ := 8) (by decide) (by omega) (by omega) | have bx4_ := i_xrp (x_ := (S0_.2.2.1 214 0 (l_ / 2).toNat)) (y_ := 255) (k_ := 11) (by decide) (by omega) (by omega) | have bx4_ := i_xrp (x_ := (S0_.2.2.1 214 0 (l_ / 2).toNat)) (y_ := 255) (k_ := 12) (by decide) (by omega) (by omega) | have bx4_ := i_xrp (x_ := (S0_.2.2.1 214 0 (l_ / 2).toNat)) (y_ := 255) (k_ := 16) (by decide) (by omega) (by omega) | have bx4_ := i_xrp (x_ := (S0_.2.2.1 214 0 (l_ / 2).toNat)) (y_ := 255) (k_ := 22) (by decide) (by omega) (by omega) | have bx4_ := i_xrp (x_ := (S0_.2.2.1 214 0 (l_ / 2).toNat)) (y_ := 255) (k_ := 31) (by decide) (by omega) (by omega) | have bx4_ := i_xor_n (S0_.2.2.1 214 0 (l_ / 2).toNat) 255
    refine sm_T_ri rfl ⟨_, _, rfl, rfl, _, rfl, ?_⟩
    refine ⟨by omega, by omega⟩
/-! M_.functionOver -/
def vw_402 : sx_Wl := ([(13, 127)], [213, 214], [])
def vq_402 (n_ : Int) (c_ : Int) (S0_ : sm_S) (u_ : Option sm_V) (S1_ : sm_S) : Prop := ∃ v_ : Int, u_ = some (.inl v_) ∧ gi S1_ ∧ ai_fr (sx_W vw_402) S0_ S1_ ∧ (0 ≤ v_ ∧ v_ ≤ 255)
set_option maxHeartbeats 1000000 in
set_option maxRecDepth 20000 in
theorem vl_402 {sc_ : Nat × (Nat → Int)} (n_ : Int) (c_ : Int) (S0_ : sm_S) (hn_ : 0 ≤ n_ ∧ n_ ≤ 1012) (hc_ : 0 ≤ c_ ∧ c_ ≤ 63) : ∀ nn_ : Nat, (∀ (le_ : Int) (k_ : Int) (S_ : sm_S), gi S_ → ai_fr (sx_W vw_402) S0_ S_ → ((le_ = n_ ∧ 0 ≤ k_ ∧ k_ ≤ 3) ∧ True) → ((90000 - k_).toNat) < nn_ → sm_T (mt_P sc_) 1 402 (25, [some (.inr (.inr (some (13, 0)))), some (.inl n_), some (.inl c_), some (.inl le_), some (.inl k_), none, none], [], S_) (fun ro9_ => ∃ u_ S1_, ro9_ = (.inl u_, S1_, 0) ∧ vq_402 n_ c_ S0_ u_ S1_)) ∧ (∀ (le_ : Int) (x_ : Int) (S_ : sm_S), gi S_ → ai_fr (sx_W vw_402) S0_ S_ → ((0 ≤ le_ ∧ le_ ≤ n_ ∧ -1 ≤ x_ ∧ x_ ≤ n_) ∧ True) → ((50000 + x_).toNat) < nn_ → sm_T (mt_P sc_) 1 402 (108, [some (.inr (.inr (some (13, 0)))), some (.inl n_), some (.inl c_), some (.inl le_), some (.inl x_), none, none], [], S_) (fun ro9_ => ∃ u_ S1_, ro9_ = (.inl u_, S1_, 0) ∧ vq_402 n_ c_ S0_ u_ S1_)) ∧ (∀ (le_ : Int) (x_ : Int) (S_ : sm_S), gi S_ → ai_fr (sx_W vw_402) S0_ S_ → ((0 ≤ x_ ∧ x_ ≤ n_ + 1) ∧ True) → ((5000 - x_).toNat) < nn_ → sm_T (mt_P sc_) 1 402 (238, [some (.inr (.inr (some (13, 0)))), some (.inl n_), some (.inl c_), some (.inl le_), some (.inl x_), none, none], [], S_) (fun ro9_ => ∃ u_ S1_, ro9_ = (.inl u_, S1_, 0) ∧ vq_402 n_ c_ S0_ u_ S1_)) := by
  intro nn_
  induction nn_ with
  | zero => exact ⟨fun _ _ _ _ _ _ h_ => absurd h_ (Nat.not_lt_zero _), fun _ _ _ _ _ _ h_ => absurd h_ (Nat.not_lt_zero _), fun _ _ _ _ _ _ h_ => absurd h_ (Nat.not_lt_zero _)⟩
  | succ nn_ ih_ =>
    refine ⟨?_, ?_, ?_⟩
    · rintro le_ k_ S_ hI_ hF_ ⟨h0_, -⟩ hm_
      refine sm_T_go 4 (c1 := (32, [some (.inr (.inr (some (13, 0)))), some (.inl n_), some (.inl c_), some (.inl le_), some (.inl k_), none, none], [.inl c_, .inr (.inr (some (204, 0))), .inl k_], S_)) rfl ?_
      refine sm_T_iald (n := 64) rfl rfl (by omega) (by omega) ?_
      have bx1_ : 0 ≤ S_.2.2.1 204 0 c_.toNat ∧ S_.2.2.1 204 0 c_.toNat ≤ 3 := hI_.2 204 0 _
      refine sm_T_br (a := 3) (z := 72) rfl (fun cx2_ => ?_) (fun cx2_ => ?_)
      · have cx2_ : (S_.2.2.1 204 0 c_.toNat) ≤ k_ := of_decide_eq_true cx2_
        refine sm_T_go 2 (c1 := (108, [some (.inr (.inr (some (13, 0)))), some (.inl n_), some (.inl c_), some (.inl le_), some (.inl n_), none, none], [], S_)) rfl ?_
        refine ih_.2.1 le_ n_ S_ hI_ hF_ ⟨?_, trivial⟩ ?_
        · omega
        · omega
      · have cx2_ : ¬ ((S_.2.2.1 204 0 c_.toNat) ≤ k_) := of_decide_eq_false cx2_
        refine sm_T_go 6 (c1 := (46, [some (.inr (.inr (some (13, 0)))), some (.inl n_), some (.inl c_), some (.inl le_), some (.inl k_), none, none], [.inl c_, .inl 3, .inr (.inr (some (205, 0))), .inr (.inr (some (214, 0)))], S_)) rfl ?_
        refine sm_T_bin (w := 3 * c_) rfl (bi_mul (by omega) (by omega) (by omega)) ?_ -- pc_ 46
        refine sm_T_go 1 (c1 := (49, [some (.inr (.inr (some (13, 0)))), some (.inl n_), some (.inl c_), some (.inl le_), some (.inl k_), none, none], [.inl k_, .inl (3 * c_), .inr (.inr (some (205, 0))), .inr (.inr (some (214, 0)))], S_)) rfl ?_
        refine sm_T_bin (w := 3 * c_ + k_) rfl (bi_add (by omega) (by omega) (by omega)) ?_ -- pc_ 49
        refine sm_T_iald (n := 192) rfl rfl (by omega) (by omega) ?_
        have bx3_ : 0 ≤ S_.2.2.1 205 0 (3 * c_ + k_).toNat ∧ S_.2.2.1 205 0 (3 * c_ + k_).toNat ≤ 1012 := hI_.2 205 0 _
        refine sm_T_go 1 (c1 := (53, [some (.inr (.inr (some (13, 0)))), some (.inl n_), some (.inl c_), some (.inl le_), some (.inl k_), none, none], [.inl k_, .inl (S_.2.2.1 205 0 (3 * c_ + k_).toNat), .inr (.inr (some (214, 0)))], S_)) rfl ?_
        refine sm_T_b0 (a := 1) (z := 9) rfl (fun cx4_ => ?_) (fun cx4_ => ?_)
        · have cx4_ : k_ ≠ 0 := of_decide_eq_true cx4_
          refine sm_T_go 2 (c1 := (65, [some (.inr (.inr (some (13, 0)))), some (.inl n_), some (.inl c_), some (.inl le_), some (.inl k_), none, none], [.inl 1, .inl k_, .inl (S_.2.2.1 205 0 (3 * c_ + k_).toNat), .inr (.inr (some (214, 0)))], S_)) rfl ?_
          refine sm_T_br (a := 1) (z := 9) rfl (fun cx5_ => ?_) (fun cx5_ => ?_)
          · have cx5_ : k_ ≠ 1 := of_decide_eq_true cx5_
            refine sm_T_go 1 (c1 := (77, [some (.inr (.inr (some (13, 0)))), some (.inl n_), some (.inl c_), some (.inl le_), some (.inl k_), none, none], [.inl 240, .inl (S_.2.2.1 205 0 (3 * c_ + k_).toNat), .inr (.inr (some (214, 0)))], S_)) rfl ?_
            refine sm_T_iast (n := 2048) rfl rfl (by omega) (by omega) ?_
            have hIx6_ : gi (sm_aI S_ 214 0 (S_.2.2.1 205 0 (3 * c_ + k_).toNat).toNat 240) := gi_aI hI_ (show 0 ≤ 240 ∧ 240 ≤ 255 from ⟨by omega, by omega⟩)
            have hFx7_ : ai_fr (sx_W vw_402) S0_ (sm_aI S_ 214 0 (S_.2.2.1 205 0 (3 * c_ + k_).toNat).toNat 240) := ai_fr_tr hF_ (ai_fr_aI rfl)
            refine sm_T_go 6 (c1 := (88, [some (.inr (.inr (some (13, 0)))), some (.inl n_), some (.inl c_), some (.inl le_), some (.inl k_), none, none], [.inl c_, .inl 3, .inr (.inr (some (205, 0))), .inr (.inr (some (213, 0)))], sm_aI S_ 214 0 (S_.2.2.1 205 0 (3 * c_ + k_).toNat).toNat 240)) rfl ?_
            refine sm_T_bin (w := 3 * c_) rfl (bi_mul (by omega) (by omega) (by omega)) ?_ -- pc_ 88
            refine sm_T_go 1 (c1 := (91, [some (.inr (.inr (some (13, 0)))), some (.inl n_), some (.inl c_), some (.inl le_), some (.inl k_), none, none], [.inl k_, .inl (3 * c_), .inr (.inr (some (205, 0))), .inr (.inr (some (213, 0)))], sm_aI S_ 214 0 (S_.2.2.1 205 0 (3 * c_ + k_).toNat).toNat 240)) rfl ?_
            refine sm_T_bin (w := 3 * c_ + k_) rfl (bi_add (by omega) (by omega) (by omega)) ?_ -- pc_ 91
            refine sm_T_iald (n := 192) rfl rfl (by omega) (by omega) ?_
            have bx8_ : (-2147483648) ≤ S_.1 13 0 127 ∧ S_.1 13 0 127 ≤ 2147483647 := hI_.1 13 0 127 rfl
            refine sm_T_go 2 (c1 := (97, [some (.inr (.inr (some (13, 0)))), some (.inl n_), some (.inl c_), some (.inl le_), some (.inl k_), none, none], [.inl (S_.1 13 0 127), .inl (S_.2.2.1 205 0 (3 * c_ + k_).toNat), .inr (.inr (some (213, 0)))], sm_aI S_ 214 0 (S_.2.2.1 205 0 (3 * c_ + k_).toNat).toNat 240)) rfl ?_
            refine sm_T_negw rfl ?_ -- pc_ 97
            have bx9_ := i_neg_r (S_.1 13 0 127)
            refine sm_T_iast (n := 2048) rfl rfl (by omega) (by omega) ?_
            have hIx10_ : gi (sm_aI (sm_aI S_ 214 0 (S_.2.2.1 205 0 (3 * c_ + k_).toNat).toNat 240) 213 0 (S_.2.2.1 205 0 (3 * c_ + k_).toNat).toNat (i_neg (S_.1 13 0 127))) := gi_aI hIx6_ (show (-2147483648) ≤ (i_neg (S_.1 13 0 127)) ∧ (i_neg (S_.1 13 0 127)) ≤ 2147483647 from ⟨by omega, by omega⟩)
            have hFx11_ : ai_fr (sx_W vw_402) S0_ (sm_aI (sm_aI S_ 214 0 (S_.2.2.1 205 0 (3 * c_ + k_).toNat).toNat 240) 213 0 (S_.2.2.1 205 0 (3 * c_ + k_).toNat).toNat (i_neg (S_.1 13 0 127))) := ai_fr_tr hFx7_ (ai_fr_aI rfl)
            refine sm_T_inc (a := 4) (z := 1) (v := k_) (w := k_ + 1) rfl rfl (by omega) (by omega) (by omega) ?_ -- pc_ 99
            refine sm_T_go 1 (c1 := (25, [some (.inr (.inr (some (13, 0)))), some (.inl n_), some (.inl c_), some (.inl le_), some (.inl (k_ + 1)), none, none], [], sm_aI (sm_aI S_ 214 0 (S_.2.2.1 205 0 (3 * c_ + k_).toNat).toNat 240) 213 0 (S_.2.2.1 205 0 (3 * c_ + k_).toNat).toNat (i_neg (S_.1 13 0 127)))) rfl ?_
            refine ih_.1 le_ (k_ + 1) (sm_aI (sm_aI S_ 214 0 (S_.2.2.1 205 0 (3 * c_ + k_).toNat).toNat 240) 213 0 (S_.2.2.1 205 0 (3 * c_ + k_).toNat).toNat (i_neg (S_.1 13 0 127))) hIx10_ hFx11_ ⟨?_, trivial⟩ ?_
            · omega
            · omega
          · have cx5_ : ¬ (k_ ≠ 1) := of_decide_eq_false cx5_
            refine sm_T_go 2 (c1 := (77, [some (.inr (.inr (some (13, 0)))), some (.inl n_), some (.inl c_), some (.inl le_), some (.inl k_), none, none], [.inl 204, .inl (S_.2.2.1 205 0 (3 * c_ + k_).toNat), .inr (.inr (some (214, 0)))], S_)) rfl ?_
            refine sm_T_iast (n := 2048) rfl rfl (by omega) (by omega) ?_
            have hIx12_ : gi (sm_aI S_ 214 0 (S_.2.2.1 205 0 (3 * c_ + k_).toNat).toNat 204) := gi_aI hI_ (show 0 ≤ 204 ∧ 204 ≤ 255 from ⟨by omega, by omega⟩)
            have hFx13_ : ai_fr (sx_W vw_402) S0_ (sm_aI S_ 214 0 (S_.2.2.1 205 0 (3 * c_ + k_).toNat).toNat 204) := ai_fr_tr hF_ (ai_fr_aI rfl)
            refine sm_T_go 6 (c1 := (88, [some (.inr (.inr (some (13, 0)))), some (.inl n_), some (.inl c_), some (.inl le_), some (.inl k_), none, none], [.inl c_, .inl 3, .inr (.inr (some (205, 0))), .inr (.inr (some (213, 0)))], sm_aI S_ 214 0 (S_.2.2.1 205 0 (3 * c_ + k_).toNat).toNat 204)) rfl ?_
            refine sm_T_bin (w := 3 * c_) rfl (bi_mul (by omega) (by omega) (by omega)) ?_ -- pc_ 88
            refine sm_T_go 1 (c1 := (91, [some (.inr (.inr (some (13, 0)))), some (.inl n_), some (.inl c_), some (.inl le_), some (.inl k_), none, none], [.inl k_, .inl (3 * c_), .inr (.inr (some (205, 0))), .inr (.inr (some (213, 0)))], sm_aI S_ 214 0 (S_.2.2.1 205 0 (3 * c_ + k_).toNat).toNat 204)) rfl ?_
            refine sm_T_bin (w := 3 * c_ + k_) rfl (bi_add (by omega) (by omega) (by omega)) ?_ -- pc_ 91
            refine sm_T_iald (n := 192) rfl rfl (by omega) (by omega) ?_
            have bx14_ : (-2147483648) ≤ S_.1 13 0 127 ∧ S_.1 13 0 127 ≤ 2147483647 := hI_.1 13 0 127 rfl
            refine sm_T_go 2 (c1 := (97, [some (.inr (.inr (some (13, 0)))), some (.inl n_), some (.inl c_), some (.inl le_), some (.inl k_), none, none], [.inl (S_.1 13 0 127), .inl (S_.2.2.1 205 0 (3 * c_ + k_).toNat), .inr (.inr (some (213, 0)))], sm_aI S_ 214 0 (S_.2.2.1 205 0 (3 * c_ + k_).toNat).toNat 204)) rfl ?_
            refine sm_T_negw rfl ?_ -- pc_ 97
            have bx15_ := i_neg_r (S_.1 13 0 127)
            refine sm_T_iast (n := 2048) rfl rfl (by omega) (by omega) ?_
            have hIx16_ : gi (sm_aI (sm_aI S_ 214 0 (S_.2.2.1 205 0 (3 * c_ + k_).toNat).toNat 204) 213 0 (S_.2.2.1 205 0 (3 * c_ + k_).toNat).toNat (i_neg (S_.1 13 0 127))) := gi_aI hIx12_ (show (-2147483648) ≤ (i_neg (S_.1 13 0 127)) ∧ (i_neg (S_.1 13 0 127)) ≤ 2147483647 from ⟨by omega, by omega⟩)
            have hFx17_ : ai_fr (sx_W vw_402) S0_ (sm_aI (sm_aI S_ 214 0 (S_.2.2.1 205 0 (3 * c_ + k_).toNat).toNat 204) 213 0 (S_.2.2.1 205 0 (3 * c_ + k_).toNat).toNat (i_neg (S_.1 13 0 127))) := ai_fr_tr hFx13_ (ai_fr_aI rfl)
            refine sm_T_inc (a := 4) (z := 1) (v := k_) (w := k_ + 1) rfl rfl (by omega) (by omega) (by omega) ?_ -- pc_ 99
            refine sm_T_go 1 (c1 := (25, [some (.inr (.inr (some (13, 0)))), some (.inl n_), some (.inl c_), some (.inl le_), some (.inl (k_ + 1)), none, none], [], sm_aI (sm_aI S_ 214 0 (S_.2.2.1 205 0 (3 * c_ + k_).toNat).toNat 204) 213 0 (S_.2.2.1 205 0 (3 * c_ + k_).toNat).toNat (i_neg (S_.1 13 0 127)))) rfl ?_
            refine ih_.1 le_ (k_ + 1) (sm_aI (sm_aI S_ 214 0 (S_.2.2.1 205 0 (3 * c_ + k_).toNat).toNat 204) 213 0 (S_.2.2.1 205 0 (3 * c_ + k_).toNat).toNat (i_neg (S_.1 13 0 127))) hIx16_ hFx17_ ⟨?_, trivial⟩ ?_
            · omega
            · omega
        · have cx4_ : ¬ (k_ ≠ 0) := of_decide_eq_false cx4_
          refine sm_T_go 2 (c1 := (77, [some (.inr (.inr (some (13, 0)))), some (.inl n_), some (.inl c_), some (.inl le_), some (.inl k_), none, none], [.inl 170, .inl (S_.2.2.1 205 0 (3 * c_ + k_).toNat), .inr (.inr (some (214, 0)))], S_)) rfl ?_
          refine sm_T_iast (n := 2048) rfl rfl (by omega) (by omega) ?_
          have hIx18_ : gi (sm_aI S_ 214 0 (S_.2.2.1 205 0 (3 * c_ + k_).toNat).toNat 170) := gi_aI hI_ (show 0 ≤ 170 ∧ 170 ≤ 255 from ⟨by omega, by omega⟩)
          have hFx19_ : ai_fr (sx_W vw_402) S0_ (sm_aI S_ 214 0 (S_.2.2.1 205 0 (3 * c_ + k_).toNat).toNat 170) := ai_fr_tr hF_ (ai_fr_aI rfl)
          refine sm_T_go 6 (c1 := (88, [some (.inr (.inr (some (13, 0)))), some (.inl n_), some (.inl c_), some (.inl le_), some (.inl k_), none, none], [.inl c_, .inl 3, .inr (.inr (some (205, 0))), .inr (.inr (some (213, 0)))], sm_aI S_ 214 0 (S_.2.2.1 205 0 (3 * c_ + k_).toNat).toNat 170)) rfl ?_
          refine sm_T_bin (w := 3 * c_) rfl (bi_mul (by omega) (by omega) (by omega)) ?_ -- pc_ 88
          refine sm_T_go 1 (c1 := (91, [some (.inr (.inr (some (13, 0)))), some (.inl n_), some (.inl c_), some (.inl le_), some (.inl k_), none, none], [.inl k_, .inl (3 * c_), .inr (.inr (some (205, 0))), .inr (.inr (some (213, 0)))], sm_aI S_ 214 0 (S_.2.2.1 205 0 (3 * c_ + k_).toNat).toNat 170)) rfl ?_
          refine sm_T_bin (w := 3 * c_ + k_) rfl (bi_add (by omega) (by omega) (by omega)) ?_ -- pc_ 91
          refine sm_T_iald (n := 192) rfl rfl (by omega) (by omega) ?_
          have bx20_ : (-2147483648) ≤ S_.1 13 0 127 ∧ S_.1 13 0 127 ≤ 2147483647 := hI_.1 13 0 127 rfl
          refine sm_T_go 2 (c1 := (97, [some (.inr (.inr (some (13, 0)))), some (.inl n_), some (.inl c_), some (.inl le_), some (.inl k_), none, none], [.inl (S_.1 13 0 127), .inl (S_.2.2.1 205 0 (3 * c_ + k_).toNat), .inr (.inr (some (213, 0)))], sm_aI S_ 214 0 (S_.2.2.1 205 0 (3 * c_ + k_).toNat).toNat 170)) rfl ?_
          refine sm_T_negw rfl ?_ -- pc_ 97
          have bx21_ := i_neg_r (S_.1 13 0 127)
          refine sm_T_iast (n := 2048) rfl rfl (by omega) (by omega) ?_
          have hIx22_ : gi (sm_aI (sm_aI S_ 214 0 (S_.2.2.1 205 0 (3 * c_ + k_).toNat).toNat 170) 213 0 (S_.2.2.1 205 0 (3 * c_ + k_).toNat).toNat (i_neg (S_.1 13 0 127))) := gi_aI hIx18_ (show (-2147483648) ≤ (i_neg (S_.1 13 0 127)) ∧ (i_neg (S_.1 13 0 127)) ≤ 2147483647 from ⟨by omega, by omega⟩)
          have hFx23_ : ai_fr (sx_W vw_402) S0_ (sm_aI (sm_aI S_ 214 0 (S_.2.2.1 205 0 (3 * c_ + k_).toNat).toNat 170) 213 0 (S_.2.2.1 205 0 (3 * c_ + k_).toNat).toNat (i_neg (S_.1 13 0 127))) := ai_fr_tr hFx19_ (ai_fr_aI rfl)
          refine sm_T_inc (a := 4) (z := 1) (v := k_) (w := k_ + 1) rfl rfl (by omega) (by omega) (by omega) ?_ -- pc_ 99
          refine sm_T_go 1 (c1 := (25, [some (.inr (.inr (some (13, 0)))), some (.inl n_), some (.inl c_), some (.inl le_), some (.inl (k_ + 1)), none, none], [], sm_aI (sm_aI S_ 214 0 (S_.2.2.1 205 0 (3 * c_ + k_).toNat).toNat 170) 213 0 (S_.2.2.1 205 0 (3 * c_ + k_).toNat).toNat (i_neg (S_.1 13 0 127)))) rfl ?_
          refine ih_.1 le_ (k_ + 1) (sm_aI (sm_aI S_ 214 0 (S_.2.2.1 205 0 (3 * c_ + k_).toNat).toNat 170) 213 0 (S_.2.2.1 205 0 (3 * c_ + k_).toNat).toNat (i_neg (S_.1 13 0 127))) hIx22_ hFx23_ ⟨?_, trivial⟩ ?_
          · omega
          · omega
    · rintro le_ x_ S_ hI_ hF_ ⟨h0_, -⟩ hm_
      have bx1_ : 0 ≤ S_.1 13 0 105 ∧ S_.1 13 0 105 ≤ 5 := hI_.1 13 0 105 rfl
      refine sm_T_go 5 (c1 := (118, [some (.inr (.inr (some (13, 0)))), some (.inl n_), some (.inl c_), some (.inl le_), some (.inl x_), none, none], [.inl (S_.1 13 0 105), .inr (.inr (some (160, 0))), .inl x_], S_)) rfl ?_
      refine sm_T_iald (n := 6) rfl rfl (by omega) (by omega) ?_
      have bx2_ : 0 ≤ S_.2.2.1 160 0 (S_.1 13 0 105).toNat ∧ S_.2.2.1 160 0 (S_.1 13 0 105).toNat ≤ 19 := hI_.2 160 0 _
      refine sm_T_br (a := 2) (z := 116) rfl (fun cx3_ => ?_) (fun cx3_ => ?_)
      · have cx3_ : x_ < (S_.2.2.1 160 0 (S_.1 13 0 105).toNat) := of_decide_eq_true cx3_
        refine sm_T_go 2 (c1 := (238, [some (.inr (.inr (some (13, 0)))), some (.inl n_), some (.inl c_), some (.inl le_), some (.inl le_), none, none], [], S_)) rfl ?_
        refine ih_.2.2 le_ le_ S_ hI_ hF_ ⟨?_, trivial⟩ ?_
        · omega
        · omega
      · have cx3_ : ¬ (x_ < (S_.2.2.1 160 0 (S_.1 13 0 105).toNat)) := of_decide_eq_false cx3_
        refine sm_T_go 3 (c1 := (128, [some (.inr (.inr (some (13, 0)))), some (.inl n_), some (.inl c_), some (.inl le_), some (.inl x_), none, none], [.inl x_, .inr (.inr (some (213, 0)))], S_)) rfl ?_
        refine sm_T_iald (n := 2048) rfl rfl (by omega) (by omega) ?_
        have bx4_ : (-2147483648) ≤ S_.2.2.1 213 0 x_.toNat ∧ S_.2.2.1 213 0 x_.toNat ≤ 2147483647 := hI_.2 213 0 _
        have bx5_ : (-2147483648) ≤ S_.1 13 0 127 ∧ S_.1 13 0 127 ≤ 2147483647 := hI_.1 13 0 127 rfl
        refine sm_T_go 2 (c1 := (133, [some (.inr (.inr (some (13, 0)))), some (.inl n_), some (.inl c_), some (.inl le_), some (.inl x_), none, none], [.inl (S_.1 13 0 127), .inl (S_.2.2.1 213 0 x_.toNat)], S_)) rfl ?_
        refine sm_T_br (a := 1) (z := 96) rfl (fun cx6_ => ?_) (fun cx6_ => ?_)
        · have cx6_ : (S_.2.2.1 213 0 x_.toNat) ≠ (S_.1 13 0 127) := of_decide_eq_true cx6_
          refine sm_T_inc (a := 4) (z := (-1)) (v := x_) (w := x_ - 1) rfl rfl (by omega) (by omega) (by omega) ?_ -- pc_ 229
          refine sm_T_go 1 (c1 := (108, [some (.inr (.inr (some (13, 0)))), some (.inl n_), some (.inl c_), some (.inl le_), some (.inl (x_ - 1)), none, none], [], S_)) rfl ?_
          refine ih_.2.1 le_ (x_ - 1) S_ hI_ hF_ ⟨?_, trivial⟩ ?_
          · omega
          · omega
        · have cx6_ : ¬ ((S_.2.2.1 213 0 x_.toNat) ≠ (S_.1 13 0 127)) := of_decide_eq_false cx6_
          refine sm_T_go 5 (c1 := (145, [some (.inr (.inr (some (13, 0)))), some (.inl n_), some (.inl c_), some (.inl x_), some (.inl x_), none, none], [.inl x_, .inr (.inr (some (199, 0)))], S_)) rfl ?_
          refine sm_T_iald (n := 2048) rfl rfl (by omega) (by omega) ?_
          have bx7_ : 0 ≤ S_.2.2.1 199 0 x_.toNat ∧ S_.2.2.1 199 0 x_.toNat ≤ 2025 := hI_.2 199 0 _
          refine sm_T_go 1 (c1 := (147, [some (.inr (.inr (some (13, 0)))), some (.inl n_), some (.inl c_), some (.inl x_), some (.inl x_), none, none], [.inl 1, .inl (S_.2.2.1 199 0 x_.toNat)], S_)) rfl ?_
          refine sm_T_bin (w := ((S_.2.2.1 199 0 x_.toNat) / 2)) rfl (bi_shr (k := 1) (by decide) (by omega) (by omega)) ?_ -- pc_ 147
          refine sm_T_go 4 (c1 := (156, [some (.inr (.inr (some (13, 0)))), some (.inl n_), some (.inl c_), some (.inl x_), some (.inl x_), some (.inl ((S_.2.2.1 199 0 x_.toNat) / 2)), none], [.inl x_, .inr (.inr (some (200, 0)))], S_)) rfl ?_
          refine sm_T_iald (n := 2048) rfl rfl (by omega) (by omega) ?_
          have bx8_ : 0 ≤ S_.2.2.1 200 0 x_.toNat ∧ S_.2.2.1 200 0 x_.toNat ≤ 2025 := hI_.2 200 0 _
          refine sm_T_go 1 (c1 := (158, [some (.inr (.inr (some (13, 0)))), some (.inl n_), some (.inl c_), some (.inl x_), some (.inl x_), some (.inl ((S_.2.2.1 199 0 x_.toNat) / 2)), none], [.inl 1, .inl (S_.2.2.1 200 0 x_.toNat)], S_)) rfl ?_
          refine sm_T_bin (w := ((S_.2.2.1 200 0 x_.toNat) / 2)) rfl (bi_shr (k := 1) (by decide) (by omega) (by omega)) ?_ -- pc_ 158
          refine sm_T_go 7 (c1 := (173, [some (.inr (.inr (some (13, 0)))), some (.inl n_), some (.inl c_), some (.inl x_), some (.inl x_), some (.inl ((S_.2.2.1 199 0 x_.toNat) / 2)), some (.inl ((S_.2.2.1 200 0 x_.toNat) / 2))], [.inl ((S_.2.2.1 199 0 x_.toNat) / 2), .inr (.inr (some (213, 0))), .inl ((S_.2.2.1 199 0 x_.toNat) / 2), .inr (.inr (some (213, 0)))], S_)) rfl ?_
          refine sm_T_iald (n := 2048) rfl rfl (by omega) (by omega) ?_
          have bx9_ : (-2147483648) ≤ S_.2.2.1 213 0 ((S_.2.2.1 199 0 x_.toNat) / 2).toNat ∧ S_.2.2.1 213 0 ((S_.2.2.1 199 0 x_.toNat) / 2).toNat ≤ 2147483647 := hI_.2 213 0 _
          refine sm_T_go 2 (c1 := (178, [some (.inr (.inr (some (13, 0)))), some (.inl n_), some (.inl c_), some (.inl x_), some (.inl x_), some (.inl ((S_.2.2.1 199 0 x_.toNat) / 2)), some (.inl ((S_.2.2.1 200 0 x_.toNat) / 2))], [.inl (S_.1 13 0 127), .inl (S_.2.2.1 213 0 ((S_.2.2.1 199 0 x_.toNat) / 2).toNat), .inl ((S_.2.2.1 199 0 x_.toNat) / 2), .inr (.inr (some (213, 0)))], S_)) rfl ?_
          refine sm_T_negw rfl ?_ -- pc_ 178
          have bx10_ := i_neg_r (S_.1 13 0 127)
          refine sm_T_br (a := 1) (z := 11) rfl (fun cx11_ => ?_) (fun cx11_ => ?_)
          · have cx11_ : (S_.2.2.1 213 0 ((S_.2.2.1 199 0 x_.toNat) / 2).toNat) ≠ (i_neg (S_.1 13 0 127)) := of_decide_eq_true cx11_
            refine sm_T_go 2 (c1 := (194, [some (.inr (.inr (some (13, 0)))), some (.inl n_), some (.inl c_), some (.inl x_), some (.inl x_), some (.inl ((S_.2.2.1 199 0 x_.toNat) / 2)), some (.inl ((S_.2.2.1 200 0 x_.toNat) / 2))], [.inl (S_.1 13 0 127), .inl ((S_.2.2.1 199 0 x_.toNat) / 2), .inr (.inr (some (213, 0)))], S_)) rfl ?_
            refine sm_T_iast (n := 2048) rfl rfl (by omega) (by omega) ?_
            have hIx12_ : gi (sm_aI S_ 213 0 ((S_.2.2.1 199 0 x_.toNat) / 2).toNat (S_.1 13 0 127)) := gi_aI hI_ (show (-2147483648) ≤ (S_.1 13 0 127) ∧ (S_.1 13 0 127) ≤ 2147483647 from ⟨by omega, by omega⟩)
            have hFx13_ : ai_fr (sx_W vw_402) S0_ (sm_aI S_ 213 0 ((S_.2.2.1 199 0 x_.toNat) / 2).toNat (S_.1 13 0 127)) := ai_fr_tr hF_ (ai_fr_aI rfl)
            refine sm_T_go 6 (c1 := (207, [some (.inr (.inr (some (13, 0)))), some (.inl n_), some (.inl c_), some (.inl x_), some (.inl x_), some (.inl ((S_.2.2.1 199 0 x_.toNat) / 2)), some (.inl ((S_.2.2.1 200 0 x_.toNat) / 2))], [.inl ((S_.2.2.1 200 0 x_.toNat) / 2), .inr (.inr (some (213, 0))), .inl ((S_.2.2.1 200 0 x_.toNat) / 2), .inr (.inr (some (213, 0)))], sm_aI S_ 213 0 ((S_.2.2.1 199 0 x_.toNat) / 2).toNat (S_.1 13 0 127))) rfl ?_
            refine sm_T_iald (n := 2048) rfl rfl (by omega) (by omega) ?_
            have bx14_ : (-2147483648) ≤ (sm_aI S_ 213 0 ((S_.2.2.1 199 0 x_.toNat) / 2).toNat (S_.1 13 0 127)).2.2.1 213 0 ((S_.2.2.1 200 0 x_.toNat) / 2).toNat ∧ (sm_aI S_ 213 0 ((S_.2.2.1 199 0 x_.toNat) / 2).toNat (S_.1 13 0 127)).2.2.1 213 0 ((S_.2.2.1 200 0 x_.toNat) / 2).toNat ≤ 2147483647 := hIx12_.2 213 0 _
            refine sm_T_go 2 (c1 := (212, [some (.inr (.inr (some (13, 0)))), some (.inl n_), some (.inl c_), some (.inl x_), some (.inl x_), some (.inl ((S_.2.2.1 199 0 x_.toNat) / 2)), some (.inl ((S_.2.2.1 200 0 x_.toNat) / 2))], [.inl (S_.1 13 0 127), .inl ((sm_aI S_ 213 0 ((S_.2.2.1 199 0 x_.toNat) / 2).toNat (S_.1 13 0 127)).2.2.1 213 0 ((S_.2.2.1 200 0 x_.toNat) / 2).toNat), .inl ((S_.2.2.1 200 0 x_.toNat) / 2), .inr (.inr (some (213, 0)))], sm_aI S_ 213 0 ((S_.2.2.1 199 0 x_.toNat) / 2).toNat (S_.1 13 0 127))) rfl ?_
            refine sm_T_negw rfl ?_ -- pc_ 212
            have bx15_ := i_neg_r (S_.1 13 0 127)
            refine sm_T_br (a := 1) (z := 11) rfl (fun cx16_ => ?_) (fun cx16_ => ?_)
            · have cx16_ : ((sm_aI S_ 213 0 ((S_.2.2.1 199 0 x_.toNat) / 2).toNat (S_.1 13 0 127)).2.2.1 213 0 ((S_.2.2.1 200 0 x_.toNat) / 2).toNat) ≠ (i_neg (S_.1 13 0 127)) := of_decide_eq_true cx16_
              refine sm_T_go 2 (c1 := (228, [some (.inr (.inr (some (13, 0)))), some (.inl n_), some (.inl c_), some (.inl x_), some (.inl x_), some (.inl ((S_.2.2.1 199 0 x_.toNat) / 2)), some (.inl ((S_.2.2.1 200 0 x_.toNat) / 2))], [.inl (S_.1 13 0 127), .inl ((S_.2.2.1 200 0 x_.toNat) / 2), .inr (.inr (some (213, 0)))], sm_aI S_ 213 0 ((S_.2.2.1 199 0 x_.toNat) / 2).toNat (S_.1 13 0 127))) rfl ?_
              refine sm_T_iast (n := 2048) rfl rfl (by omega) (by omega) ?_
              have hIx17_ : gi (sm_aI (sm_aI S_ 213 0 ((S_.2.2.1 199 0 x_.toNat) / 2).toNat (S_.1 13 0 127)) 213 0 ((S_.2.2.1 200 0 x_.toNat) / 2).toNat (S_.1 13 0 127)) := gi_aI hIx12_ (show (-2147483648) ≤ (S_.1 13 0 127) ∧ (S_.1 13 0 127) ≤ 2147483647 from ⟨by omega, by omega⟩)
              have hFx18_ : ai_fr (sx_W vw_402) S0_ (sm_aI (sm_aI S_ 213 0 ((S_.2.2.1 199 0 x_.toNat) / 2).toNat (S_.1 13 0 127)) 213 0 ((S_.2.2.1 200 0 x_.toNat) / 2).toNat (S_.1 13 0 127)) := ai_fr_tr hFx13_ (ai_fr_aI rfl)
              refine sm_T_inc (a := 4) (z := (-1)) (v := x_) (w := x_ - 1) rfl rfl (by omega) (by omega) (by omega) ?_ -- pc_ 229
              refine sm_T_go 1 (c1 := (108, [some (.inr (.inr (some (13, 0)))), some (.inl n_), some (.inl c_), some (.inl x_), some (.inl (x_ - 1)), some (.inl ((S_.2.2.1 199 0 x_.toNat) / 2)), some (.inl ((S_.2.2.1 200 0 x_.toNat) / 2))], [], sm_aI (sm_aI S_ 213 0 ((S_.2.2.1 199 0 x_.toNat) / 2).toNat (S_.1 13 0 127)) 213 0 ((S_.2.2.1 200 0 x_.toNat) / 2).toNat (S_.1 13 0 127))) rfl ?_
              refine sm_T_wk [some (.inr (.inr (some (13, 0)))), some (.inl n_), some (.inl c_), some (.inl x_), some (.inl (x_ - 1)), none, none] (by exact ⟨rfl, rfl, rfl, rfl, rfl, trivial⟩) ?_
              refine ih_.2.1 x_ (x_ - 1) (sm_aI (sm_aI S_ 213 0 ((S_.2.2.1 199 0 x_.toNat) / 2).toNat (S_.1 13 0 127)) 213 0 ((S_.2.2.1 200 0 x_.toNat) / 2).toNat (S_.1 13 0 127)) hIx17_ hFx18_ ⟨?_, trivial⟩ ?_
              · omega
              · omega
            · have cx16_ : ¬ (((sm_aI S_ 213 0 ((S_.2.2.1 199 0 x_.toNat) / 2).toNat (S_.1 13 0 127)).2.2.1 213 0 ((S_.2.2.1 200 0 x_.toNat) / 2).toNat) ≠ (i_neg (S_.1 13 0 127))) := of_decide_eq_false cx16_
              refine sm_T_go 2 (c1 := (220, [some (.inr (.inr (some (13, 0)))), some (.inl n_), some (.inl c_), some (.inl x_), some (.inl x_), some (.inl ((S_.2.2.1 199 0 x_.toNat) / 2)), some (.inl ((S_.2.2.1 200 0 x_.toNat) / 2))], [.inl (S_.1 13 0 127), .inl ((S_.2.2.1 200 0 x_.toNat) / 2), .inr (.inr (some (213, 0)))], sm_aI S_ 213 0 ((S_.2.2.1 199 0 x_.toNat) / 2).toNat (S_.1 13 0 127))) rfl ?_
              refine sm_T_negw rfl ?_ -- pc_ 220
              have bx19_ := i_neg_r (S_.1 13 0 127)
              refine sm_T_go 1 (c1 := (228, [some (.inr (.inr (some (13, 0)))), some (.inl n_), some (.inl c_), some (.inl x_), some (.inl x_), some (.inl ((S_.2.2.1 199 0 x_.toNat) / 2)), some (.inl ((S_.2.2.1 200 0 x_.toNat) / 2))], [.inl (i_neg (S_.1 13 0 127)), .inl ((S_.2.2.1 200 0 x_.toNat) / 2), .inr (.inr (some (213, 0)))], sm_aI S_ 213 0 ((S_.2.2.1 199 0 x_.toNat) / 2).toNat (S_.1 13 0 127))) rfl ?_
              refine sm_T_iast (n := 2048) rfl rfl (by omega) (by omega) ?_
              have hIx20_ : gi (sm_aI (sm_aI S_ 213 0 ((S_.2.2.1 199 0 x_.toNat) / 2).toNat (S_.1 13 0 127)) 213 0 ((S_.2.2.1 200 0 x_.toNat) / 2).toNat (i_neg (S_.1 13 0 127))) := gi_aI hIx12_ (show (-2147483648) ≤ (i_neg (S_.1 13 0 127)) ∧ (i_neg (S_.1 13 0 127)) ≤ 2147483647 from ⟨by omega, by omega⟩)
              have hFx21_ : ai_fr (sx_W vw_402) S0_ (sm_aI (sm_aI S_ 213 0 ((S_.2.2.1 199 0 x_.toNat) / 2).toNat (S_.1 13 0 127)) 213 0 ((S_.2.2.1 200 0 x_.toNat) / 2).toNat (i_neg (S_.1 13 0 127))) := ai_fr_tr hFx13_ (ai_fr_aI rfl)
              refine sm_T_inc (a := 4) (z := (-1)) (v := x_) (w := x_ - 1) rfl rfl (by omega) (by omega) (by omega) ?_ -- pc_ 229
              refine sm_T_go 1 (c1 := (108, [some (.inr (.inr (some (13, 0)))), some (.inl n_), some (.inl c_), some (.inl x_), some (.inl (x_ - 1)), some (.inl ((S_.2.2.1 199 0 x_.toNat) / 2)), some (.inl ((S_.2.2.1 200 0 x_.toNat) / 2))], [], sm_aI (sm_aI S_ 213 0 ((S_.2.2.1 199 0 x_.toNat) / 2).toNat (S_.1 13 0 127)) 213 0 ((S_.2.2.1 200 0 x_.toNat) / 2).toNat (i_neg (S_.1 13 0 127)))) rfl ?_
              refine sm_T_wk [some (.inr (.inr (some (13, 0)))), some (.inl n_), some (.inl c_), some (.inl x_), some (.inl (x_ - 1)), none, none] (by exact ⟨rfl, rfl, rfl, rfl, rfl, trivial⟩) ?_
              refine ih_.2.1 x_ (x_ - 1) (sm_aI (sm_aI S_ 213 0 ((S_.2.2.1 199 0 x_.toNat) / 2).toNat (S_.1 13 0 127)) 213 0 ((S_.2.2.1 200 0 x_.toNat) / 2).toNat (i_neg (S_.1 13 0 127))) hIx20_ hFx21_ ⟨?_, trivial⟩ ?_
              · omega
              · omega
          · have cx11_ : ¬ ((S_.2.2.1 213 0 ((S_.2.2.1 199 0 x_.toNat) / 2).toNat) ≠ (i_neg (S_.1 13 0 127))) := of_decide_eq_false cx11_
            refine sm_T_go 2 (c1 := (186, [some (.inr (.inr (some (13, 0)))), some (.inl n_), some (.inl c_), some (.inl x_), some (.inl x_), some (.inl ((S_.2.2.1 199 0 x_.toNat) / 2)), some (.inl ((S_.2.2.1 200 0 x_.toNat) / 2))], [.inl (S_.1 13 0 127), .inl ((S_.2.2.1 199 0 x_.toNat) / 2), .inr (.inr (some (213, 0)))], S_)) rfl ?_
            refine sm_T_negw rfl ?_ -- pc_ 186
            have bx22_ := i_neg_r (S_.1 13 0 127)
            refine sm_T_go 1 (c1 := (194, [some (.inr (.inr (some (13, 0)))), some (.inl n_), some (.inl c_), some (.inl x_), some (.inl x_), some (.inl ((S_.2.2.1 199 0 x_.toNat) / 2)), some (.inl ((S_.2.2.1 200 0 x_.toNat) / 2))], [.inl (i_neg (S_.1 13 0 127)), .inl ((S_.2.2.1 199 0 x_.toNat) / 2), .inr (.inr (some (213, 0)))], S_)) rfl ?_
            refine sm_T_iast (n := 2048) rfl rfl (by omega) (by omega) ?_
            have hIx23_ : gi (sm_aI S_ 213 0 ((S_.2.2.1 199 0 x_.toNat) / 2).toNat (i_neg (S_.1 13 0 127))) := gi_aI hI_ (show (-2147483648) ≤ (i_neg (S_.1 13 0 127)) ∧ (i_neg (S_.1 13 0 127)) ≤ 2147483647 from ⟨by omega, by omega⟩)
            have hFx24_ : ai_fr (sx_W vw_402) S0_ (sm_aI S_ 213 0 ((S_.2.2.1 199 0 x_.toNat) / 2).toNat (i_neg (S_.1 13 0 127))) := ai_fr_tr hF_ (ai_fr_aI rfl)
            refine sm_T_go 6 (c1 := (207, [some (.inr (.inr (some (13, 0)))), some (.inl n_), some (.inl c_), some (.inl x_), some (.inl x_), some (.inl ((S_.2.2.1 199 0 x_.toNat) / 2)), some (.inl ((S_.2.2.1 200 0 x_.toNat) / 2))], [.inl ((S_.2.2.1 200 0 x_.toNat) / 2), .inr (.inr (some (213, 0))), .inl ((S_.2.2.1 200 0 x_.toNat) / 2), .inr (.inr (some (213, 0)))], sm_aI S_ 213 0 ((S_.2.2.1 199 0 x_.toNat) / 2).toNat (i_neg (S_.1 13 0 127)))) rfl ?_
            refine sm_T_iald (n := 2048) rfl rfl (by omega) (by omega) ?_
            have bx25_ : (-2147483648) ≤ (sm_aI S_ 213 0 ((S_.2.2.1 199 0 x_.toNat) / 2).toNat (i_neg (S_.1 13 0 127))).2.2.1 213 0 ((S_.2.2.1 200 0 x_.toNat) / 2).toNat ∧ (sm_aI S_ 213 0 ((S_.2.2.1 199 0 x_.toNat) / 2).toNat (i_neg (S_.1 13 0 127))).2.2.1 213 0 ((S_.2.2.1 200 0 x_.toNat) / 2).toNat ≤ 2147483647 := hIx23_.2 213 0 _
            refine sm_T_go 2 (c1 := (212, [some (.inr (.inr (some (13, 0)))), some (.inl n_), some (.inl c_), some (.inl x_), some (.inl x_), some (.inl ((S_.2.2.1 199 0 x_.toNat) / 2)), some (.inl ((S_.2.2.1 200 0 x_.toNat) / 2))], [.inl (S_.1 13 0 127), .inl ((sm_aI S_ 213 0 ((S_.2.2.1 199 0 x_.toNat) / 2).toNat (i_neg (S_.1 13 0 127))).2.2.1 213 0 ((S_.2.2.1 200 0 x_.toNat) / 2).toNat), .inl ((S_.2.2.1 200 0 x_.toNat) / 2), .inr (.inr (some (213, 0)))], sm_aI S_ 213 0 ((S_.2.2.1 199 0 x_.toNat) / 2).toNat (i_neg (S_.1 13 0 127)))) rfl ?_
            refine sm_T_negw rfl ?_ -- pc_ 212
            have bx26_ := i_neg_r (S_.1 13 0 127)
            refine sm_T_br (a := 1) (z := 11) rfl (fun cx27_ => ?_) (fun cx27_ => ?_)
            · have cx27_ : ((sm_aI S_ 213 0 ((S_.2.2.1 199 0 x_.toNat) / 2).toNat (i_neg (S_.1 13 0 127))).2.2.1 213 0 ((S_.2.2.1 200 0 x_.toNat) / 2).toNat) ≠ (i_neg (S_.1 13 0 127)) := of_decide_eq_true cx27_
              refine sm_T_go 2 (c1 := (228, [some (.inr (.inr (some (13, 0)))), some (.inl n_), some (.inl c_), some (.inl x_), some (.inl x_), some (.inl ((S_.2.2.1 199 0 x_.toNat) / 2)), some (.inl ((S_.2.2.1 200 0 x_.toNat) / 2))], [.inl (S_.1 13 0 127), .inl ((S_.2.2.1 200 0 x_.toNat) / 2), .inr (.inr (some (213, 0)))], sm_aI S_ 213 0 ((S_.2.2.1 199 0 x_.toNat) / 2).toNat (i_neg (S_.1 13 0 127)))) rfl ?_
              refine sm_T_iast (n := 2048) rfl rfl (by omega) (by omega) ?_
              have hIx28_ : gi (sm_aI (sm_aI S_ 213 0 ((S_.2.2.1 199 0 x_.toNat) / 2).toNat (i_neg (S_.1 13 0 127))) 213 0 ((S_.2.2.1 200 0 x_.toNat) / 2).toNat (S_.1 13 0 127)) := gi_aI hIx23_ (show (-2147483648) ≤ (S_.1 13 0 127) ∧ (S_.1 13 0 127) ≤ 2147483647 from ⟨by omega, by omega⟩)
              have hFx29_ : ai_fr (sx_W vw_402) S0_ (sm_aI (sm_aI S_ 213 0 ((S_.2.2.1 199 0 x_.toNat) / 2).toNat (i_neg (S_.1 13 0 127))) 213 0 ((S_.2.2.1 200 0 x_.toNat) / 2).toNat (S_.1 13 0 127)) := ai_fr_tr hFx24_ (ai_fr_aI rfl)
              refine sm_T_inc (a := 4) (z := (-1)) (v := x_) (w := x_ - 1) rfl rfl (by omega) (by omega) (by omega) ?_ -- pc_ 229
              refine sm_T_go 1 (c1 := (108, [some (.inr (.inr (some (13, 0)))), some (.inl n_), some (.inl c_), some (.inl x_), some (.inl (x_ - 1)), some (.inl ((S_.2.2.1 199 0 x_.toNat) / 2)), some (.inl ((S_.2.2.1 200 0 x_.toNat) / 2))], [], sm_aI (sm_aI S_ 213 0 ((S_.2.2.1 199 0 x_.toNat) / 2).toNat (i_neg (S_.1 13 0 127))) 213 0 ((S_.2.2.1 200 0 x_.toNat) / 2).toNat (S_.1 13 0 127))) rfl ?_
              refine sm_T_wk [some (.inr (.inr (some (13, 0)))), some (.inl n_), some (.inl c_), some (.inl x_), some (.inl (x_ - 1)), none, none] (by exact ⟨rfl, rfl, rfl, rfl, rfl, trivial⟩) ?_
              refine ih_.2.1 x_ (x_ - 1) (sm_aI (sm_aI S_ 213 0 ((S_.2.2.1 199 0 x_.toNat) / 2).toNat (i_neg (S_.1 13 0 127))) 213 0 ((S_.2.2.1 200 0 x_.toNat) / 2).toNat (S_.1 13 0 127)) hIx28_ hFx29_ ⟨?_, trivial⟩ ?_
              · omega
              · omega
            · have cx27_ : ¬ (((sm_aI S_ 213 0 ((S_.2.2.1 199 0 x_.toNat) / 2).toNat (i_neg (S_.1 13 0 127))).2.2.1 213 0 ((S_.2.2.1 200 0 x_.toNat) / 2).toNat) ≠ (i_neg (S_.1 13 0 127))) := of_decide_eq_false cx27_
              refine sm_T_go 2 (c1 := (220, [some (.inr (.inr (some (13, 0)))), some (.inl n_), some (.inl c_), some (.inl x_), some (.inl x_), some (.inl ((S_.2.2.1 199 0 x_.toNat) / 2)), some (.inl ((S_.2.2.1 200 0 x_.toNat) / 2))], [.inl (S_.1 13 0 127), .inl ((S_.2.2.1 200 0 x_.toNat) / 2), .inr (.inr (some (213, 0)))], sm_aI S_ 213 0 ((S_.2.2.1 199 0 x_.toNat) / 2).toNat (i_neg (S_.1 13 0 127)))) rfl ?_
              refine sm_T_negw rfl ?_ -- pc_ 220
              have bx30_ := i_neg_r (S_.1 13 0 127)
              refine sm_T_go 1 (c1 := (228, [some (.inr (.inr (some (13, 0)))), some (.inl n_), some (.inl c_), some (.inl x_), some (.inl x_), some (.inl ((S_.2.2.1 199 0 x_.toNat) / 2)), some (.inl ((S_.2.2.1 200 0 x_.toNat) / 2))], [.inl (i_neg (S_.1 13 0 127)), .inl ((S_.2.2.1 200 0 x_.toNat) / 2), .inr (.inr (some (213, 0)))], sm_aI S_ 213 0 ((S_.2.2.1 199 0 x_.toNat) / 2).toNat (i_neg (S_.1 13 0 127)))) rfl ?_
              refine sm_T_iast (n := 2048) rfl rfl (by omega) (by omega) ?_
              have hIx31_ : gi (sm_aI (sm_aI S_ 213 0 ((S_.2.2.1 199 0 x_.toNat) / 2).toNat (i_neg (S_.1 13 0 127))) 213 0 ((S_.2.2.1 200 0 x_.toNat) / 2).toNat (i_neg (S_.1 13 0 127))) := gi_aI hIx23_ (show (-2147483648) ≤ (i_neg (S_.1 13 0 127)) ∧ (i_neg (S_.1 13 0 127)) ≤ 2147483647 from ⟨by omega, by omega⟩)
              have hFx32_ : ai_fr (sx_W vw_402) S0_ (sm_aI (sm_aI S_ 213 0 ((S_.2.2.1 199 0 x_.toNat) / 2).toNat (i_neg (S_.1 13 0 127))) 213 0 ((S_.2.2.1 200 0 x_.toNat) / 2).toNat (i_neg (S_.1 13 0 127))) := ai_fr_tr hFx24_ (ai_fr_aI rfl)
              refine sm_T_inc (a := 4) (z := (-1)) (v := x_) (w := x_ - 1) rfl rfl (by omega) (by omega) (by omega) ?_ -- pc_ 229
              refine sm_T_go 1 (c1 := (108, [some (.inr (.inr (some (13, 0)))), some (.inl n_), some (.inl c_), some (.inl x_), some (.inl (x_ - 1)), some (.inl ((S_.2.2.1 199 0 x_.toNat) / 2)), some (.inl ((S_.2.2.1 200 0 x_.toNat) / 2))], [], sm_aI (sm_aI S_ 213 0 ((S_.2.2.1 199 0 x_.toNat) / 2).toNat (i_neg (S_.1 13 0 127))) 213 0 ((S_.2.2.1 200 0 x_.toNat) / 2).toNat (i_neg (S_.1 13 0 127)))) rfl ?_
              refine sm_T_wk [some (.inr (.inr (some (13, 0)))), some (.inl n_), some (.inl c_), some (.inl x_), some (.inl (x_ - 1)), none, none] (by exact ⟨rfl, rfl, rfl, rfl, rfl, trivial⟩) ?_
              refine ih_.2.1 x_ (x_ - 1) (sm_aI (sm_aI S_ 213 0 ((S_.2.2.1 199 0 x_.toNat) / 2).toNat (i_neg (S_.1 13 0 127))) 213 0 ((S_.2.2.1 200 0 x_.toNat) / 2).toNat (i_neg (S_.1 13 0 127))) hIx31_ hFx32_ ⟨?_, trivial⟩ ?_
              · omega
              · omega
    · rintro le_ x_ S_ hI_ hF_ ⟨h0_, -⟩ hm_
      refine sm_T_go 2 (c1 := (241, [some (.inr (.inr (some (13, 0)))), some (.inl n_), some (.inl c_), some (.inl le_), some (.inl x_), none, none], [.inl n_, .inl x_], S_)) rfl ?_
      refine sm_T_br (a := 4) (z := 53) rfl (fun cx1_ => ?_) (fun cx1_ => ?_)
      · have cx1_ : n_ < x_ := of_decide_eq_true cx1_
        refine sm_T_go 3 (c1 := (299, [some (.inr (.inr (some (13, 0)))), some (.inl n_), some (.inl c_), some (.inl le_), some (.inl x_), none, none], [.inl n_, .inr (.inr (some (214, 0)))], S_)) rfl ?_
        refine sm_T_iald (n := 2048) rfl rfl (by omega) (by omega) ?_
        have bx2_ : 0 ≤ S_.2.2.1 214 0 n_.toNat ∧ S_.2.2.1 214 0 n_.toNat ≤ 255 := hI_.2 214 0 _
        refine sm_T_ri rfl ⟨_, _, rfl, _, rfl, hI_, hF_, ?_⟩
        omega
      · have cx1_ : ¬ (n_ < x_) := of_decide_eq_false cx1_
        refine sm_T_go 3 (c1 := (250, [some (.inr (.inr (some (13, 0)))), some (.inl n_), some (.inl c_), some (.inl le_), some (.inl x_), none, none], [.inl x_, .inr (.inr (some (213, 0)))], S_)) rfl ?_
        refine sm_T_iald (n := 2048) rfl rfl (by omega) (by omega) ?_
        have bx3_ : (-2147483648) ≤ S_.2.2.1 213 0 x_.toNat ∧ S_.2.2.1 213 0 x_.toNat ≤ 2147483647 := hI_.2 213 0 _
        have bx4_ : (-2147483648) ≤ S_.1 13 0 127 ∧ S_.1 13 0 127 ≤ 2147483647 := hI_.1 13 0 127 rfl
        refine sm_T_go 2 (c1 := (255, [some (.inr (.inr (some (13, 0)))), some (.inl n_), some (.inl c_), some (.inl le_), some (.inl x_), none, none], [.inl (S_.1 13 0 127), .inl (S_.2.2.1 213 0 x_.toNat)], S_)) rfl ?_
        refine sm_T_br (a := 1) (z := 33) rfl (fun cx5_ => ?_) (fun cx5_ => ?_)
        · have cx5_ : (S_.2.2.1 213 0 x_.toNat) ≠ (S_.1 13 0 127) := of_decide_eq_true cx5_
          refine sm_T_inc (a := 4) (z := 1) (v := x_) (w := x_ + 1) rfl rfl (by omega) (by omega) (by omega) ?_ -- pc_ 288
          refine sm_T_go 1 (c1 := (238, [some (.inr (.inr (some (13, 0)))), some (.inl n_), some (.inl c_), some (.inl le_), some (.inl (x_ + 1)), none, none], [], S_)) rfl ?_
          refine ih_.2.2 le_ (x_ + 1) S_ hI_ hF_ ⟨?_, trivial⟩ ?_
          · omega
          · omega
        · have cx5_ : ¬ ((S_.2.2.1 213 0 x_.toNat) ≠ (S_.1 13 0 127)) := of_decide_eq_false cx5_
          refine sm_T_go 7 (c1 := (271, [some (.inr (.inr (some (13, 0)))), some (.inl n_), some (.inl c_), some (.inl le_), some (.inl x_), none, none], [.inl x_, .inr (.inr (some (199, 0))), .inr (.inr (some (13, 0))), .inl x_, .inr (.inr (some (214, 0)))], S_)) rfl ?_
          refine sm_T_iald (n := 2048) rfl rfl (by omega) (by omega) ?_
          have bx6_ : 0 ≤ S_.2.2.1 199 0 x_.toNat ∧ S_.2.2.1 199 0 x_.toNat ≤ 2025 := hI_.2 199 0 _
          refine sm_T_cal (d1 := 0) (Q1 := vq_401 (S_.2.2.1 199 0 x_.toNat) S_) rfl rfl (by decide) (vc_401 (S_.2.2.1 199 0 x_.toNat) S_ hI_ (by omega)) (fun u_ Sx7_ px10_ => ?_)
          obtain ⟨rfl, vx12_, rfl, px10_⟩ := px10_
          refine sm_T_go 4 (c1 := (282, [some (.inr (.inr (some (13, 0)))), some (.inl n_), some (.inl c_), some (.inl le_), some (.inl x_), none, none], [.inl x_, .inr (.inr (some (200, 0))), .inr (.inr (some (13, 0))), .inl vx12_, .inl x_, .inr (.inr (some (214, 0)))], S_)) rfl ?_
          refine sm_T_iald (n := 2048) rfl rfl (by omega) (by omega) ?_
          have bx13_ : 0 ≤ S_.2.2.1 200 0 x_.toNat ∧ S_.2.2.1 200 0 x_.toNat ≤ 2025 := hI_.2 200 0 _
          refine sm_T_cal (d1 := 0) (Q1 := vq_401 (S_.2.2.1 200 0 x_.toNat) S_) rfl rfl (by decide) (vc_401 (S_.2.2.1 200 0 x_.toNat) S_ hI_ (by omega)) (fun u_ Sx14_ px17_ => ?_)
          obtain ⟨rfl, vx19_, rfl, px17_⟩ := px17_
          refine sm_T_bin (w := (i_and vx12_ vx19_)) rfl rfl ?_ -- pc_ 286
          first | have bx20_ := i_and_p (x_ := vx12_) (y_ := vx19_) (by omega) (by omega) | have bx20_ := i_and_y vx12_ (y_ := vx19_) (by omega) | have bx20_ := i_and_x (x_ := vx12_) vx19_ (by omega) | have bx20_ := i_and_n vx12_ vx19_
          refine sm_T_iast (n := 2048) rfl rfl (by omega) (by omega) ?_
          have hIx21_ : gi (sm_aI S_ 214 0 x_.toNat (i_and vx12_ vx19_)) := gi_aI hI_ (show 0 ≤ (i_and vx12_ vx19_) ∧ (i_and vx12_ vx19_) ≤ 255 from ⟨by omega, by omega⟩)
          have hFx22_ : ai_fr (sx_W vw_402) S0_ (sm_aI S_ 214 0 x_.toNat (i_and vx12_ vx19_)) := ai_fr_tr hF_ (ai_fr_aI rfl)
          refine sm_T_inc (a := 4) (z := 1) (v := x_) (w := x_ + 1) rfl rfl (by omega) (by omega) (by omega) ?_ -- pc_ 288
          refine sm_T_go 1 (c1 := (238, [some (.inr (.inr (some (13, 0)))), some (.inl n_), some (.inl c_), some (.inl le_), some (.inl (x_ + 1)), none, none], [], sm_aI S_ 214 0 x_.toNat (i_and vx12_ vx19_))) rfl ?_
          refine ih_.2.2 le_ (x_ + 1) (sm_aI S_ 214 0 x_.toNat (i_and vx12_ vx19_)) hIx21_ hFx22_ ⟨?_, trivial⟩ ?_
          · omega
          · omega
set_option maxHeartbeats 1000000 in
set_option maxRecDepth 20000 in
theorem vc_402 {sc_ : Nat × (Nat → Int)} (n_ : Int) (c_ : Int) (S0_ : sm_S) (hI_ : gi S0_) (hn_ : 0 ≤ n_ ∧ n_ ≤ 1012) (hc_ : 0 ≤ c_ ∧ c_ ≤ 63) : sm_T (mt_P sc_) 1 402 (0, [some (.inr (.inr (some (13, 0)))), some (.inl n_), some (.inl c_), none, none, none, none], [], S0_) (fun ro9_ => ∃ u_ S1_, ro9_ = (.inl u_, S1_, 0) ∧ vq_402 n_ c_ S0_ u_ S1_) := by
  have hF_ : ai_fr (sx_W vw_402) S0_ S0_ := ai_fr_rf
  have bx1_ : (-2147483648) ≤ S0_.1 13 0 127 ∧ S0_.1 13 0 127 ≤ 2147483647 := hI_.1 13 0 127 rfl
  refine sm_T_go 4 (c1 := (6, [some (.inr (.inr (some (13, 0)))), some (.inl n_), some (.inl c_), none, none, none, none], [.inl 1, .inl (S0_.1 13 0 127), .inr (.inr (some (13, 0)))], S0_)) rfl ?_
  refine sm_T_bin (w := (i_add (S0_.1 13 0 127) 1)) rfl rfl ?_ -- pc_ 6
  have bx2_ := i_add_r (S0_.1 13 0 127) 1
  have hIx3_ : gi (sm_pI S0_ 13 0 127 (i_add (S0_.1 13 0 127) 1)) := gi_pI hI_ (show (-2147483648) ≤ (i_add (S0_.1 13 0 127) 1) ∧ (i_add (S0_.1 13 0 127) 1) ≤ 2147483647 from ⟨by omega, by omega⟩)
  have hFx4_ : ai_fr (sx_W vw_402) S0_ (sm_pI S0_ 13 0 127 (i_add (S0_.1 13 0 127) 1)) := ai_fr_tr hF_ (ai_fr_pI rfl)
  refine sm_T_go 8 (c1 := (21, [some (.inr (.inr (some (13, 0)))), some (.inl n_), some (.inl c_), some (.inl n_), none, none, none], [.inl (i_add (S0_.1 13 0 127) 1), .inl n_, .inr (.inr (some (213, 0)))], sm_pI S0_ 13 0 127 (i_add (S0_.1 13 0 127) 1))) rfl ?_
  refine sm_T_iast (n := 2048) rfl rfl (by omega) (by omega) ?_
  have hIx5_ : gi (sm_aI (sm_pI S0_ 13 0 127 (i_add (S0_.1 13 0 127) 1)) 213 0 n_.toNat (i_add (S0_.1 13 0 127) 1)) := gi_aI hIx3_ (show (-2147483648) ≤ (i_add (S0_.1 13 0 127) 1) ∧ (i_add (S0_.1 13 0 127) 1) ≤ 2147483647 from ⟨by omega, by omega⟩)
  have hFx6_ : ai_fr (sx_W vw_402) S0_ (sm_aI (sm_pI S0_ 13 0 127 (i_add (S0_.1 13 0 127) 1)) 213 0 n_.toNat (i_add (S0_.1 13 0 127) 1)) := ai_fr_tr hFx4_ (ai_fr_aI rfl)
  refine sm_T_go 2 (c1 := (25, [some (.inr (.inr (some (13, 0)))), some (.inl n_), some (.inl c_), some (.inl n_), some (.inl 0), none, none], [], sm_aI (sm_pI S0_ 13 0 127 (i_add (S0_.1 13 0 127) 1)) 213 0 n_.toNat (i_add (S0_.1 13 0 127) 1))) rfl ?_
  refine (vl_402 n_ c_ S0_ hn_ hc_ _).1 n_ 0 (sm_aI (sm_pI S0_ 13 0 127 (i_add (S0_.1 13 0 127) 1)) 213 0 n_.toNat (i_add (S0_.1 13 0 127) 1)) hIx5_ hFx6_ ⟨?_, trivial⟩ (Nat.lt_succ_self _)
  · omega
/-! M_.inputAt -/
def vw_403 : sx_Wl := ([], [], [])
def vq_403 (sz_ : Int) (or9_ : Int) (k_ : Int) (S0_ : sm_S) (u_ : Option sm_V) (S1_ : sm_S) : Prop := S0_ = S1_ ∧ ∃ v_ : Int, u_ = some (.inl v_) ∧ (v_ = iat sz_ or9_ k_ ∧ 0 ≤ v_ ∧ v_ < sz_)
set_option maxHeartbeats 400000 in
set_option maxRecDepth 20000 in
theorem vc_403 {sc_ : Nat × (Nat → Int)} (sz_ : Int) (or9_ : Int) (k_ : Int) (S0_ : sm_S) (hI_ : gi S0_) (hs_ : 1 ≤ sz_ ∧ sz_ ≤ 3 ∧ 0 ≤ or9_ ∧ or9_ ≤ 5 ∧ 0 ≤ k_ ∧ k_ < sz_) : sm_T (mt_P sc_) 0 403 (0, [some (.inl sz_), some (.inl or9_), some (.inl k_), none, none, none], [], S0_) (fun ro9_ => ∃ u_ S1_, ro9_ = (.inl u_, S1_, 0) ∧ vq_403 sz_ or9_ k_ S0_ u_ S1_) := by
  have hF_ : ai_fr (sx_W vw_403) S0_ S0_ := ai_fr_rf
  refine sm_T_go 2 (c1 := (2, [some (.inl sz_), some (.inl or9_), some (.inl k_), none, none, none], [.inl 3, .inl sz_], S0_)) rfl ?_
  refine sm_T_br (a := 3) (z := 17) rfl (fun cx1_ => ?_) (fun cx1_ => ?_)
  · have cx1_ : 3 ≤ sz_ := of_decide_eq_true cx1_
    refine sm_T_go 2 (c1 := (21, [some (.inl sz_), some (.inl or9_), some (.inl k_), none, none, none], [.inl 2, .inl or9_], S0_)) rfl ?_
    refine sm_T_bin (w := (or9_ / 2)) rfl (bi_div (by omega) (by omega) (by omega) (by omega)) ?_ -- pc_ 21
    refine sm_T_go 2 (c1 := (24, [some (.inl sz_), some (.inl or9_), some (.inl k_), some (.inl (or9_ / 2)), none, none], [.inl (or9_ / 2)], S0_)) rfl ?_
    refine sm_T_b0 (a := 1) (z := 7) rfl (fun cx2_ => ?_) (fun cx2_ => ?_)
    · have cx2_ : (or9_ / 2) ≠ 0 := of_decide_eq_true cx2_
      refine sm_T_go 4 (c1 := (36, [some (.inl sz_), some (.inl or9_), some (.inl k_), some (.inl (or9_ / 2)), some (.inl 0), none], [.inl 2, .inl (or9_ / 2)], S0_)) rfl ?_
      refine sm_T_br (a := 1) (z := 7) rfl (fun cx3_ => ?_) (fun cx3_ => ?_)
      · have cx3_ : (or9_ / 2) ≠ 2 := of_decide_eq_true cx3_
        refine sm_T_go 3 (c1 := (47, [some (.inl sz_), some (.inl or9_), some (.inl k_), some (.inl (or9_ / 2)), some (.inl 0), some (.inl 2)], [.inl k_], S0_)) rfl ?_
        refine sm_T_b0 (a := 1) (z := 7) rfl (fun cx4_ => ?_) (fun cx4_ => ?_)
        · have cx4_ : k_ ≠ 0 := of_decide_eq_true cx4_
          refine sm_T_go 2 (c1 := (56, [some (.inl sz_), some (.inl or9_), some (.inl k_), some (.inl (or9_ / 2)), some (.inl 0), some (.inl 2)], [.inl 1, .inl k_], S0_)) rfl ?_
          refine sm_T_br (a := 1) (z := 7) rfl (fun cx5_ => ?_) (fun cx5_ => ?_)
          · have cx5_ : k_ ≠ 1 := of_decide_eq_true cx5_
            refine sm_T_go 3 (c1 := (66, [some (.inl sz_), some (.inl or9_), some (.inl k_), some (.inl (or9_ / 2)), some (.inl 0), some (.inl 2)], [.inl 2, .inl or9_, .inl 0], S0_)) rfl ?_
            refine sm_T_bin (w := (or9_ % 2)) rfl (bi_rem (by omega) (by omega) (by omega) (by omega)) ?_ -- pc_ 66
            refine sm_T_b0 (a := 1) (z := 7) rfl (fun cx6_ => ?_) (fun cx6_ => ?_)
            · have cx6_ : (or9_ % 2) ≠ 0 := of_decide_eq_true cx6_
              refine sm_T_go 4 (c1 := (85, [some (.inl sz_), some (.inl or9_), some (.inl k_), some (.inl (or9_ / 2)), some (.inl 0), some (.inl 2)], [.inl 0], S0_)) rfl ?_
              refine sm_T_ri rfl ⟨_, _, rfl, rfl, _, rfl, ?_⟩
              refine ⟨?_, by omega, by omega⟩
              unfold iat
              first | (rw [if_pos (by omega)]; first | rw [if_pos (by omega)] | (rw [if_neg (by omega)]; omega)) | (rw [if_neg (by omega)]; first | rw [if_pos (by omega)] | (rw [if_neg (by omega)]; first | (rw [if_pos (by omega)]; first | rw [if_pos (by omega)] | rw [if_neg (by omega)]) | (rw [if_neg (by omega)]; first | rw [if_pos (by omega)] | rw [if_neg (by omega)])))
            · have cx6_ : ¬ ((or9_ % 2) ≠ 0) := of_decide_eq_false cx6_
              refine sm_T_go 4 (c1 := (85, [some (.inl sz_), some (.inl or9_), some (.inl k_), some (.inl (or9_ / 2)), some (.inl 0), some (.inl 2)], [.inl 2], S0_)) rfl ?_
              refine sm_T_ri rfl ⟨_, _, rfl, rfl, _, rfl, ?_⟩
              refine ⟨?_, by omega, by omega⟩
              unfold iat
              first | (rw [if_pos (by omega)]; first | rw [if_pos (by omega)] | (rw [if_neg (by omega)]; omega)) | (rw [if_neg (by omega)]; first | rw [if_pos (by omega)] | (rw [if_neg (by omega)]; first | (rw [if_pos (by omega)]; first | rw [if_pos (by omega)] | rw [if_neg (by omega)]) | (rw [if_neg (by omega)]; first | rw [if_pos (by omega)] | rw [if_neg (by omega)])))
          · have cx5_ : ¬ (k_ ≠ 1) := of_decide_eq_false cx5_
            refine sm_T_go 4 (c1 := (66, [some (.inl sz_), some (.inl or9_), some (.inl k_), some (.inl (or9_ / 2)), some (.inl 0), some (.inl 2)], [.inl 2, .inl or9_, .inl 1], S0_)) rfl ?_
            refine sm_T_bin (w := (or9_ % 2)) rfl (bi_rem (by omega) (by omega) (by omega) (by omega)) ?_ -- pc_ 66
            refine sm_T_b0 (a := 1) (z := 7) rfl (fun cx7_ => ?_) (fun cx7_ => ?_)
            · have cx7_ : (or9_ % 2) ≠ 0 := of_decide_eq_true cx7_
              refine sm_T_go 3 (c1 := (85, [some (.inl sz_), some (.inl or9_), some (.inl k_), some (.inl (or9_ / 2)), some (.inl 0), some (.inl 2)], [.inl 2], S0_)) rfl ?_
              refine sm_T_ri rfl ⟨_, _, rfl, rfl, _, rfl, ?_⟩
              refine ⟨?_, by omega, by omega⟩
              unfold iat
              first | (rw [if_pos (by omega)]; first | rw [if_pos (by omega)] | (rw [if_neg (by omega)]; omega)) | (rw [if_neg (by omega)]; first | rw [if_pos (by omega)] | (rw [if_neg (by omega)]; first | (rw [if_pos (by omega)]; first | rw [if_pos (by omega)] | rw [if_neg (by omega)]) | (rw [if_neg (by omega)]; first | rw [if_pos (by omega)] | rw [if_neg (by omega)])))
            · have cx7_ : ¬ ((or9_ % 2) ≠ 0) := of_decide_eq_false cx7_
              refine sm_T_go 5 (c1 := (85, [some (.inl sz_), some (.inl or9_), some (.inl k_), some (.inl (or9_ / 2)), some (.inl 0), some (.inl 2)], [.inl 0], S0_)) rfl ?_
              refine sm_T_ri rfl ⟨_, _, rfl, rfl, _, rfl, ?_⟩
              refine ⟨?_, by omega, by omega⟩
              unfold iat
              first | (rw [if_pos (by omega)]; first | rw [if_pos (by omega)] | (rw [if_neg (by omega)]; omega)) | (rw [if_neg (by omega)]; first | rw [if_pos (by omega)] | (rw [if_neg (by omega)]; first | (rw [if_pos (by omega)]; first | rw [if_pos (by omega)] | rw [if_neg (by omega)]) | (rw [if_neg (by omega)]; first | rw [if_pos (by omega)] | rw [if_neg (by omega)])))
        · have cx4_ : ¬ (k_ ≠ 0) := of_decide_eq_false cx4_
          refine sm_T_go 2 (c1 := (85, [some (.inl sz_), some (.inl or9_), some (.inl k_), some (.inl (or9_ / 2)), some (.inl 0), some (.inl 2)], [.inl (or9_ / 2)], S0_)) rfl ?_
          refine sm_T_ri rfl ⟨_, _, rfl, rfl, _, rfl, ?_⟩
          refine ⟨?_, by omega, by omega⟩
          unfold iat
          first | (rw [if_pos (by omega)]; first | rw [if_pos (by omega)] | (rw [if_neg (by omega)]; omega)) | (rw [if_neg (by omega)]; first | rw [if_pos (by omega)] | (rw [if_neg (by omega)]; first | (rw [if_pos (by omega)]; first | rw [if_pos (by omega)] | rw [if_neg (by omega)]) | (rw [if_neg (by omega)]; first | rw [if_pos (by omega)] | rw [if_neg (by omega)])))
      · have cx3_ : ¬ ((or9_ / 2) ≠ 2) := of_decide_eq_false cx3_
        refine sm_T_go 4 (c1 := (47, [some (.inl sz_), some (.inl or9_), some (.inl k_), some (.inl (or9_ / 2)), some (.inl 0), some (.inl 1)], [.inl k_], S0_)) rfl ?_
        refine sm_T_b0 (a := 1) (z := 7) rfl (fun cx8_ => ?_) (fun cx8_ => ?_)
        · have cx8_ : k_ ≠ 0 := of_decide_eq_true cx8_
          refine sm_T_go 2 (c1 := (56, [some (.inl sz_), some (.inl or9_), some (.inl k_), some (.inl (or9_ / 2)), some (.inl 0), some (.inl 1)], [.inl 1, .inl k_], S0_)) rfl ?_
          refine sm_T_br (a := 1) (z := 7) rfl (fun cx9_ => ?_) (fun cx9_ => ?_)
          · have cx9_ : k_ ≠ 1 := of_decide_eq_true cx9_
            refine sm_T_go 3 (c1 := (66, [some (.inl sz_), some (.inl or9_), some (.inl k_), some (.inl (or9_ / 2)), some (.inl 0), some (.inl 1)], [.inl 2, .inl or9_, .inl 0], S0_)) rfl ?_
            refine sm_T_bin (w := (or9_ % 2)) rfl (bi_rem (by omega) (by omega) (by omega) (by omega)) ?_ -- pc_ 66
            refine sm_T_b0 (a := 1) (z := 7) rfl (fun cx10_ => ?_) (fun cx10_ => ?_)
            · have cx10_ : (or9_ % 2) ≠ 0 := of_decide_eq_true cx10_
              refine sm_T_go 4 (c1 := (85, [some (.inl sz_), some (.inl or9_), some (.inl k_), some (.inl (or9_ / 2)), some (.inl 0), some (.inl 1)], [.inl 0], S0_)) rfl ?_
              refine sm_T_ri rfl ⟨_, _, rfl, rfl, _, rfl, ?_⟩
              refine ⟨?_, by omega, by omega⟩
              unfold iat
              first | (rw [if_pos (by omega)]; first | rw [if_pos (by omega)] | (rw [if_neg (by omega)]; omega)) | (rw [if_neg (by omega)]; first | rw [if_pos (by omega)] | (rw [if_neg (by omega)]; first | (rw [if_pos (by omega)]; first | rw [if_pos (by omega)] | rw [if_neg (by omega)]) | (rw [if_neg (by omega)]; first | rw [if_pos (by omega)] | rw [if_neg (by omega)])))
            · have cx10_ : ¬ ((or9_ % 2) ≠ 0) := of_decide_eq_false cx10_
              refine sm_T_go 4 (c1 := (85, [some (.inl sz_), some (.inl or9_), some (.inl k_), some (.inl (or9_ / 2)), some (.inl 0), some (.inl 1)], [.inl 1], S0_)) rfl ?_
              refine sm_T_ri rfl ⟨_, _, rfl, rfl, _, rfl, ?_⟩
              refine ⟨?_, by omega, by omega⟩
              unfold iat
              first | (rw [if_pos (by omega)]; first | rw [if_pos (by omega)] | (rw [if_neg (by omega)]; omega)) | (rw [if_neg (by omega)]; first | rw [if_pos (by omega)] | (rw [if_neg (by omega)]; first | (rw [if_pos (by omega)]; first | rw [if_pos (by omega)] | rw [if_neg (by omega)]) | (rw [if_neg (by omega)]; first | rw [if_pos (by omega)] | rw [if_neg (by omega)])))
          · have cx9_ : ¬ (k_ ≠ 1) := of_decide_eq_false cx9_
            refine sm_T_go 4 (c1 := (66, [some (.inl sz_), some (.inl or9_), some (.inl k_), some (.inl (or9_ / 2)), some (.inl 0), some (.inl 1)], [.inl 2, .inl or9_, .inl 1], S0_)) rfl ?_
            refine sm_T_bin (w := (or9_ % 2)) rfl (bi_rem (by omega) (by omega) (by omega) (by omega)) ?_ -- pc_ 66
            refine sm_T_b0 (a := 1) (z := 7) rfl (fun cx11_ => ?_) (fun cx11_ => ?_)
            · have cx11_ : (or9_ % 2) ≠ 0 := of_decide_eq_true cx11_
              refine sm_T_go 3 (c1 := (85, [some (.inl sz_), some (.inl or9_), some (.inl k_), some (.inl (or9_ / 2)), some (.inl 0), some (.inl 1)], [.inl 1], S0_)) rfl ?_
              refine sm_T_ri rfl ⟨_, _, rfl, rfl, _, rfl, ?_⟩
              refine ⟨?_, by omega, by omega⟩
              unfold iat
              first | (rw [if_pos (by omega)]; first | rw [if_pos (by omega)] | (rw [if_neg (by omega)]; omega)) | (rw [if_neg (by omega)]; first | rw [if_pos (by omega)] | (rw [if_neg (by omega)]; first | (rw [if_pos (by omega)]; first | rw [if_pos (by omega)] | rw [if_neg (by omega)]) | (rw [if_neg (by omega)]; first | rw [if_pos (by omega)] | rw [if_neg (by omega)])))
            · have cx11_ : ¬ ((or9_ % 2) ≠ 0) := of_decide_eq_false cx11_
              refine sm_T_go 5 (c1 := (85, [some (.inl sz_), some (.inl or9_), some (.inl k_), some (.inl (or9_ / 2)), some (.inl 0), some (.inl 1)], [.inl 0], S0_)) rfl ?_
              refine sm_T_ri rfl ⟨_, _, rfl, rfl, _, rfl, ?_⟩
              refine ⟨?_, by omega, by omega⟩
              unfold iat
              first | (rw [if_pos (by omega)]; first | rw [if_pos (by omega)] | (rw [if_neg (by omega)]; omega)) | (rw [if_neg (by omega)]; first | rw [if_pos (by omega)] | (rw [if_neg (by omega)]; first | (rw [if_pos (by omega)]; first | rw [if_pos (by omega)] | rw [if_neg (by omega)]) | (rw [if_neg (by omega)]; first | rw [if_pos (by omega)] | rw [if_neg (by omega)])))
        · have cx8_ : ¬ (k_ ≠ 0) := of_decide_eq_false cx8_
          refine sm_T_go 2 (c1 := (85, [some (.inl sz_), some (.inl or9_), some (.inl k_), some (.inl (or9_ / 2)), some (.inl 0), some (.inl 1)], [.inl (or9_ / 2)], S0_)) rfl ?_
          refine sm_T_ri rfl ⟨_, _, rfl, rfl, _, rfl, ?_⟩
          refine ⟨?_, by omega, by omega⟩
          unfold iat
          first | (rw [if_pos (by omega)]; first | rw [if_pos (by omega)] | (rw [if_neg (by omega)]; omega)) | (rw [if_neg (by omega)]; first | rw [if_pos (by omega)] | (rw [if_neg (by omega)]; first | (rw [if_pos (by omega)]; first | rw [if_pos (by omega)] | rw [if_neg (by omega)]) | (rw [if_neg (by omega)]; first | rw [if_pos (by omega)] | rw [if_neg (by omega)])))
    · have cx2_ : ¬ ((or9_ / 2) ≠ 0) := of_decide_eq_false cx2_
      refine sm_T_go 5 (c1 := (36, [some (.inl sz_), some (.inl or9_), some (.inl k_), some (.inl (or9_ / 2)), some (.inl 1), none], [.inl 2, .inl (or9_ / 2)], S0_)) rfl ?_
      refine sm_T_br (a := 1) (z := 7) rfl (fun cx12_ => ?_) (fun cx12_ => ?_)
      · have cx12_ : (or9_ / 2) ≠ 2 := of_decide_eq_true cx12_
        refine sm_T_go 3 (c1 := (47, [some (.inl sz_), some (.inl or9_), some (.inl k_), some (.inl (or9_ / 2)), some (.inl 1), some (.inl 2)], [.inl k_], S0_)) rfl ?_
        refine sm_T_b0 (a := 1) (z := 7) rfl (fun cx13_ => ?_) (fun cx13_ => ?_)
        · have cx13_ : k_ ≠ 0 := of_decide_eq_true cx13_
          refine sm_T_go 2 (c1 := (56, [some (.inl sz_), some (.inl or9_), some (.inl k_), some (.inl (or9_ / 2)), some (.inl 1), some (.inl 2)], [.inl 1, .inl k_], S0_)) rfl ?_
          refine sm_T_br (a := 1) (z := 7) rfl (fun cx14_ => ?_) (fun cx14_ => ?_)
          · have cx14_ : k_ ≠ 1 := of_decide_eq_true cx14_
            refine sm_T_go 3 (c1 := (66, [some (.inl sz_), some (.inl or9_), some (.inl k_), some (.inl (or9_ / 2)), some (.inl 1), some (.inl 2)], [.inl 2, .inl or9_, .inl 0], S0_)) rfl ?_
            refine sm_T_bin (w := (or9_ % 2)) rfl (bi_rem (by omega) (by omega) (by omega) (by omega)) ?_ -- pc_ 66
            refine sm_T_b0 (a := 1) (z := 7) rfl (fun cx15_ => ?_) (fun cx15_ => ?_)
            · have cx15_ : (or9_ % 2) ≠ 0 := of_decide_eq_true cx15_
              refine sm_T_go 4 (c1 := (85, [some (.inl sz_), some (.inl or9_), some (.inl k_), some (.inl (or9_ / 2)), some (.inl 1), some (.inl 2)], [.inl 1], S0_)) rfl ?_
              refine sm_T_ri rfl ⟨_, _, rfl, rfl, _, rfl, ?_⟩
              refine ⟨?_, by omega, by omega⟩
              unfold iat
              first | (rw [if_pos (by omega)]; first | rw [if_pos (by omega)] | (rw [if_neg (by omega)]; omega)) | (rw [if_neg (by omega)]; first | rw [if_pos (by omega)] | (rw [if_neg (by omega)]; first | (rw [if_pos (by omega)]; first | rw [if_pos (by omega)] | rw [if_neg (by omega)]) | (rw [if_neg (by omega)]; first | rw [if_pos (by omega)] | rw [if_neg (by omega)])))
            · have cx15_ : ¬ ((or9_ % 2) ≠ 0) := of_decide_eq_false cx15_
              refine sm_T_go 4 (c1 := (85, [some (.inl sz_), some (.inl or9_), some (.inl k_), some (.inl (or9_ / 2)), some (.inl 1), some (.inl 2)], [.inl 2], S0_)) rfl ?_
              refine sm_T_ri rfl ⟨_, _, rfl, rfl, _, rfl, ?_⟩
              refine ⟨?_, by omega, by omega⟩
              unfold iat
              first | (rw [if_pos (by omega)]; first | rw [if_pos (by omega)] | (rw [if_neg (by omega)]; omega)) | (rw [if_neg (by omega)]; first | rw [if_pos (by omega)] | (rw [if_neg (by omega)]; first | (rw [if_pos (by omega)]; first | rw [if_pos (by omega)] | rw [if_neg (by omega)]) | (rw [if_neg (by omega)]; first | rw [if_pos (by omega)] | rw [if_neg (by omega)])))
          · have cx14_ : ¬ (k_ ≠ 1) := of_decide_eq_false cx14_
            refine sm_T_go 4 (c1 := (66, [some (.inl sz_), some (.inl or9_), some (.inl k_), some (.inl (or9_ / 2)), some (.inl 1), some (.inl 2)], [.inl 2, .inl or9_, .inl 1], S0_)) rfl ?_
            refine sm_T_bin (w := (or9_ % 2)) rfl (bi_rem (by omega) (by omega) (by omega) (by omega)) ?_ -- pc_ 66
            refine sm_T_b0 (a := 1) (z := 7) rfl (fun cx16_ => ?_) (fun cx16_ => ?_)
            · have cx16_ : (or9_ % 2) ≠ 0 := of_decide_eq_true cx16_
              refine sm_T_go 3 (c1 := (85, [some (.inl sz_), some (.inl or9_), some (.inl k_), some (.inl (or9_ / 2)), some (.inl 1), some (.inl 2)], [.inl 2], S0_)) rfl ?_
              refine sm_T_ri rfl ⟨_, _, rfl, rfl, _, rfl, ?_⟩
              refine ⟨?_, by omega, by omega⟩
              unfold iat
              first | (rw [if_pos (by omega)]; first | rw [if_pos (by omega)] | (rw [if_neg (by omega)]; omega)) | (rw [if_neg (by omega)]; first | rw [if_pos (by omega)] | (rw [if_neg (by omega)]; first | (rw [if_pos (by omega)]; first | rw [if_pos (by omega)] | rw [if_neg (by omega)]) | (rw [if_neg (by omega)]; first | rw [if_pos (by omega)] | rw [if_neg (by omega)])))
            · have cx16_ : ¬ ((or9_ % 2) ≠ 0) := of_decide_eq_false cx16_
              refine sm_T_go 5 (c1 := (85, [some (.inl sz_), some (.inl or9_), some (.inl k_), some (.inl (or9_ / 2)), some (.inl 1), some (.inl 2)], [.inl 1], S0_)) rfl ?_
              refine sm_T_ri rfl ⟨_, _, rfl, rfl, _, rfl, ?_⟩
              refine ⟨?_, by omega, by omega⟩
              unfold iat
              first | (rw [if_pos (by omega)]; first | rw [if_pos (by omega)] | (rw [if_neg (by omega)]; omega)) | (rw [if_neg (by omega)]; first | rw [if_pos (by omega)] | (rw [if_neg (by omega)]; first | (rw [if_pos (by omega)]; first | rw [if_pos (by omega)] | rw [if_neg (by omega)]) | (rw [if_neg (by omega)]; first | rw [if_pos (by omega)] | rw [if_neg (by omega)])))
        · have cx13_ : ¬ (k_ ≠ 0) := of_decide_eq_false cx13_
          refine sm_T_go 2 (c1 := (85, [some (.inl sz_), some (.inl or9_), some (.inl k_), some (.inl (or9_ / 2)), some (.inl 1), some (.inl 2)], [.inl (or9_ / 2)], S0_)) rfl ?_
          refine sm_T_ri rfl ⟨_, _, rfl, rfl, _, rfl, ?_⟩
          refine ⟨?_, by omega, by omega⟩
          unfold iat
          first | (rw [if_pos (by omega)]; first | rw [if_pos (by omega)] | (rw [if_neg (by omega)]; omega)) | (rw [if_neg (by omega)]; first | rw [if_pos (by omega)] | (rw [if_neg (by omega)]; first | (rw [if_pos (by omega)]; first | rw [if_pos (by omega)] | rw [if_neg (by omega)]) | (rw [if_neg (by omega)]; first | rw [if_pos (by omega)] | rw [if_neg (by omega)])))
      · have cx12_ : ¬ ((or9_ / 2) ≠ 2) := of_decide_eq_false cx12_
        exfalso; omega
  · have cx1_ : ¬ (3 ≤ sz_) := of_decide_eq_false cx1_
    refine sm_T_go 1 (c1 := (6, [some (.inl sz_), some (.inl or9_), some (.inl k_), none, none, none], [.inl or9_], S0_)) rfl ?_
    refine sm_T_b0 (a := 1) (z := 7) rfl (fun cx17_ => ?_) (fun cx17_ => ?_)
    · have cx17_ : or9_ ≠ 0 := of_decide_eq_true cx17_
      refine sm_T_go 2 (c1 := (15, [some (.inl sz_), some (.inl or9_), some (.inl k_), none, none, none], [.inl 1, .inl sz_], S0_)) rfl ?_
      refine sm_T_bin (w := sz_ - 1) rfl (bi_sub (by omega) (by omega) (by omega)) ?_ -- pc_ 15
      refine sm_T_go 1 (c1 := (17, [some (.inl sz_), some (.inl or9_), some (.inl k_), none, none, none], [.inl k_, .inl (sz_ - 1)], S0_)) rfl ?_
      refine sm_T_bin (w := sz_ - k_ - 1) rfl (bi_sub (by omega) (by omega) (by omega)) ?_ -- pc_ 17
      refine sm_T_ri rfl ⟨_, _, rfl, rfl, _, rfl, ?_⟩
      refine ⟨?_, by omega, by omega⟩
      unfold iat
      first | (rw [if_pos (by omega)]; first | rw [if_pos (by omega)] | (rw [if_neg (by omega)]; omega)) | (rw [if_neg (by omega)]; first | rw [if_pos (by omega)] | (rw [if_neg (by omega)]; first | (rw [if_pos (by omega)]; first | rw [if_pos (by omega)] | rw [if_neg (by omega)]) | (rw [if_neg (by omega)]; first | rw [if_pos (by omega)] | rw [if_neg (by omega)])))
    · have cx17_ : ¬ (or9_ ≠ 0) := of_decide_eq_false cx17_
      refine sm_T_go 2 (c1 := (18, [some (.inl sz_), some (.inl or9_), some (.inl k_), none, none, none], [.inl k_], S0_)) rfl ?_
      refine sm_T_ri rfl ⟨_, _, rfl, rfl, _, rfl, ?_⟩
      refine ⟨?_, by omega, by omega⟩
      unfold iat
      first | (rw [if_pos (by omega)]; first | rw [if_pos (by omega)] | (rw [if_neg (by omega)]; omega)) | (rw [if_neg (by omega)]; first | rw [if_pos (by omega)] | (rw [if_neg (by omega)]; first | (rw [if_pos (by omega)]; first | rw [if_pos (by omega)] | rw [if_neg (by omega)]) | (rw [if_neg (by omega)]; first | rw [if_pos (by omega)] | rw [if_neg (by omega)])))
end
