/-! 99.zs6 -/
section
/-! the reference: cuts; written by wip/p55/gen/vg -/

/-! the_ reference: cuts -/
def ctp (P_ : Int → Prop) (S_ : sm_S) : Prop := ∀ c_ : Int, 0 ≤ c_ → c_ < S_.1 13 0 114 → 1 ≤ S_.2.2.1 204 0 c_.toNat ∧ ∀ k_ : Int, 0 ≤ k_ → k_ < S_.2.2.1 204 0 c_.toNat → P_ (S_.2.2.1 205 0 (3 * c_ + k_).toNat)
def trp (P_ : Int → Prop) (S_ : sm_S) : Prop := ∀ k_ : Int, 0 ≤ k_ → k_ < S_.1 13 0 123 → P_ (S_.2.2.1 212 0 k_.toNat)
theorem ctp_fr {w_ : sx_Wl} {P_ : Int → Prop} {S_ S'_ : sm_S} (h_ : ctp P_ S_) (g_ : ai_fr (sx_W w_) S_ S'_) (h1_ : (sx_W w_).1 13 114 = false := by rfl) (h2_ : (sx_W w_).2.1 204 = false := by rfl) (h3_ : (sx_W w_).2.1 205 = false := by rfl) : ctp P_ S'_ := by
  unfold ctp
  rw [g_.1 13 0 114 h1_, fr_arr g_ h2_, fr_arr g_ h3_]
  exact h_
theorem trp_fr {w_ : sx_Wl} {P_ : Int → Prop} {S_ S'_ : sm_S} (h_ : trp P_ S_) (g_ : ai_fr (sx_W w_) S_ S'_) (h1_ : (sx_W w_).1 13 123 = false := by rfl) (h2_ : (sx_W w_).2.1 212 = false := by rfl) : trp P_ S'_ := by
  unfold trp
  rw [g_.1 13 0 123 h1_, fr_arr g_ h2_]
  exact h_
/-- a_ leaf that may_ stand in a_ cut_ of_ n_ -/
def cnd9 (n_ : Int) (u_ : Nat → Int) (x_ : Int) : Prop := 1 ≤ x_ ∧ x_ < n_ ∧ u_ x_.toNat = 1
def iat (sz_ o_ k_ : Int) : Int := if sz_ < 3 then (if o_ = 0 then k_ else sz_ - 1 - k_) else if k_ = 0 then o_ / 2 else if (k_ = 1 ∧ o_ % 2 = 0) ∨ (k_ ≠ 1 ∧ o_ % 2 ≠ 0) then (if o_ / 2 = 0 then 1 else 0) else (if o_ / 2 = 2 then 1 else 2)
def cst (F_ : Int) (S_ : sm_S) (x_ t_ : Int) : Int := if F_ ≤ x_ ∧ S_.2.2.1 203 0 x_.toNat = 0 then S_.2.2.1 210 0 (2 * x_ + t_).toNat else if t_ = 0 then 0 else S_.1 13 0 108
/-! M_.isInner -/
def vw_395 : sx_Wl := ([], [], [])
def vq_395 (n_ : Int) (F_ : Int) (S0_ : sm_S) (u_ : Option sm_V) (S1_ : sm_S) : Prop := S0_ = S1_ ∧ ∃ v_ : Int, u_ = some (.inl v_) ∧ ((v_ = 1 ∧ F_ ≤ n_ ∧ S0_.2.2.1 203 0 n_.toNat = 0) ∨ (v_ = 0 ∧ (n_ < F_ ∨ S0_.2.2.1 203 0 n_.toNat = 1)))
set_option maxHeartbeats 400000 in
set_option maxRecDepth 20000 in
theorem vc_395 {sc_ : Nat × (Nat → Int)} (n_ : Int) (F_ : Int) (S0_ : sm_S) (hI_ : gi S0_) (hf_ : S0_.2.2.1 160 0 (S0_.1 13 0 105).toNat = F_) (hn_ : 0 ≤ n_ ∧ n_ ≤ 2047) : sm_T (mt_P sc_) 0 395 (0, [some (.inr (.inr (some (13, 0)))), some (.inl n_)], [], S0_) (fun ro9_ => ∃ u_ S1_, ro9_ = (.inl u_, S1_, 0) ∧ vq_395 n_ F_ S0_ u_ S1_) := by
  have hF_ : ai_fr (sx_W vw_395) S0_ S0_ := ai_fr_rf
  have bx1_ : 0 ≤ S0_.1 13 0 105 ∧ S0_.1 13 0 105 ≤ 5 := hI_.1 13 0 105 rfl
  refine sm_T_go 5 (c1 := (9, [some (.inr (.inr (some (13, 0)))), some (.inl n_)], [.inl (S0_.1 13 0 105), .inr (.inr (some (160, 0))), .inl n_], S0_)) rfl ?_
  refine sm_T_iald (n := 6) rfl rfl (by omega) (by omega) ?_
  have bx2_ : 0 ≤ S0_.2.2.1 160 0 (S0_.1 13 0 105).toNat ∧ S0_.2.2.1 160 0 (S0_.1 13 0 105).toNat ≤ 19 := hI_.2 160 0 _
  refine sm_T_br (a := 2) (z := 16) rfl (fun cx3_ => ?_) (fun cx3_ => ?_)
  · have cx3_ : n_ < (S0_.2.2.1 160 0 (S0_.1 13 0 105).toNat) := of_decide_eq_true cx3_
    refine sm_T_go 1 (c1 := (27, [some (.inr (.inr (some (13, 0)))), some (.inl n_)], [.inl 0], S0_)) rfl ?_
    refine sm_T_rz rfl (by omega) ⟨_, _, rfl, rfl, _, rfl, ?_⟩
    omega
  · have cx3_ : ¬ (n_ < (S0_.2.2.1 160 0 (S0_.1 13 0 105).toNat)) := of_decide_eq_false cx3_
    refine sm_T_go 3 (c1 := (18, [some (.inr (.inr (some (13, 0)))), some (.inl n_)], [.inl n_, .inr (.inr (some (203, 0)))], S0_)) rfl ?_
    refine sm_T_zald (n := 2048) rfl rfl (by omega) (by omega) ?_
    have bx4_ : 0 ≤ S0_.2.2.1 203 0 n_.toNat ∧ S0_.2.2.1 203 0 n_.toNat ≤ 1 := hI_.2 203 0 _
    refine sm_T_b0 (a := 1) (z := 7) rfl (fun cx5_ => ?_) (fun cx5_ => ?_)
    · have cx5_ : (S0_.2.2.1 203 0 n_.toNat) ≠ 0 := of_decide_eq_true cx5_
      refine sm_T_go 1 (c1 := (27, [some (.inr (.inr (some (13, 0)))), some (.inl n_)], [.inl 0], S0_)) rfl ?_
      refine sm_T_rz rfl (by omega) ⟨_, _, rfl, rfl, _, rfl, ?_⟩
      omega
    · have cx5_ : ¬ ((S0_.2.2.1 203 0 n_.toNat) ≠ 0) := of_decide_eq_false cx5_
      refine sm_T_go 2 (c1 := (27, [some (.inr (.inr (some (13, 0)))), some (.inl n_)], [.inl 1], S0_)) rfl ?_
      refine sm_T_rz rfl (by omega) ⟨_, _, rfl, rfl, _, rfl, ?_⟩
      omega
/-! M_.put -/
/-! M_.keepCut -/
/-! M_.isCutBefore -/
/-! M_.swapCuts -/
/-! M_.findCuts -/
/-! M_.tableOf -/
/-! M_.functionOver -/
/-! M_.inputAt -/
def vw_403 : sx_Wl := ([], [], [])
def vq_403 (sz_ : Int) (or9_ : Int) (k_ : Int) (S0_ : sm_S) (u_ : Option sm_V) (S1_ : sm_S) : Prop := S0_ = S1_ ∧ ∃ v_ : Int, u_ = some (.inl v_) ∧ (v_ = iat sz_ or9_ k_ ∧ 0 ≤ v_ ∧ v_ < sz_)
set_option maxHeartbeats 400000 in
set_option maxRecDepth 20000 in
theorem vc_403 {sc_ : Nat × (Nat → Int)} (sz_ : Int) (or9_ : Int) (k_ : Int) (S0_ : sm_S) (hI_ : gi S0_) (hs_ : 1 ≤ sz_ ∧ sz_ ≤ 3 ∧ 0 ≤ or9_ ∧ or9_ ≤ 5 ∧ 0 ≤ k_ ∧ k_ < sz_) : sm_T (mt_P sc_) 0 403 (0, [some (.inl sz_), some (.inl or9_), some (.inl k_), none, none, none], [], S0_) (fun ro9_ => ∃ u_ S1_, ro9_ = (.inl u_, S1_, 0) ∧ vq_403 sz_ or9_ k_ S0_ u_ S1_) := by
  have hF_ : ai_fr (sx_W vw_403) S0_ S0_ := ai_fr_rf
  refine sm_T_go 2 (c1 := (2, [some (.inl sz_), some (.inl or9_), some (.inl k_), none, none, none], [.inl 3, .inl sz_], S0_)) rfl ?_
  refine sm_T_br (a := 3) (z := 17) rfl (fun cx1_ => ?_) (fun cx1_ => ?_)
  · have cx1_ : 3 ≤ sz_ := of_decide_eq_true cx1_
    refine sm_T_go 2 (c1 := (21, [some (.inl sz_), some (.inl or9_), some (.inl k_), none, none, none], [.inl 2, .inl or9_], S0_)) rfl ?_
    refine sm_T_bin (w := (or9_ / 2)) rfl (bi_div (by omega) (by omega) (by omega) (by omega)) ?_ -- pc_ 21
    refine sm_T_go 2 (c1 := (24, [some (.inl sz_), some (.inl or9_), some (.inl k_), some (.inl (or9_ / 2)), none, none], [.inl (or9_ / 2)], S0_)) rfl ?_
    refine sm_T_b0 (a := 1) (z := 7) rfl (fun cx2_ => ?_) (fun cx2_ => ?_)
    · have cx2_ : (or9_ / 2) ≠ 0 := of_decide_eq_true cx2_
      refine sm_T_go 4 (c1 := (36, [some (.inl sz_), some (.inl or9_), some (.inl k_), some (.inl (or9_ / 2)), some (.inl 0), none], [.inl 2, .inl (or9_ / 2)], S0_)) rfl ?_
      refine sm_T_br (a := 1) (z := 7) rfl (fun cx3_ => ?_) (fun cx3_ => ?_)
      · have cx3_ : (or9_ / 2) ≠ 2 := of_decide_eq_true cx3_
        refine sm_T_go 3 (c1 := (47, [some (.inl sz_), some (.inl or9_), some (.inl k_), some (.inl (or9_ / 2)), some (.inl 0), some (.inl 2)], [.inl k_], S0_)) rfl ?_
        refine sm_T_b0 (a := 1) (z := 7) rfl (fun cx4_ => ?_) (fun cx4_ => ?_)
        · have cx4_ : k_ ≠ 0 := of_decide_eq_true cx4_
          refine sm_T_go 2 (c1 := (56, [some (.inl sz_), some (.inl or9_), some (.inl k_), some (.inl (or9_ / 2)), some (.inl 0), some (.inl 2)], [.inl 1, .inl k_], S0_)) rfl ?_
          refine sm_T_br (a := 1) (z := 7) rfl (fun cx5_ => ?_) (fun cx5_ => ?_)
          · have cx5_ : k_ ≠ 1 := of_decide_eq_true cx5_
            refine sm_T_go 3 (c1 := (66, [some (.inl sz_), some (.inl or9_), some (.inl k_), some (.inl (or9_ / 2)), some (.inl 0), some (.inl 2)], [.inl 2, .inl or9_, .inl 0], S0_)) rfl ?_
            refine sm_T_bin (w := (or9_ % 2)) rfl (bi_rem (by omega) (by omega) (by omega) (by omega)) ?_ -- pc_ 66
            refine sm_T_b0 (a := 1) (z := 7) rfl (fun cx6_ => ?_) (fun cx6_ => ?_)
            · have cx6_ : (or9_ % 2) ≠ 0 := of_decide_eq_true cx6_
              refine sm_T_go 4 (c1 := (85, [some (.inl sz_), some (.inl or9_), some (.inl k_), some (.inl (or9_ / 2)), some (.inl 0), some (.inl 2)], [.inl 0], S0_)) rfl ?_
              refine sm_T_ri rfl ⟨_, _, rfl, rfl, _, rfl, ?_⟩
              refine ⟨?_, by omega, by omega⟩
              unfold iat
              first | (rw [if_pos (by omega)]; first | rw [if_pos (by omega)] | (rw [if_neg (by omega)]; omega)) | (rw [if_neg (by omega)]; first | rw [if_pos (by omega)] | (rw [if_neg (by omega)]; first | (rw [if_pos (by omega)]; first | rw [if_pos (by omega)] | rw [if_neg (by omega)]) | (rw [if_neg (by omega)]; first | rw [if_pos (by omega)] | rw [if_neg (by omega)])))
            · have cx6_ : ¬ ((or9_ % 2) ≠ 0) := of_decide_eq_false cx6_
              refine sm_T_go 4 (c1 := (85, [some (.inl sz_), some (.inl or9_), some (.inl k_), some (.inl (or9_ / 2)), some (.inl 0), some (.inl 2)], [.inl 2], S0_)) rfl ?_
              refine sm_T_ri rfl ⟨_, _, rfl, rfl, _, rfl, ?_⟩
              refine ⟨?_, by omega, by omega⟩
              unfold iat
              first | (rw [if_pos (by omega)]; first | rw [if_pos (by omega)] | (rw [if_neg (by omega)]; omega)) | (rw [if_neg (by omega)]; first | rw [if_pos (by omega)] | (rw [if_neg (by omega)]; first | (rw [if_pos (by omega)]; first | rw [if_pos (by omega)] | rw [if_neg (by omega)]) | (rw [if_neg (by omega)]; first | rw [if_pos (by omega)] | rw [if_neg (by omega)])))
          · have cx5_ : ¬ (k_ ≠ 1) := of_decide_eq_false cx5_
            refine sm_T_go 4 (c1 := (66, [some (.inl sz_), some (.inl or9_), some (.inl k_), some (.inl (or9_ / 2)), some (.inl 0), some (.inl 2)], [.inl 2, .inl or9_, .inl 1], S0_)) rfl ?_
            refine sm_T_bin (w := (or9_ % 2)) rfl (bi_rem (by omega) (by omega) (by omega) (by omega)) ?_ -- pc_ 66
            refine sm_T_b0 (a := 1) (z := 7) rfl (fun cx7_ => ?_) (fun cx7_ => ?_)
            · have cx7_ : (or9_ % 2) ≠ 0 := of_decide_eq_true cx7_
              refine sm_T_go 3 (c1 := (85, [some (.inl sz_), some (.inl or9_), some (.inl k_), some (.inl (or9_ / 2)), some (.inl 0), some (.inl 2)], [.inl 2], S0_)) rfl ?_
              refine sm_T_ri rfl ⟨_, _, rfl, rfl, _, rfl, ?_⟩
              refine ⟨?_, by omega, by omega⟩
              unfold iat
              first | (rw [if_pos (by omega)]; first | rw [if_pos (by omega)] | (rw [if_neg (by omega)]; omega)) | (rw [if_neg (by omega)]; first | rw [if_pos (by omega)] | (rw [if_neg (by omega)]; first | (rw [if_pos (by omega)]; first | rw [if_pos (by omega)] | rw [if_neg (by omega)]) | (rw [if_neg (by omega)]; first | rw [if_pos (by omega)] | rw [if_neg (by omega)])))
            · have cx7_ : ¬ ((or9_ % 2) ≠ 0) := of_decide_eq_false cx7_
              refine sm_T_go 5 (c1 := (85, [some (.inl sz_), some (.inl or9_), some (.inl k_), some (.inl (or9_ / 2)), some (.inl 0), some (.inl 2)], [.inl 0], S0_)) rfl ?_
              refine sm_T_ri rfl ⟨_, _, rfl, rfl, _, rfl, ?_⟩
              refine ⟨?_, by omega, by omega⟩
              unfold iat
              first | (rw [if_pos (by omega)]; first | rw [if_pos (by omega)] | (rw [if_neg (by omega)]; omega)) | (rw [if_neg (by omega)]; first | rw [if_pos (by omega)] | (rw [if_neg (by omega)]; first | (rw [if_pos (by omega)]; first | rw [if_pos (by omega)] | rw [if_neg (by omega)]) | (rw [if_neg (by omega)]; first | rw [if_pos (by omega)] | rw [if_neg (by omega)])))
        · have cx4_ : ¬ (k_ ≠ 0) := of_decide_eq_false cx4_
          refine sm_T_go 2 (c1 := (85, [some (.inl sz_), some (.inl or9_), some (.inl k_), some (.inl (or9_ / 2)), some (.inl 0), some (.inl 2)], [.inl (or9_ / 2)], S0_)) rfl ?_
          refine sm_T_ri rfl ⟨_, _, rfl, rfl, _, rfl, ?_⟩
          refine ⟨?_, by omega, by omega⟩
          unfold iat
          first | (rw [if_pos (by omega)]; first | rw [if_pos (by omega)] | (rw [if_neg (by omega)]; omega)) | (rw [if_neg (by omega)]; first | rw [if_pos (by omega)] | (rw [if_neg (by omega)]; first | (rw [if_pos (by omega)]; first | rw [if_pos (by omega)] | rw [if_neg (by omega)]) | (rw [if_neg (by omega)]; first | rw [if_pos (by omega)] | rw [if_neg (by omega)])))
      · have cx3_ : ¬ ((or9_ / 2) ≠ 2) := of_decide_eq_false cx3_
        refine sm_T_go 4 (c1 := (47, [some (.inl sz_), some (.inl or9_), some (.inl k_), some (.inl (or9_ / 2)), some (.inl 0), some (.inl 1)], [.inl k_], S0_)) rfl ?_
        refine sm_T_b0 (a := 1) (z := 7) rfl (fun cx8_ => ?_) (fun cx8_ => ?_)
        · have cx8_ : k_ ≠ 0 := of_decide_eq_true cx8_
          refine sm_T_go 2 (c1 := (56, [some (.inl sz_), some (.inl or9_), some (.inl k_), some (.inl (or9_ / 2)), some (.inl 0), some (.inl 1)], [.inl 1, .inl k_], S0_)) rfl ?_
          refine sm_T_br (a := 1) (z := 7) rfl (fun cx9_ => ?_) (fun cx9_ => ?_)
          · have cx9_ : k_ ≠ 1 := of_decide_eq_true cx9_
            refine sm_T_go 3 (c1 := (66, [some (.inl sz_), some (.inl or9_), some (.inl k_), some (.inl (or9_ / 2)), some (.inl 0), some (.inl 1)], [.inl 2, .inl or9_, .inl 0], S0_)) rfl ?_
            refine sm_T_bin (w := (or9_ % 2)) rfl (bi_rem (by omega) (by omega) (by omega) (by omega)) ?_ -- pc_ 66
            refine sm_T_b0 (a := 1) (z := 7) rfl (fun cx10_ => ?_) (fun cx10_ => ?_)
            · have cx10_ : (or9_ % 2) ≠ 0 := of_decide_eq_true cx10_
              refine sm_T_go 4 (c1 := (85, [some (.inl sz_), some (.inl or9_), some (.inl k_), some (.inl (or9_ / 2)), some (.inl 0), some (.inl 1)], [.inl 0], S0_)) rfl ?_
              refine sm_T_ri rfl ⟨_, _, rfl, rfl, _, rfl, ?_⟩
              refine ⟨?_, by omega, by omega⟩
              unfold iat
              first | (rw [if_pos (by omega)]; first | rw [if_pos (by omega)] | (rw [if_neg (by omega)]; omega)) | (rw [if_neg (by omega)]; first | rw [if_pos (by omega)] | (rw [if_neg (by omega)]; first | (rw [if_pos (by omega)]; first | rw [if_pos (by omega)] | rw [if_neg (by omega)]) | (rw [if_neg (by omega)]; first | rw [if_pos (by omega)] | rw [if_neg (by omega)])))
            · have cx10_ : ¬ ((or9_ % 2) ≠ 0) := of_decide_eq_false cx10_
              refine sm_T_go 4 (c1 := (85, [some (.inl sz_), some (.inl or9_), some (.inl k_), some (.inl (or9_ / 2)), some (.inl 0), some (.inl 1)], [.inl 1], S0_)) rfl ?_
              refine sm_T_ri rfl ⟨_, _, rfl, rfl, _, rfl, ?_⟩
              refine ⟨?_, by omega, by omega⟩
              unfold iat
              first | (rw [if_pos (by omega)]; first | rw [if_pos (by omega)] | (rw [if_neg (by omega)]; omega)) | (rw [if_neg (by omega)]; first | rw [if_pos (by omega)] | (rw [if_neg (by omega)]; first | (rw [if_pos (by omega)]; first | rw [if_pos (by omega)] | rw [if_neg (by omega)]) | (rw [if_neg (by omega)]; first | rw [if_pos (by omega)] | rw [if_neg (by omega)])))
          · have cx9_ : ¬ (k_ ≠ 1) := of_decide_eq_false cx9_
            refine sm_T_go 4 (c1 := (66, [some (.inl sz_), some (.inl or9_), some (.inl k_), some (.inl (or9_ / 2)), some (.inl 0), some (.inl 1)], [.inl 2, .inl or9_, .inl 1], S0_)) rfl ?_
            refine sm_T_bin (w := (or9_ % 2)) rfl (bi_rem (by omega) (by omega) (by omega) (by omega)) ?_ -- pc_ 66
            refine sm_T_b0 (a := 1) (z := 7) rfl (fun cx11_ => ?_) (fun cx11_ => ?_)
            · have cx11_ : (or9_ % 2) ≠ 0 := of_decide_eq_true cx11_
              refine sm_T_go 3 (c1 := (85, [some (.inl sz_), some (.inl or9_), some (.inl k_), some (.inl (or9_ / 2)), some (.inl 0), some (.inl 1)], [.inl 1], S0_)) rfl ?_
              refine sm_T_ri rfl ⟨_, _, rfl, rfl, _, rfl, ?_⟩
              refine ⟨?_, by omega, by omega⟩
              unfold iat
              first | (rw [if_pos (by omega)]; first | rw [if_pos (by omega)] | (rw [if_neg (by omega)]; omega)) | (rw [if_neg (by omega)]; first | rw [if_pos (by omega)] | (rw [if_neg (by omega)]; first | (rw [if_pos (by omega)]; first | rw [if_pos (by omega)] | rw [if_neg (by omega)]) | (rw [if_neg (by omega)]; first | rw [if_pos (by omega)] | rw [if_neg (by omega)])))
            · have cx11_ : ¬ ((or9_ % 2) ≠ 0) := of_decide_eq_false cx11_
              refine sm_T_go 5 (c1 := (85, [some (.inl sz_), some (.inl or9_), some (.inl k_), some (.inl (or9_ / 2)), some (.inl 0), some (.inl 1)], [.inl 0], S0_)) rfl ?_
              refine sm_T_ri rfl ⟨_, _, rfl, rfl, _, rfl, ?_⟩
              refine ⟨?_, by omega, by omega⟩
              unfold iat
              first | (rw [if_pos (by omega)]; first | rw [if_pos (by omega)] | (rw [if_neg (by omega)]; omega)) | (rw [if_neg (by omega)]; first | rw [if_pos (by omega)] | (rw [if_neg (by omega)]; first | (rw [if_pos (by omega)]; first | rw [if_pos (by omega)] | rw [if_neg (by omega)]) | (rw [if_neg (by omega)]; first | rw [if_pos (by omega)] | rw [if_neg (by omega)])))
        · have cx8_ : ¬ (k_ ≠ 0) := of_decide_eq_false cx8_
          refine sm_T_go 2 (c1 := (85, [some (.inl sz_), some (.inl or9_), some (.inl k_), some (.inl (or9_ / 2)), some (.inl 0), some (.inl 1)], [.inl (or9_ / 2)], S0_)) rfl ?_
          refine sm_T_ri rfl ⟨_, _, rfl, rfl, _, rfl, ?_⟩
          refine ⟨?_, by omega, by omega⟩
          unfold iat
          first | (rw [if_pos (by omega)]; first | rw [if_pos (by omega)] | (rw [if_neg (by omega)]; omega)) | (rw [if_neg (by omega)]; first | rw [if_pos (by omega)] | (rw [if_neg (by omega)]; first | (rw [if_pos (by omega)]; first | rw [if_pos (by omega)] | rw [if_neg (by omega)]) | (rw [if_neg (by omega)]; first | rw [if_pos (by omega)] | rw [if_neg (by omega)])))
    · have cx2_ : ¬ ((or9_ / 2) ≠ 0) := of_decide_eq_false cx2_
      refine sm_T_go 5 (c1 := (36, [some (.inl sz_), some (.inl or9_), some (.inl k_), some (.inl (or9_ / 2)), some (.inl 1), none], [.inl 2, .inl (or9_ / 2)], S0_)) rfl ?_
      refine sm_T_br (a := 1) (z := 7) rfl (fun cx12_ => ?_) (fun cx12_ => ?_)
      · have cx12_ : (or9_ / 2) ≠ 2 := of_decide_eq_true cx12_
        refine sm_T_go 3 (c1 := (47, [some (.inl sz_), some (.inl or9_), some (.inl k_), some (.inl (or9_ / 2)), some (.inl 1), some (.inl 2)], [.inl k_], S0_)) rfl ?_
        refine sm_T_b0 (a := 1) (z := 7) rfl (fun cx13_ => ?_) (fun cx13_ => ?_)
        · have cx13_ : k_ ≠ 0 := of_decide_eq_true cx13_
          refine sm_T_go 2 (c1 := (56, [some (.inl sz_), some (.inl or9_), some (.inl k_), some (.inl (or9_ / 2)), some (.inl 1), some (.inl 2)], [.inl 1, .inl k_], S0_)) rfl ?_
          refine sm_T_br (a := 1) (z := 7) rfl (fun cx14_ => ?_) (fun cx14_ => ?_)
          · have cx14_ : k_ ≠ 1 := of_decide_eq_true cx14_
            refine sm_T_go 3 (c1 := (66, [some (.inl sz_), some (.inl or9_), some (.inl k_), some (.inl (or9_ / 2)), some (.inl 1), some (.inl 2)], [.inl 2, .inl or9_, .inl 0], S0_)) rfl ?_
            refine sm_T_bin (w := (or9_ % 2)) rfl (bi_rem (by omega) (by omega) (by omega) (by omega)) ?_ -- pc_ 66
            refine sm_T_b0 (a := 1) (z := 7) rfl (fun cx15_ => ?_) (fun cx15_ => ?_)
            · have cx15_ : (or9_ % 2) ≠ 0 := of_decide_eq_true cx15_
              refine sm_T_go 4 (c1 := (85, [some (.inl sz_), some (.inl or9_), some (.inl k_), some (.inl (or9_ / 2)), some (.inl 1), some (.inl 2)], [.inl 1], S0_)) rfl ?_
              refine sm_T_ri rfl ⟨_, _, rfl, rfl, _, rfl, ?_⟩
              refine ⟨?_, by omega, by omega⟩
              unfold iat
              first | (rw [if_pos (by omega)]; first | rw [if_pos (by omega)] | (rw [if_neg (by omega)]; omega)) | (rw [if_neg (by omega)]; first | rw [if_pos (by omega)] | (rw [if_neg (by omega)]; first | (rw [if_pos (by omega)]; first | rw [if_pos (by omega)] | rw [if_neg (by omega)]) | (rw [if_neg (by omega)]; first | rw [if_pos (by omega)] | rw [if_neg (by omega)])))
            · have cx15_ : ¬ ((or9_ % 2) ≠ 0) := of_decide_eq_false cx15_
              refine sm_T_go 4 (c1 := (85, [some (.inl sz_), some (.inl or9_), some (.inl k_), some (.inl (or9_ / 2)), some (.inl 1), some (.inl 2)], [.inl 2], S0_)) rfl ?_
              refine sm_T_ri rfl ⟨_, _, rfl, rfl, _, rfl, ?_⟩
              refine ⟨?_, by omega, by omega⟩
              unfold iat
              first | (rw [if_pos (by omega)]; first | rw [if_pos (by omega)] | (rw [if_neg (by omega)]; omega)) | (rw [if_neg (by omega)]; first | rw [if_pos (by omega)] | (rw [if_neg (by omega)]; first | (rw [if_pos (by omega)]; first | rw [if_pos (by omega)] | rw [if_neg (by omega)]) | (rw [if_neg (by omega)]; first | rw [if_pos (by omega)] | rw [if_neg (by omega)])))
          · have cx14_ : ¬ (k_ ≠ 1) := of_decide_eq_false cx14_
            refine sm_T_go 4 (c1 := (66, [some (.inl sz_), some (.inl or9_), some (.inl k_), some (.inl (or9_ / 2)), some (.inl 1), some (.inl 2)], [.inl 2, .inl or9_, .inl 1], S0_)) rfl ?_
            refine sm_T_bin (w := (or9_ % 2)) rfl (bi_rem (by omega) (by omega) (by omega) (by omega)) ?_ -- pc_ 66
            refine sm_T_b0 (a := 1) (z := 7) rfl (fun cx16_ => ?_) (fun cx16_ => ?_)
            · have cx16_ : (or9_ % 2) ≠ 0 := of_decide_eq_true cx16_
              refine sm_T_go 3 (c1 := (85, [some (.inl sz_), some (.inl or9_), some (.inl k_), some (.inl (or9_ / 2)), some (.inl 1), some (.inl 2)], [.inl 2], S0_)) rfl ?_
              refine sm_T_ri rfl ⟨_, _, rfl, rfl, _, rfl, ?_⟩
              refine ⟨?_, by omega, by omega⟩
              unfold iat
              first | (rw [if_pos (by omega)]; first | rw [if_pos (by omega)] | (rw [if_neg (by omega)]; omega)) | (rw [if_neg (by omega)]; first | rw [if_pos (by omega)] | (rw [if_neg (by omega)]; first | (rw [if_pos (by omega)]; first | rw [if_pos (by omega)] | rw [if_neg (by omega)]) | (rw [if_neg (by omega)]; first | rw [if_pos (by omega)] | rw [if_neg (by omega)])))
            · have cx16_ : ¬ ((or9_ % 2) ≠ 0) := of_decide_eq_false cx16_
              refine sm_T_go 5 (c1 := (85, [some (.inl sz_), some (.inl or9_), some (.inl k_), some (.inl (or9_ / 2)), some (.inl 1), some (.inl 2)], [.inl 1], S0_)) rfl ?_
              refine sm_T_ri rfl ⟨_, _, rfl, rfl, _, rfl, ?_⟩
              refine ⟨?_, by omega, by omega⟩
              unfold iat
              first | (rw [if_pos (by omega)]; first | rw [if_pos (by omega)] | (rw [if_neg (by omega)]; omega)) | (rw [if_neg (by omega)]; first | rw [if_pos (by omega)] | (rw [if_neg (by omega)]; first | (rw [if_pos (by omega)]; first | rw [if_pos (by omega)] | rw [if_neg (by omega)]) | (rw [if_neg (by omega)]; first | rw [if_pos (by omega)] | rw [if_neg (by omega)])))
        · have cx13_ : ¬ (k_ ≠ 0) := of_decide_eq_false cx13_
          refine sm_T_go 2 (c1 := (85, [some (.inl sz_), some (.inl or9_), some (.inl k_), some (.inl (or9_ / 2)), some (.inl 1), some (.inl 2)], [.inl (or9_ / 2)], S0_)) rfl ?_
          refine sm_T_ri rfl ⟨_, _, rfl, rfl, _, rfl, ?_⟩
          refine ⟨?_, by omega, by omega⟩
          unfold iat
          first | (rw [if_pos (by omega)]; first | rw [if_pos (by omega)] | (rw [if_neg (by omega)]; omega)) | (rw [if_neg (by omega)]; first | rw [if_pos (by omega)] | (rw [if_neg (by omega)]; first | (rw [if_pos (by omega)]; first | rw [if_pos (by omega)] | rw [if_neg (by omega)]) | (rw [if_neg (by omega)]; first | rw [if_pos (by omega)] | rw [if_neg (by omega)])))
      · have cx12_ : ¬ ((or9_ / 2) ≠ 2) := of_decide_eq_false cx12_
        exfalso; omega
  · have cx1_ : ¬ (3 ≤ sz_) := of_decide_eq_false cx1_
    refine sm_T_go 1 (c1 := (6, [some (.inl sz_), some (.inl or9_), some (.inl k_), none, none, none], [.inl or9_], S0_)) rfl ?_
    refine sm_T_b0 (a := 1) (z := 7) rfl (fun cx17_ => ?_) (fun cx17_ => ?_)
    · have cx17_ : or9_ ≠ 0 := of_decide_eq_true cx17_
      refine sm_T_go 2 (c1 := (15, [some (.inl sz_), some (.inl or9_), some (.inl k_), none, none, none], [.inl 1, .inl sz_], S0_)) rfl ?_
      refine sm_T_bin (w := sz_ - 1) rfl (bi_sub (by omega) (by omega) (by omega)) ?_ -- pc_ 15
      refine sm_T_go 1 (c1 := (17, [some (.inl sz_), some (.inl or9_), some (.inl k_), none, none, none], [.inl k_, .inl (sz_ - 1)], S0_)) rfl ?_
      refine sm_T_bin (w := sz_ - k_ - 1) rfl (bi_sub (by omega) (by omega) (by omega)) ?_ -- pc_ 17
      refine sm_T_ri rfl ⟨_, _, rfl, rfl, _, rfl, ?_⟩
      refine ⟨?_, by omega, by omega⟩
      unfold iat
      first | (rw [if_pos (by omega)]; first | rw [if_pos (by omega)] | (rw [if_neg (by omega)]; omega)) | (rw [if_neg (by omega)]; first | rw [if_pos (by omega)] | (rw [if_neg (by omega)]; first | (rw [if_pos (by omega)]; first | rw [if_pos (by omega)] | rw [if_neg (by omega)]) | (rw [if_neg (by omega)]; first | rw [if_pos (by omega)] | rw [if_neg (by omega)])))
    · have cx17_ : ¬ (or9_ ≠ 0) := of_decide_eq_false cx17_
      refine sm_T_go 2 (c1 := (18, [some (.inl sz_), some (.inl or9_), some (.inl k_), none, none, none], [.inl k_], S0_)) rfl ?_
      refine sm_T_ri rfl ⟨_, _, rfl, rfl, _, rfl, ?_⟩
      refine ⟨?_, by omega, by omega⟩
      unfold iat
      first | (rw [if_pos (by omega)]; first | rw [if_pos (by omega)] | (rw [if_neg (by omega)]; omega)) | (rw [if_neg (by omega)]; first | rw [if_pos (by omega)] | (rw [if_neg (by omega)]; first | (rw [if_pos (by omega)]; first | rw [if_pos (by omega)] | rw [if_neg (by omega)]) | (rw [if_neg (by omega)]; first | rw [if_pos (by omega)] | rw [if_neg (by omega)])))
end
