/-! 99.ztG -/
section
/-! what a library keeps: the class; written by wip/p55/gen/vg -/

/-! what a_ library keeps: the_ class -/
/-- the_ other libraries stay as_ they were -/
def ilf (dd_ : Nat) (S_ S'_ : sm_S) : Prop := ∀ i_, i_ ≠ dd_ → (∀ k_, k_ < 3 → S'_.1 5 i_ k_ = S_.1 5 i_ k_) ∧ ∀ t_, t_ < 59 → 55 ≤ t_ → S'_.2.2.1 t_ (0 + i_) = S_.2.2.1 t_ (0 + i_)
theorem ilf_rf {dd_ : Nat} {S_ : sm_S} : ilf dd_ S_ S_ := fun _ _ => ⟨fun _ _ => rfl, fun _ _ _ => rfl⟩
theorem ilf_tr {dd_ : Nat} {S_ S'_ S2_ : sm_S} (h_ : ilf dd_ S_ S'_) (g_ : ilf dd_ S'_ S2_) : ilf dd_ S_ S2_ := fun i_ hi_ => ⟨fun k_ hk_ => ((g_ i_ hi_).1 k_ hk_).trans ((h_ i_ hi_).1 k_ hk_), fun t_ h1_ h2_ => ((g_ i_ hi_).2 t_ h1_ h2_).trans ((h_ i_ hi_).2 t_ h1_ h2_)⟩
theorem ilf_fr {w_ : sx_Wl} {dd_ : Nat} {S_ S'_ : sm_S} (g_ : ai_fr (sx_W w_) S_ S'_) (h1_ : ∀ k_, k_ < 3 → (sx_W w_).1 5 k_ = false) (h2_ : ∀ t_, t_ < 59 → 55 ≤ t_ → (sx_W w_).2.1 t_ = false) : ilf dd_ S_ S'_ := fun i_ _ => ⟨fun k_ hk_ => g_.1 5 i_ k_ (h1_ k_ hk_), fun t_ q1_ q2_ => fr_arr g_ (h2_ t_ q1_ q2_)⟩
theorem ilf_pI {dd_ t_ i_ k_ : Nat} {S_ S'_ : sm_S} {v_ : Int} (h_ : ilf dd_ S_ S'_) (g_ : t_ ≠ 5 ∨ i_ = dd_) : ilf dd_ S_ (sm_pI S'_ t_ i_ k_ v_) := fun j_ hj_ => ⟨fun k1_ hk_ => by
  rw [← (h_ j_ hj_).1 k1_ hk_]
  exact sm_up_ne (fun z_ => by
    rcases g_ with g_ | g_
    · exact g_ z_.1.symm
    · exact hj_ (z_.2.1.trans g_)), (h_ j_ hj_).2⟩
theorem ilf_aI {dd_ t_ i_ k_ : Nat} {S_ S'_ : sm_S} {v_ : Int} (h_ : ilf dd_ S_ S'_) (g_ : (t_ < 55 ∨ 58 < t_) ∨ i_ = 0 + dd_) : ilf dd_ S_ (sm_aI S'_ t_ i_ k_ v_) := fun j_ hj_ => ⟨(h_ j_ hj_).1, fun t1_ q1_ q2_ => by
  rw [← (h_ j_ hj_).2 t1_ q1_ q2_]
  funext k1_
  exact sm_up_ne (fun z_ => by
    rcases g_ with g_ | g_
    · have := z_.1
      omega
    · have := z_.2.1
      omega)⟩
theorem ilf_pR {dd_ t_ i_ k_ : Nat} {S_ S'_ : sm_S} {v_ : Option Nat} (h_ : ilf dd_ S_ S'_) : ilf dd_ S_ (sm_pR S'_ t_ i_ k_ v_) := h_
/-- library ii_ holds the_ cells of_ L_ -/
def lcl (ii_ K_ : Nat) (L_ : pL) (S_ : sm_S) : Prop := S_.1 5 ii_ 1 = (K_ : Int) ∧ ∀ j_, j_ < K_ → S_.2.2.1 55 (0 + ii_) j_ = (L_ j_).1 ∧ S_.2.2.1 56 (0 + ii_) j_ = (L_ j_).2.1 ∧ S_.2.2.1 57 (0 + ii_) j_ = (L_ j_).2.2.1 ∧ S_.2.2.1 58 (0 + ii_) j_ = (L_ j_).2.2.2
theorem lcl_fr {w_ : sx_Wl} {ii_ K_ : Nat} {L_ : pL} {S_ S'_ : sm_S} (h_ : lcl ii_ K_ L_ S_) (g_ : ai_fr (sx_W w_) S_ S'_) (h1_ : (sx_W w_).1 5 1 = false) (h5_ : (sx_W w_).2.1 55 = false) (h6_ : (sx_W w_).2.1 56 = false) (h7_ : (sx_W w_).2.1 57 = false) (h8_ : (sx_W w_).2.1 58 = false) : lcl ii_ K_ L_ S'_ := by
  unfold lcl
  rw [g_.1 5 ii_ 1 h1_, fr_arr (t := 55) g_ h5_, fr_arr (t := 56) g_ h6_, fr_arr (t := 57) g_ h7_, fr_arr (t := 58) g_ h8_]
  exact h_
theorem lcl_up {ii_ K_ : Nat} {L_ : pL} {c_ : pC} {S_ : sm_S} (h_ : lcl ii_ K_ L_ S_) : lcl ii_ K_ (l_up L_ K_ c_) S_ := by
  refine ⟨h_.1, fun j_ hj_ => ?_⟩
  have e_ : l_up L_ K_ c_ j_ = L_ j_ := by
    unfold l_up
    exact if_neg (by omega)
  rw [e_]
  exact h_.2 j_ hj_
theorem lup_at {K_ : Nat} {L_ : pL} {c_ : pC} : l_up L_ K_ c_ K_ = ((c_.2.1 : Int), c_.2.2.1, c_.2.2.2.1, c_.2.2.2.2.1) := by
  unfold l_up
  exact if_pos rfl
/-- the_ least of_ the_ cells that turn, the_ first such: none is_ -1 -/
def fiv (L_ : pL) : Nat → Int
  | 0 => -1
  | k_ + 1 => if (L_ k_).1 = 1 ∧ (L_ k_).2.1 = 1 ∧ (fiv L_ k_ = -1 ∨ (L_ k_).2.2.1 < (L_ (fiv L_ k_).toNat).2.2.1) then (k_ : Int) else fiv L_ k_
theorem fiv_s {L_ : pL} {k_ : Nat} : fiv L_ (k_ + 1) = if (L_ k_).1 = 1 ∧ (L_ k_).2.1 = 1 ∧ (fiv L_ k_ = -1 ∨ (L_ k_).2.2.1 < (L_ (fiv L_ k_).toNat).2.2.1) then (k_ : Int) else fiv L_ k_ := rfl
theorem fiv_b {L_ : pL} : ∀ k_ : Nat, -1 ≤ fiv L_ k_ ∧ fiv L_ k_ < (k_ : Int)
  | 0 => ⟨Int.le_refl _, by show (-1 : Int) < ((0 : Nat) : Int); decide⟩
  | k_ + 1 => by
    have h_ := fiv_b (L_ := L_) k_
    rw [fiv_s]
    split
    · exact ⟨by omega, by omega⟩
    · exact ⟨h_.1, by omega⟩

/-! Library.addCell -/
def vw_88v : sx_Wl := ([(5, 1)], [55, 56, 57, 58], [])
def vq_88v (x_ : Int) (t_ : Int) (a_ : Int) (d_ : Int) (ii_ : Nat) (S0_ : sm_S) (u_ : Option sm_V) (S1_ : sm_S) : Prop := u_ = none ∧ gi S1_ ∧ ai_fr (sx_W vw_88v) S0_ S1_ ∧ (ilf ii_ S0_ S1_ ∧ ((S1_.1 5 ii_ 1) = (S0_.1 5 ii_ 1) + 1 ∧ ∀ (K_ : Nat) (L_ : pL), lcl ii_ K_ L_ S0_ → L_ K_ = (x_, t_, a_, d_) → lcl ii_ (K_ + 1) L_ S1_))
set_option maxHeartbeats 400000 in
theorem vc_88v {sc_ : Nat × (Nat → Int)} (x_ : Int) (t_ : Int) (a_ : Int) (d_ : Int) (ii_ : Nat) (S0_ : sm_S) (hI_ : gi S0_) (hx_ : 0 ≤ x_ ∧ x_ ≤ 3) (ht_ : 0 ≤ t_ ∧ t_ ≤ 255) (ha_ : 0 ≤ a_ ∧ a_ ≤ 1000) (hd_ : 0 ≤ d_ ∧ d_ ≤ 100) (hk_ : (S0_.1 5 ii_ 1) < 12) : sm_T (mt_P sc_) 0 88 (0, [some (.inr (.inr (some (5, ii_)))), some (.inl x_), some (.inl t_), some (.inl a_), some (.inl d_)], [], S0_) (fun ro9_ => ∃ u_ S1_, ro9_ = (.inl u_, S1_, 0) ∧ vq_88v x_ t_ a_ d_ ii_ S0_ u_ S1_) := by
  have hF_ : ai_fr (sx_W vw_88v) S0_ S0_ := ai_fr_rf
  have hD_ : ilf ii_ S0_ S0_ := ilf_rf
  have bx1_ : 0 ≤ S0_.1 5 ii_ 1 ∧ S0_.1 5 ii_ 1 ≤ 12 := hI_.1 5 ii_ 1 rfl
  refine sm_T_go 3 (c1 := (6, [some (.inr (.inr (some (5, ii_)))), some (.inl x_), some (.inl t_), some (.inl a_), some (.inl d_)], [.inl 12, .inl (S0_.1 5 ii_ 1)], S0_)) rfl ?_
  refine sm_T_br (a := 3) (z := 54) rfl (fun cx2_ => ?_) (fun cx2_ => ?_)
  · have cx2_ : 12 ≤ (S0_.1 5 ii_ 1) := of_decide_eq_true cx2_
    exfalso; omega
  · have cx2_ : ¬ (12 ≤ (S0_.1 5 ii_ 1)) := of_decide_eq_false cx2_
    refine sm_T_go 5 (c1 := (18, [some (.inr (.inr (some (5, ii_)))), some (.inl x_), some (.inl t_), some (.inl a_), some (.inl d_)], [.inl x_, .inl (S0_.1 5 ii_ 1), .inr (.inr (some (55, (0 + ii_))))], S0_)) rfl ?_
    refine sm_T_iast (n := 12) rfl rfl (by omega) (by omega) ?_
    have hIx3_ : gi (sm_aI S0_ 55 (0 + ii_) (S0_.1 5 ii_ 1).toNat x_) := gi_aI hI_ (show 0 ≤ x_ ∧ x_ ≤ 3 from ⟨by omega, by omega⟩)
    have hFx4_ : ai_fr (sx_W vw_88v) S0_ (sm_aI S0_ 55 (0 + ii_) (S0_.1 5 ii_ 1).toNat x_) := ai_fr_tr hF_ (ai_fr_aI rfl)
    have hDx5_ : ilf ii_ S0_ (sm_aI S0_ 55 (0 + ii_) (S0_.1 5 ii_ 1).toNat x_) := ilf_aI hD_ (Or.inr rfl)
    refine sm_T_go 5 (c1 := (28, [some (.inr (.inr (some (5, ii_)))), some (.inl x_), some (.inl t_), some (.inl a_), some (.inl d_)], [.inl t_, .inl (S0_.1 5 ii_ 1), .inr (.inr (some (56, (0 + ii_))))], sm_aI S0_ 55 (0 + ii_) (S0_.1 5 ii_ 1).toNat x_)) rfl ?_
    refine sm_T_iast (n := 12) rfl rfl (by omega) (by omega) ?_
    have hIx6_ : gi (sm_aI (sm_aI S0_ 55 (0 + ii_) (S0_.1 5 ii_ 1).toNat x_) 56 (0 + ii_) (S0_.1 5 ii_ 1).toNat t_) := gi_aI hIx3_ (show 0 ≤ t_ ∧ t_ ≤ 255 from ⟨by omega, by omega⟩)
    have hFx7_ : ai_fr (sx_W vw_88v) S0_ (sm_aI (sm_aI S0_ 55 (0 + ii_) (S0_.1 5 ii_ 1).toNat x_) 56 (0 + ii_) (S0_.1 5 ii_ 1).toNat t_) := ai_fr_tr hFx4_ (ai_fr_aI rfl)
    have hDx8_ : ilf ii_ S0_ (sm_aI (sm_aI S0_ 55 (0 + ii_) (S0_.1 5 ii_ 1).toNat x_) 56 (0 + ii_) (S0_.1 5 ii_ 1).toNat t_) := ilf_aI hDx5_ (Or.inr rfl)
    refine sm_T_go 5 (c1 := (38, [some (.inr (.inr (some (5, ii_)))), some (.inl x_), some (.inl t_), some (.inl a_), some (.inl d_)], [.inl a_, .inl (S0_.1 5 ii_ 1), .inr (.inr (some (57, (0 + ii_))))], sm_aI (sm_aI S0_ 55 (0 + ii_) (S0_.1 5 ii_ 1).toNat x_) 56 (0 + ii_) (S0_.1 5 ii_ 1).toNat t_)) rfl ?_
    refine sm_T_iast (n := 12) rfl rfl (by omega) (by omega) ?_
    have hIx9_ : gi (sm_aI (sm_aI (sm_aI S0_ 55 (0 + ii_) (S0_.1 5 ii_ 1).toNat x_) 56 (0 + ii_) (S0_.1 5 ii_ 1).toNat t_) 57 (0 + ii_) (S0_.1 5 ii_ 1).toNat a_) := gi_aI hIx6_ (show 0 ≤ a_ ∧ a_ ≤ 1000 from ⟨by omega, by omega⟩)
    have hFx10_ : ai_fr (sx_W vw_88v) S0_ (sm_aI (sm_aI (sm_aI S0_ 55 (0 + ii_) (S0_.1 5 ii_ 1).toNat x_) 56 (0 + ii_) (S0_.1 5 ii_ 1).toNat t_) 57 (0 + ii_) (S0_.1 5 ii_ 1).toNat a_) := ai_fr_tr hFx7_ (ai_fr_aI rfl)
    have hDx11_ : ilf ii_ S0_ (sm_aI (sm_aI (sm_aI S0_ 55 (0 + ii_) (S0_.1 5 ii_ 1).toNat x_) 56 (0 + ii_) (S0_.1 5 ii_ 1).toNat t_) 57 (0 + ii_) (S0_.1 5 ii_ 1).toNat a_) := ilf_aI hDx8_ (Or.inr rfl)
    refine sm_T_go 5 (c1 := (49, [some (.inr (.inr (some (5, ii_)))), some (.inl x_), some (.inl t_), some (.inl a_), some (.inl d_)], [.inl d_, .inl (S0_.1 5 ii_ 1), .inr (.inr (some (58, (0 + ii_))))], sm_aI (sm_aI (sm_aI S0_ 55 (0 + ii_) (S0_.1 5 ii_ 1).toNat x_) 56 (0 + ii_) (S0_.1 5 ii_ 1).toNat t_) 57 (0 + ii_) (S0_.1 5 ii_ 1).toNat a_)) rfl ?_
    refine sm_T_iast (n := 12) rfl rfl (by omega) (by omega) ?_
    have hIx12_ : gi (sm_aI (sm_aI (sm_aI (sm_aI S0_ 55 (0 + ii_) (S0_.1 5 ii_ 1).toNat x_) 56 (0 + ii_) (S0_.1 5 ii_ 1).toNat t_) 57 (0 + ii_) (S0_.1 5 ii_ 1).toNat a_) 58 (0 + ii_) (S0_.1 5 ii_ 1).toNat d_) := gi_aI hIx9_ (show 0 ≤ d_ ∧ d_ ≤ 100 from ⟨by omega, by omega⟩)
    have hFx13_ : ai_fr (sx_W vw_88v) S0_ (sm_aI (sm_aI (sm_aI (sm_aI S0_ 55 (0 + ii_) (S0_.1 5 ii_ 1).toNat x_) 56 (0 + ii_) (S0_.1 5 ii_ 1).toNat t_) 57 (0 + ii_) (S0_.1 5 ii_ 1).toNat a_) 58 (0 + ii_) (S0_.1 5 ii_ 1).toNat d_) := ai_fr_tr hFx10_ (ai_fr_aI rfl)
    have hDx14_ : ilf ii_ S0_ (sm_aI (sm_aI (sm_aI (sm_aI S0_ 55 (0 + ii_) (S0_.1 5 ii_ 1).toNat x_) 56 (0 + ii_) (S0_.1 5 ii_ 1).toNat t_) 57 (0 + ii_) (S0_.1 5 ii_ 1).toNat a_) 58 (0 + ii_) (S0_.1 5 ii_ 1).toNat d_) := ilf_aI hDx11_ (Or.inr rfl)
    refine sm_T_go 4 (c1 := (56, [some (.inr (.inr (some (5, ii_)))), some (.inl x_), some (.inl t_), some (.inl a_), some (.inl d_)], [.inl 1, .inl (S0_.1 5 ii_ 1), .inr (.inr (some (5, ii_)))], sm_aI (sm_aI (sm_aI (sm_aI S0_ 55 (0 + ii_) (S0_.1 5 ii_ 1).toNat x_) 56 (0 + ii_) (S0_.1 5 ii_ 1).toNat t_) 57 (0 + ii_) (S0_.1 5 ii_ 1).toNat a_) 58 (0 + ii_) (S0_.1 5 ii_ 1).toNat d_)) rfl ?_
    refine sm_T_bin (w := (S0_.1 5 ii_ 1) + 1) rfl (bi_add (by omega) (by omega) (by omega)) ?_
    have hIx15_ : gi (sm_pI (sm_aI (sm_aI (sm_aI (sm_aI S0_ 55 (0 + ii_) (S0_.1 5 ii_ 1).toNat x_) 56 (0 + ii_) (S0_.1 5 ii_ 1).toNat t_) 57 (0 + ii_) (S0_.1 5 ii_ 1).toNat a_) 58 (0 + ii_) (S0_.1 5 ii_ 1).toNat d_) 5 ii_ 1 ((S0_.1 5 ii_ 1) + 1)) := gi_pI hIx12_ (show 0 ≤ (S0_.1 5 ii_ 1) + 1 ∧ (S0_.1 5 ii_ 1) + 1 ≤ 12 from ⟨by omega, by omega⟩)
    have hFx16_ : ai_fr (sx_W vw_88v) S0_ (sm_pI (sm_aI (sm_aI (sm_aI (sm_aI S0_ 55 (0 + ii_) (S0_.1 5 ii_ 1).toNat x_) 56 (0 + ii_) (S0_.1 5 ii_ 1).toNat t_) 57 (0 + ii_) (S0_.1 5 ii_ 1).toNat a_) 58 (0 + ii_) (S0_.1 5 ii_ 1).toNat d_) 5 ii_ 1 ((S0_.1 5 ii_ 1) + 1)) := ai_fr_tr hFx13_ (ai_fr_pI rfl)
    have hDx17_ : ilf ii_ S0_ (sm_pI (sm_aI (sm_aI (sm_aI (sm_aI S0_ 55 (0 + ii_) (S0_.1 5 ii_ 1).toNat x_) 56 (0 + ii_) (S0_.1 5 ii_ 1).toNat t_) 57 (0 + ii_) (S0_.1 5 ii_ 1).toNat a_) 58 (0 + ii_) (S0_.1 5 ii_ 1).toNat d_) 5 ii_ 1 ((S0_.1 5 ii_ 1) + 1)) := ilf_pI hDx14_ (Or.inr rfl)
    refine sm_T_go 1 (c1 := (60, [some (.inr (.inr (some (5, ii_)))), some (.inl x_), some (.inl t_), some (.inl a_), some (.inl d_)], [], sm_pI (sm_aI (sm_aI (sm_aI (sm_aI S0_ 55 (0 + ii_) (S0_.1 5 ii_ 1).toNat x_) 56 (0 + ii_) (S0_.1 5 ii_ 1).toNat t_) 57 (0 + ii_) (S0_.1 5 ii_ 1).toNat a_) 58 (0 + ii_) (S0_.1 5 ii_ 1).toNat d_) 5 ii_ 1 ((S0_.1 5 ii_ 1) + 1))) rfl ?_
    refine sm_T_rv rfl ⟨_, _, rfl, rfl, hIx15_, hFx16_, ?_⟩
    refine ⟨hDx17_, ?_⟩
    refine ⟨rf_eq, fun K_ L_ h9_ e9_ => ?_⟩
    obtain ⟨h1_, h2_⟩ := h9_
    refine ⟨by rw [rf_eq]; push_cast; omega, fun j9_ hj9_ => ?_⟩
    (try simp only [rd_eq, rd_ne, rf_eq, rf_nk, rf_nt, rd_fa, rd_af, rd_fl, rd_al, rd_lf, rd_la, rd_leq, rd_lne, rd_fr, rd_ar, ne_eq, Nat.reduceEqDiff, not_false_eq_true])
    by_cases z9_ : j9_ = K_
    · rw [if_pos (by omega), if_pos (by omega), if_pos (by omega), if_pos (by omega), z9_, e9_]; exact ⟨rfl, rfl, rfl, rfl⟩
    · rw [if_neg (by omega), if_neg (by omega), if_neg (by omega), if_neg (by omega)]; exact h2_ j9_ (by omega)
/-! Library.findInverter -/
def vw_89v : sx_Wl := ([(5, 2)], [], [])
def vq_89v (ii_ : Nat) (K_ : Nat) (L_ : pL) (S0_ : sm_S) (u_ : Option sm_V) (S1_ : sm_S) : Prop := u_ = none ∧ gi S1_ ∧ ai_fr (sx_W vw_89v) S0_ S1_ ∧ (ilf ii_ S0_ S1_ ∧ (S1_.1 5 ii_ 2 = fiv L_ K_ ∧ lcl ii_ K_ L_ S1_))
set_option maxHeartbeats 400000 in
theorem vl_89v {sc_ : Nat × (Nat → Int)} (ii_ : Nat) (K_ : Nat) (L_ : pL) (S0_ : sm_S) (hl_ : lcl ii_ K_ L_ S0_) (hK_ : K_ ≤ 12) : ∀ nn_ : Nat, (∀ (k_ : Int) (S_ : sm_S), gi S_ → ai_fr (sx_W vw_89v) S0_ S_ → ((0 ≤ k_ ∧ k_ ≤ (K_ : Int)) ∧ (lcl ii_ K_ L_ S_) ∧ (S_.1 5 ii_ 2 = fiv L_ k_.toNat) ∧ (ilf ii_ S0_ S_) ∧ True) → ((20 - k_).toNat) < nn_ → sm_T (mt_P sc_) 0 89 (7, [some (.inr (.inr (some (5, ii_)))), some (.inl k_), none], [], S_) (fun ro9_ => ∃ u_ S1_, ro9_ = (.inl u_, S1_, 0) ∧ vq_89v ii_ K_ L_ S0_ u_ S1_)) := by
  intro nn_
  induction nn_ with
  | zero => exact fun _ _ _ _ _ h_ => absurd h_ (Nat.not_lt_zero _)
  | succ nn_ ih_ =>
    rintro k_ S_ hI_ hF_ ⟨h0_, hc_, h1_, hD_, -⟩ hm_
    have bc_ := hc_.1
    have fb_ := fiv_b (L_ := L_) k_.toNat
    have l9_ : k_ < K_ → S_.2.2.1 55 (0 + ii_) k_.toNat = (L_ k_.toNat).1 ∧ S_.2.2.1 56 (0 + ii_) k_.toNat = (L_ k_.toNat).2.1 ∧ S_.2.2.1 57 (0 + ii_) k_.toNat = (L_ k_.toNat).2.2.1 := fun z_ => ⟨(hc_.2 k_.toNat (by omega)).1, (hc_.2 k_.toNat (by omega)).2.1, (hc_.2 k_.toNat (by omega)).2.2.1⟩
    have m9_ : k_ ≤ K_ → fiv L_ k_.toNat ≠ -1 → S_.2.2.1 57 (0 + ii_) (S_.1 5 ii_ 2).toNat = (L_ (fiv L_ k_.toNat).toNat).2.2.1 := fun y_ z_ => by rw [h1_]; exact (hc_.2 _ (by omega)).2.2.1
    have bx1_ : 0 ≤ S_.1 5 ii_ 1 ∧ S_.1 5 ii_ 1 ≤ 12 := hI_.1 5 ii_ 1 rfl
    refine sm_T_go 3 (c1 := (12, [some (.inr (.inr (some (5, ii_)))), some (.inl k_), none], [.inl (S_.1 5 ii_ 1), .inl k_], S_)) rfl ?_
    refine sm_T_br (a := 3) (z := 70) rfl (fun cx2_ => ?_) (fun cx2_ => ?_)
    · have cx2_ : (S_.1 5 ii_ 1) ≤ k_ := of_decide_eq_true cx2_
      refine sm_T_rv rfl ⟨_, _, rfl, rfl, hI_, hF_, ?_⟩
      refine ⟨hD_, ?_⟩
      have e9_ : k_.toNat = K_ := by omega
      rw [e9_] at h1_
      exact ⟨h1_, hc_⟩
    · have cx2_ : ¬ ((S_.1 5 ii_ 1) ≤ k_) := of_decide_eq_false cx2_
      refine sm_T_go 3 (c1 := (20, [some (.inr (.inr (some (5, ii_)))), some (.inl k_), none], [.inl k_, .inr (.inr (some (55, (0 + ii_))))], S_)) rfl ?_
      refine sm_T_iald (n := 12) rfl rfl (by omega) (by omega) ?_
      have bx3_ : 0 ≤ S_.2.2.1 55 (0 + ii_) k_.toNat ∧ S_.2.2.1 55 (0 + ii_) k_.toNat ≤ 3 := hI_.2 55 (0 + ii_) _
      refine sm_T_go 1 (c1 := (22, [some (.inr (.inr (some (5, ii_)))), some (.inl k_), none], [.inl 1, .inl (S_.2.2.1 55 (0 + ii_) k_.toNat)], S_)) rfl ?_
      refine sm_T_br (a := 1) (z := 17) rfl (fun cx4_ => ?_) (fun cx4_ => ?_)
      · have cx4_ : (S_.2.2.1 55 (0 + ii_) k_.toNat) ≠ 1 := of_decide_eq_true cx4_
        refine sm_T_go 4 (c1 := (76, [some (.inr (.inr (some (5, ii_)))), some (.inl k_), some (.inl 0)], [], S_)) rfl ?_
        refine sm_T_inc (a := 1) (z := 1) (v := k_) (w := k_ + 1) rfl rfl (by omega) (by omega) (by omega) ?_
        refine sm_T_go 1 (c1 := (7, [some (.inr (.inr (some (5, ii_)))), some (.inl (k_ + 1)), some (.inl 0)], [], S_)) rfl ?_
        refine sm_T_wk [some (.inr (.inr (some (5, ii_)))), some (.inl (k_ + 1)), none] (by exact ⟨rfl, rfl, trivial⟩) ?_
        refine ih_ (k_ + 1) S_ hI_ hF_ ⟨?_, ?_, ?_, ?_, trivial⟩ ?_
        · omega
        · first | exact hc_ | exact lcl_fr (w_ := ([(5, 2)], [], [])) hc_ (ai_fr_pI rfl) rfl rfl rfl rfl rfl
        · rw [show (k_ + 1).toNat = k_.toNat + 1 by omega]
          have q9_ := l9_ (by omega)
          have r9_ := m9_ (by omega)
          rw [fiv_s]
          first | (rw [if_pos (by omega)]; refine rf_eq.trans ?_; omega) | (rw [if_neg (by omega)]; exact h1_)
        · exact hD_
        · omega
      · have cx4_ : ¬ ((S_.2.2.1 55 (0 + ii_) k_.toNat) ≠ 1) := of_decide_eq_false cx4_
        refine sm_T_go 3 (c1 := (30, [some (.inr (.inr (some (5, ii_)))), some (.inl k_), none], [.inl k_, .inr (.inr (some (56, (0 + ii_))))], S_)) rfl ?_
        refine sm_T_iald (n := 12) rfl rfl (by omega) (by omega) ?_
        have bx5_ : 0 ≤ S_.2.2.1 56 (0 + ii_) k_.toNat ∧ S_.2.2.1 56 (0 + ii_) k_.toNat ≤ 255 := hI_.2 56 (0 + ii_) _
        refine sm_T_go 1 (c1 := (32, [some (.inr (.inr (some (5, ii_)))), some (.inl k_), none], [.inl 1, .inl (S_.2.2.1 56 (0 + ii_) k_.toNat)], S_)) rfl ?_
        refine sm_T_br (a := 1) (z := 7) rfl (fun cx6_ => ?_) (fun cx6_ => ?_)
        · have cx6_ : (S_.2.2.1 56 (0 + ii_) k_.toNat) ≠ 1 := of_decide_eq_true cx6_
          refine sm_T_go 4 (c1 := (76, [some (.inr (.inr (some (5, ii_)))), some (.inl k_), some (.inl 0)], [], S_)) rfl ?_
          refine sm_T_inc (a := 1) (z := 1) (v := k_) (w := k_ + 1) rfl rfl (by omega) (by omega) (by omega) ?_
          refine sm_T_go 1 (c1 := (7, [some (.inr (.inr (some (5, ii_)))), some (.inl (k_ + 1)), some (.inl 0)], [], S_)) rfl ?_
          refine sm_T_wk [some (.inr (.inr (some (5, ii_)))), some (.inl (k_ + 1)), none] (by exact ⟨rfl, rfl, trivial⟩) ?_
          refine ih_ (k_ + 1) S_ hI_ hF_ ⟨?_, ?_, ?_, ?_, trivial⟩ ?_
          · omega
          · first | exact hc_ | exact lcl_fr (w_ := ([(5, 2)], [], [])) hc_ (ai_fr_pI rfl) rfl rfl rfl rfl rfl
          · rw [show (k_ + 1).toNat = k_.toNat + 1 by omega]
            have q9_ := l9_ (by omega)
            have r9_ := m9_ (by omega)
            rw [fiv_s]
            first | (rw [if_pos (by omega)]; refine rf_eq.trans ?_; omega) | (rw [if_neg (by omega)]; exact h1_)
          · exact hD_
          · omega
        · have cx6_ : ¬ ((S_.2.2.1 56 (0 + ii_) k_.toNat) ≠ 1) := of_decide_eq_false cx6_
          have bx7_ : (-1) ≤ S_.1 5 ii_ 2 ∧ S_.1 5 ii_ 2 ≤ 11 := hI_.1 5 ii_ 2 rfl
          refine sm_T_go 8 (c1 := (50, [some (.inr (.inr (some (5, ii_)))), some (.inl k_), some (.inl 1)], [.inl (-1), .inl (S_.1 5 ii_ 2)], S_)) rfl ?_
          refine sm_T_br (a := 0) (z := 21) rfl (fun cx8_ => ?_) (fun cx8_ => ?_)
          · have cx8_ : (S_.1 5 ii_ 2) = (-1) := of_decide_eq_true cx8_
            have hIx9_ : gi (sm_pI S_ 5 ii_ 2 k_) := gi_pI hI_ (show (-1) ≤ k_ ∧ k_ ≤ 11 from ⟨by omega, by omega⟩)
            have hFx10_ : ai_fr (sx_W vw_89v) S0_ (sm_pI S_ 5 ii_ 2 k_) := ai_fr_tr hF_ (ai_fr_pI rfl)
            have hDx11_ : ilf ii_ S0_ (sm_pI S_ 5 ii_ 2 k_) := ilf_pI hD_ (Or.inr rfl)
            refine sm_T_go 3 (c1 := (76, [some (.inr (.inr (some (5, ii_)))), some (.inl k_), some (.inl 1)], [], sm_pI S_ 5 ii_ 2 k_)) rfl ?_
            refine sm_T_inc (a := 1) (z := 1) (v := k_) (w := k_ + 1) rfl rfl (by omega) (by omega) (by omega) ?_
            refine sm_T_go 1 (c1 := (7, [some (.inr (.inr (some (5, ii_)))), some (.inl (k_ + 1)), some (.inl 1)], [], sm_pI S_ 5 ii_ 2 k_)) rfl ?_
            refine sm_T_wk [some (.inr (.inr (some (5, ii_)))), some (.inl (k_ + 1)), none] (by exact ⟨rfl, rfl, trivial⟩) ?_
            refine ih_ (k_ + 1) (sm_pI S_ 5 ii_ 2 k_) hIx9_ hFx10_ ⟨?_, ?_, ?_, ?_, trivial⟩ ?_
            · omega
            · first | exact hc_ | exact lcl_fr (w_ := ([(5, 2)], [], [])) hc_ (ai_fr_pI rfl) rfl rfl rfl rfl rfl
            · rw [show (k_ + 1).toNat = k_.toNat + 1 by omega]
              have q9_ := l9_ (by omega)
              have r9_ := m9_ (by omega)
              rw [fiv_s]
              first | (rw [if_pos (by omega)]; refine rf_eq.trans ?_; omega) | (rw [if_neg (by omega)]; exact h1_)
            · exact hDx11_
            · omega
          · have cx8_ : ¬ ((S_.1 5 ii_ 2) = (-1)) := of_decide_eq_false cx8_
            refine sm_T_go 3 (c1 := (58, [some (.inr (.inr (some (5, ii_)))), some (.inl k_), some (.inl 1)], [.inl k_, .inr (.inr (some (57, (0 + ii_))))], S_)) rfl ?_
            refine sm_T_iald (n := 12) rfl rfl (by omega) (by omega) ?_
            have bx12_ : 0 ≤ S_.2.2.1 57 (0 + ii_) k_.toNat ∧ S_.2.2.1 57 (0 + ii_) k_.toNat ≤ 1000 := hI_.2 57 (0 + ii_) _
            refine sm_T_go 4 (c1 := (67, [some (.inr (.inr (some (5, ii_)))), some (.inl k_), some (.inl 1)], [.inl (S_.1 5 ii_ 2), .inr (.inr (some (57, (0 + ii_)))), .inl (S_.2.2.1 57 (0 + ii_) k_.toNat)], S_)) rfl ?_
            refine sm_T_iald (n := 12) rfl rfl (by omega) (by omega) ?_
            have bx13_ : 0 ≤ S_.2.2.1 57 (0 + ii_) (S_.1 5 ii_ 2).toNat ∧ S_.2.2.1 57 (0 + ii_) (S_.1 5 ii_ 2).toNat ≤ 1000 := hI_.2 57 (0 + ii_) _
            refine sm_T_br (a := 3) (z := 8) rfl (fun cx14_ => ?_) (fun cx14_ => ?_)
            · have cx14_ : (S_.2.2.1 57 (0 + ii_) (S_.1 5 ii_ 2).toNat) ≤ (S_.2.2.1 57 (0 + ii_) k_.toNat) := of_decide_eq_true cx14_
              refine sm_T_inc (a := 1) (z := 1) (v := k_) (w := k_ + 1) rfl rfl (by omega) (by omega) (by omega) ?_
              refine sm_T_go 1 (c1 := (7, [some (.inr (.inr (some (5, ii_)))), some (.inl (k_ + 1)), some (.inl 1)], [], S_)) rfl ?_
              refine sm_T_wk [some (.inr (.inr (some (5, ii_)))), some (.inl (k_ + 1)), none] (by exact ⟨rfl, rfl, trivial⟩) ?_
              refine ih_ (k_ + 1) S_ hI_ hF_ ⟨?_, ?_, ?_, ?_, trivial⟩ ?_
              · omega
              · first | exact hc_ | exact lcl_fr (w_ := ([(5, 2)], [], [])) hc_ (ai_fr_pI rfl) rfl rfl rfl rfl rfl
              · rw [show (k_ + 1).toNat = k_.toNat + 1 by omega]
                have q9_ := l9_ (by omega)
                have r9_ := m9_ (by omega)
                rw [fiv_s]
                first | (rw [if_pos (by omega)]; refine rf_eq.trans ?_; omega) | (rw [if_neg (by omega)]; exact h1_)
              · exact hD_
              · omega
            · have cx14_ : ¬ ((S_.2.2.1 57 (0 + ii_) (S_.1 5 ii_ 2).toNat) ≤ (S_.2.2.1 57 (0 + ii_) k_.toNat)) := of_decide_eq_false cx14_
              have hIx15_ : gi (sm_pI S_ 5 ii_ 2 k_) := gi_pI hI_ (show (-1) ≤ k_ ∧ k_ ≤ 11 from ⟨by omega, by omega⟩)
              have hFx16_ : ai_fr (sx_W vw_89v) S0_ (sm_pI S_ 5 ii_ 2 k_) := ai_fr_tr hF_ (ai_fr_pI rfl)
              have hDx17_ : ilf ii_ S0_ (sm_pI S_ 5 ii_ 2 k_) := ilf_pI hD_ (Or.inr rfl)
              refine sm_T_go 3 (c1 := (76, [some (.inr (.inr (some (5, ii_)))), some (.inl k_), some (.inl 1)], [], sm_pI S_ 5 ii_ 2 k_)) rfl ?_
              refine sm_T_inc (a := 1) (z := 1) (v := k_) (w := k_ + 1) rfl rfl (by omega) (by omega) (by omega) ?_
              refine sm_T_go 1 (c1 := (7, [some (.inr (.inr (some (5, ii_)))), some (.inl (k_ + 1)), some (.inl 1)], [], sm_pI S_ 5 ii_ 2 k_)) rfl ?_
              refine sm_T_wk [some (.inr (.inr (some (5, ii_)))), some (.inl (k_ + 1)), none] (by exact ⟨rfl, rfl, trivial⟩) ?_
              refine ih_ (k_ + 1) (sm_pI S_ 5 ii_ 2 k_) hIx15_ hFx16_ ⟨?_, ?_, ?_, ?_, trivial⟩ ?_
              · omega
              · first | exact hc_ | exact lcl_fr (w_ := ([(5, 2)], [], [])) hc_ (ai_fr_pI rfl) rfl rfl rfl rfl rfl
              · rw [show (k_ + 1).toNat = k_.toNat + 1 by omega]
                have q9_ := l9_ (by omega)
                have r9_ := m9_ (by omega)
                rw [fiv_s]
                first | (rw [if_pos (by omega)]; refine rf_eq.trans ?_; omega) | (rw [if_neg (by omega)]; exact h1_)
              · exact hDx17_
              · omega
set_option maxHeartbeats 400000 in
theorem vc_89v {sc_ : Nat × (Nat → Int)} (ii_ : Nat) (K_ : Nat) (L_ : pL) (S0_ : sm_S) (hI_ : gi S0_) (hl_ : lcl ii_ K_ L_ S0_) (hK_ : K_ ≤ 12) : sm_T (mt_P sc_) 0 89 (0, [some (.inr (.inr (some (5, ii_)))), none, none], [], S0_) (fun ro9_ => ∃ u_ S1_, ro9_ = (.inl u_, S1_, 0) ∧ vq_89v ii_ K_ L_ S0_ u_ S1_) := by
  have hF_ : ai_fr (sx_W vw_89v) S0_ S0_ := ai_fr_rf
  have hD_ : ilf ii_ S0_ S0_ := ilf_rf
  have hIx1_ : gi (sm_pI S0_ 5 ii_ 2 (-1)) := gi_pI hI_ (show (-1) ≤ (-1) ∧ (-1) ≤ 11 from ⟨by omega, by omega⟩)
  have hFx2_ : ai_fr (sx_W vw_89v) S0_ (sm_pI S0_ 5 ii_ 2 (-1)) := ai_fr_tr hF_ (ai_fr_pI rfl)
  have hDx3_ : ilf ii_ S0_ (sm_pI S0_ 5 ii_ 2 (-1)) := ilf_pI hD_ (Or.inr rfl)
  refine sm_T_go 5 (c1 := (7, [some (.inr (.inr (some (5, ii_)))), some (.inl 0), none], [], sm_pI S0_ 5 ii_ 2 (-1))) rfl ?_
  refine (vl_89v ii_ K_ L_ S0_ hl_ hK_ _) 0 (sm_pI S0_ 5 ii_ 2 (-1)) hIx1_ hFx2_ ⟨?_, ?_, ?_, ?_, trivial⟩ (Nat.lt_succ_self _)
  · omega
  · exact lcl_fr (w_ := ([(5, 2)], [], [])) hl_ (ai_fr_pI rfl) rfl rfl rfl rfl rfl
  · exact rf_eq
  · exact hDx3_
/-! Reader.readLibrary -/
def vw_131v : sx_Wl := ([(5, 0), (5, 1), (5, 2), (7, 2), (7, 14), (7, 16), (7, 17), (10, 2), (10, 3), (10, 4), (10, 5), (10, 6), (10, 7), (10, 8)], [55, 56, 57, 58, 74, 77, 78, 82, 83, 84], [(7, 11)])
def vq_131v (b_ : Nat → Int) (n_ : Nat) (ii_ : Nat) (S0_ : sm_S) (u_ : Option sm_V) (S1_ : sm_S) : Prop := u_ = none ∧ gi S1_ ∧ ai_fr (sx_W vw_131v) S0_ S1_ ∧ (ilf ii_ S0_ S1_ ∧ (∃ r_, (p_li b_ n_) = .inr r_ ∧ lcl ii_ r_.1 r_.2 S1_ ∧ S1_.1 5 ii_ 2 = fiv r_.2 r_.1 ∧ ∀ i_, S1_.1 5 i_ 0 = if i_ = ii_ then 1 else S0_.1 5 i_ 0))
def vx_131v (b_ : Nat → Int) (n_ : Nat) (ii_ : Nat) (S0_ : sm_S) (S1_ : sm_S) : Prop := gi S1_ ∧ ai_fr (sx_W vw_131v) S0_ S1_ ∧ (ilf ii_ S0_ S1_ ∧ ∃ e_, (p_li b_ n_) = .inl e_ ∧ ter S1_ e_ ∧ ∀ i_, S1_.1 5 i_ 0 = S0_.1 5 i_ 0)
set_option maxHeartbeats 2000000 in
set_option maxRecDepth 20000 in
theorem vl_131v {sc_ : Nat × (Nat → Int)} (b_ : Nat → Int) (n_ : Nat) (ii_ : Nat) (S0_ : sm_S) (hb_ : S0_.2.2.1 98 0 = b_) (hn_ : (S0_.1 10 0 1) = (n_ : Int)) (hn1_ : n_ ≤ 1280) : ∀ nn_ : Nat, (∀ (g_ : Int) (S_ : sm_S), gi S_ → ai_fr (sx_W vw_131v) S0_ S_ → ((0 ≤ g_ ∧ g_ ≤ 12) ∧ (∀ i_, S_.1 5 i_ 0 = S0_.1 5 i_ 0) ∧ (S_.1 5 ii_ 1 = g_) ∧ (S_.2.1 7 0 11 = some ii_) ∧ (∃ f1_ L1_ p1_, ct b_ n_ p1_ S_ ∧ nmr b_ n_ 0 g_.toNat f1_ S_ ∧ lcl ii_ g_.toNat L1_ S_ ∧ ((g_ = 0 ∨ lx_kd b_ n_ p1_ ≠ 0) → (p_li b_ n_) = p_lb b_ n_ (13 - g_.toNat) g_.toNat f1_ L1_ p1_) ∧ (g_ ≠ 0 → lx_kd b_ n_ p1_ = 0 → (p_li b_ n_) = .inr (g_.toNat, L1_))) ∧ (ilf ii_ S0_ S_) ∧ True) → ((10 * (20 - g_) + 5).toNat) < nn_ → sm_T (mt_P sc_) 5 131 (26, [some (.inr (.inr (some (7, 0)))), some (.inr (.inr (some (5, ii_)))), some (.inl g_), none, none, none, none, none], [], S_) (fun ro9_ => (∃ u_ S1_, ro9_ = (.inl u_, S1_, 0) ∧ vq_131v b_ n_ ii_ S0_ u_ S1_) ∨ ∃ S1_, ro9_ = (.inr 2, S1_, 1) ∧ vx_131v b_ n_ ii_ S0_ S1_)) ∧ (∀ (g_ : Int) (S_ : sm_S), gi S_ → ai_fr (sx_W vw_131v) S0_ S_ → ((0 ≤ g_ ∧ g_ ≤ 12) ∧ (∀ i_, S_.1 5 i_ 0 = S0_.1 5 i_ 0) ∧ (S_.1 5 ii_ 1 = g_) ∧ (S_.2.1 7 0 11 = some ii_) ∧ (∃ f1_ L1_ p1_, ct b_ n_ p1_ S_ ∧ nmr b_ n_ 0 g_.toNat f1_ S_ ∧ lcl ii_ g_.toNat L1_ S_ ∧ (p_li b_ n_) = p_lb b_ n_ (13 - g_.toNat) g_.toNat f1_ L1_ p1_) ∧ (ilf ii_ S0_ S_) ∧ True) → ((10 * (20 - g_) + 3).toNat) < nn_ → sm_T (mt_P sc_) 5 131 (49, [some (.inr (.inr (some (7, 0)))), some (.inr (.inr (some (5, ii_)))), some (.inl g_), none, none, none, none, none], [], S_) (fun ro9_ => (∃ u_ S1_, ro9_ = (.inl u_, S1_, 0) ∧ vq_131v b_ n_ ii_ S0_ u_ S1_) ∨ ∃ S1_, ro9_ = (.inr 2, S1_, 1) ∧ vx_131v b_ n_ ii_ S0_ S1_)) ∧ (∀ (g_ : Int) (fr_ : Int) (tb_ : Int) (ar_ : Int) (dl_ : Int) (S_ : sm_S), gi S_ → ai_fr (sx_W vw_131v) S0_ S_ → ((0 ≤ g_ ∧ g_ ≤ 11) ∧ (∀ i_, S_.1 5 i_ 0 = S0_.1 5 i_ 0) ∧ (S_.1 5 ii_ 1 = g_) ∧ (S_.2.1 7 0 11 = some ii_) ∧ ((0 ≤ tb_ ∧ tb_ ≤ 255) ∧ (0 ≤ ar_ ∧ ar_ ≤ 1000) ∧ (0 ≤ dl_ ∧ dl_ ≤ 100)) ∧ (∃ (f1_ : Nat → Nat) (L2_ : pL) (rc_ rn_ K6_ : Nat), ct b_ n_ rn_ S_ ∧ nmr b_ n_ 0 g_.toNat f1_ S_ ∧ S_.2.2.1 77 0 (1 : Int).toNat = (K6_ : Int) ∧ K6_ ≤ 3 ∧ nmp b_ n_ rc_ ∧ fr_ = (16 * rc_ + lx_sz b_ n_ rc_ : Nat) ∧ lcl ii_ g_.toNat L2_ S_ ∧ L2_ g_.toNat = ((K6_ : Int), tb_, ar_, dl_) ∧ (p_li b_ n_) = (if lx_kd b_ n_ rn_ = 0 then .inr (g_.toNat + 1, L2_) else p_lb b_ n_ (12 - g_.toNat) (g_.toNat + 1) (n_up f1_ g_.toNat rc_) L2_ rn_)) ∧ (ilf ii_ S0_ S_) ∧ True) → ((10 * (20 - g_) + 1).toNat) < nn_ → sm_T (mt_P sc_) 5 131 (155, [some (.inr (.inr (some (7, 0)))), some (.inr (.inr (some (5, ii_)))), some (.inl g_), some (.inl fr_), none, some (.inl tb_), some (.inl ar_), some (.inl dl_)], [], S_) (fun ro9_ => (∃ u_ S1_, ro9_ = (.inl u_, S1_, 0) ∧ vq_131v b_ n_ ii_ S0_ u_ S1_) ∨ ∃ S1_, ro9_ = (.inr 2, S1_, 1) ∧ vx_131v b_ n_ ii_ S0_ S1_)) := by
  intro nn_
  induction nn_ with
  | zero => exact ⟨fun _ _ _ _ _ h_ => absurd h_ (Nat.not_lt_zero _), fun _ _ _ _ _ h_ => absurd h_ (Nat.not_lt_zero _), fun _ _ _ _ _ _ _ _ _ h_ => absurd h_ (Nat.not_lt_zero _)⟩
  | succ nn_ ih_ =>
    refine ⟨?_, ?_, ?_⟩
    · rintro g_ S_ hI_ hF_ ⟨h0_, us26_, ct26_, lb26_, h1_, hD_, -⟩ hm_
      obtain ⟨f1_, L1_, p1_, y1_, y2_, lc26_, hP1_, hP2_⟩ := h1_
      have kd1_ := y1_.2.2.2.2.2.2.2.1
      refine sm_T_go 2 (c1 := (29, [some (.inr (.inr (some (7, 0)))), some (.inr (.inr (some (5, ii_)))), some (.inl g_), none, none, none, none, none], [.inl 12, .inl g_], S_)) rfl ?_
      refine sm_T_br (a := 4) (z := 170) rfl (fun cx1_ => ?_) (fun cx1_ => ?_)
      · have cx1_ : 12 < g_ := of_decide_eq_true cx1_
        exfalso; omega
      · have cx1_ : ¬ (12 < g_) := of_decide_eq_false cx1_
        have bx2_ : 0 ≤ S_.1 5 ii_ 1 ∧ S_.1 5 ii_ 1 ≤ 12 := hI_.1 5 ii_ 1 rfl
        refine sm_T_go 2 (c1 := (36, [some (.inr (.inr (some (7, 0)))), some (.inr (.inr (some (5, ii_)))), some (.inl g_), none, none, none, none, none], [.inl (S_.1 5 ii_ 1)], S_)) rfl ?_
        refine sm_T_b0 (a := 0) (z := 13) rfl (fun cx3_ => ?_) (fun cx3_ => ?_)
        · have cx3_ : (S_.1 5 ii_ 1) = 0 := of_decide_eq_true cx3_
          have hP_ := hP1_ (Or.inl (by omega))
          refine sm_T_go 0 (c1 := (49, [some (.inr (.inr (some (7, 0)))), some (.inr (.inr (some (5, ii_)))), some (.inl g_), none, none, none, none, none], [], S_)) rfl ?_
          refine ih_.2.1 g_ S_ hI_ hF_ ⟨?_, ?_, ?_, ?_, ?_, ?_, trivial⟩ ?_
          · omega
          · exact us26_
          · exact ct26_
          · exact lb26_
          · exact ⟨f1_, L1_, p1_, y1_, y2_, lc26_, hP_⟩
          · exact hD_
          · omega
        · have cx3_ : ¬ ((S_.1 5 ii_ 1) = 0) := of_decide_eq_false cx3_
          have bx4_ : (-128) ≤ S_.1 10 0 2 ∧ S_.1 10 0 2 ≤ 257 := hI_.1 10 0 2 rfl
          refine sm_T_go 3 (c1 := (46, [some (.inr (.inr (some (7, 0)))), some (.inr (.inr (some (5, ii_)))), some (.inl g_), none, none, none, none, none], [.inl (S_.1 10 0 2)], S_)) rfl ?_
          refine sm_T_b0 (a := 0) (z := 153) rfl (fun cx5_ => ?_) (fun cx5_ => ?_)
          · have cx5_ : (S_.1 10 0 2) = 0 := of_decide_eq_true cx5_
            have hP_ := hP2_ (by omega) (by omega)
            refine sm_T_go 1 (c1 := (200, [some (.inr (.inr (some (7, 0)))), some (.inr (.inr (some (5, ii_)))), some (.inl g_), none, none, none, none, none], [.inr (.inr (some (5, ii_)))], S_)) rfl ?_
            refine sm_T_cal (d1 := 0) (Q1 := vq_89v ii_ g_.toNat L1_ S_) rfl rfl (by decide) (vc_89v ii_ g_.toNat L1_ S_ hI_ (by exact lc26_) (by omega)) (fun u_ Sx6_ px9_ => ?_)
            obtain ⟨rfl, hIx7_, hFx8_, px9_⟩ := px9_
            have hFx10_ : ai_fr (sx_W vw_131v) S0_ Sx6_ := ai_fr_tr hF_ (fr_le hFx8_ rfl)
            obtain ⟨dx12_, px9_⟩ := px9_
            have hDx11_ : ilf ii_ S0_ Sx6_ := ilf_tr hD_ dx12_
            have ex13_ : Sx6_.1 10 0 2 = S_.1 10 0 2 := hFx8_.1 10 0 2 rfl
            have ex14_ : Sx6_.1 5 ii_ 1 = S_.1 5 ii_ 1 := hFx8_.1 5 ii_ 1 rfl
            have e200_ := px9_
            have us200_ : ∀ i_, Sx6_.1 5 i_ 0 = S0_.1 5 i_ 0 := fun i_ => (hFx8_.1 5 i_ 0 rfl).trans (us26_ i_)
            have hIx15_ : gi (sm_pI Sx6_ 5 ii_ 0 1) := gi_pI hIx7_ (show 0 ≤ 1 ∧ 1 ≤ 1 from ⟨by omega, by omega⟩)
            have hFx16_ : ai_fr (sx_W vw_131v) S0_ (sm_pI Sx6_ 5 ii_ 0 1) := ai_fr_tr hFx10_ (ai_fr_pI rfl)
            have hDx17_ : ilf ii_ S0_ (sm_pI Sx6_ 5 ii_ 0 1) := ilf_pI hDx11_ (Or.inr rfl)
            refine sm_T_go 3 (c1 := (208, [some (.inr (.inr (some (7, 0)))), some (.inr (.inr (some (5, ii_)))), some (.inl g_), none, none, none, none, none], [], sm_pI Sx6_ 5 ii_ 0 1)) rfl ?_
            refine sm_T_rv rfl (Or.inl ⟨_, _, rfl, rfl, hIx15_, hFx16_, ?_⟩)
            refine ⟨hDx17_, ?_⟩
            refine ⟨_, hP_, lcl_fr (w_ := ([(5, 0)], [], [])) e200_.2 (ai_fr_pI rfl) rfl rfl rfl rfl rfl, (rf_nk (by decide)).trans e200_.1, fun i_ => ?_⟩
            rw [rd_ff]
            by_cases z_ : i_ = ii_
            · rw [if_pos ⟨rfl, z_, rfl⟩, if_pos z_]
            · rw [if_neg (fun q_ => z_ q_.2.1), if_neg z_]; exact us200_ i_
          · have cx5_ : ¬ ((S_.1 10 0 2) = 0) := of_decide_eq_false cx5_
            have hP_ := hP1_ (Or.inr (by omega))
            refine sm_T_go 0 (c1 := (49, [some (.inr (.inr (some (7, 0)))), some (.inr (.inr (some (5, ii_)))), some (.inl g_), none, none, none, none, none], [], S_)) rfl ?_
            refine ih_.2.1 g_ S_ hI_ hF_ ⟨?_, ?_, ?_, ?_, ?_, ?_, trivial⟩ ?_
            · omega
            · exact us26_
            · exact ct26_
            · exact lb26_
            · exact ⟨f1_, L1_, p1_, y1_, y2_, lc26_, hP_⟩
            · exact hD_
            · omega
    · rintro g_ S_ hI_ hF_ ⟨h0_, us49_, ct49_, lb49_, h1_, hD_, -⟩ hm_
      obtain ⟨f1_, L1_, p1_, y1_, y2_, lc49_, hP_⟩ := h1_
      obtain ⟨kk_, hkk_⟩ : ∃ kk_, kk_ = (k_lb b_ n_ (12 - g_.toNat) g_.toNat f1_ L1_) := ⟨_, rfl⟩
      have Q0_ : (p_li b_ n_) = e01 b_ n_ kk_ g_.toNat f1_ p1_ := by rw [hP_, show 13 - g_.toNat = (12 - g_.toNat) + 1 by omega, lb_k, hkk_]
      clear hP_
      refine sm_T_go 3 (c1 := (55, [some (.inr (.inr (some (7, 0)))), some (.inr (.inr (some (5, ii_)))), some (.inl g_), none, none, none, none, none], [.inl 9, .inr (.inr (some (10, 0)))], S_)) rfl ?_
      refine sm_T_calx (d1 := 2) (Q1 := vq_188 9 b_ n_ p1_ S_) (Q2 := vx_188 9 b_ n_ p1_ S_) rfl rfl (by decide) (vc_188 9 b_ n_ p1_ S_ hI_ (by exact y1_)) rfl (fun Sx1_ px4_ => ?_) (fun u_ Sx1_ px4_ => ?_)
      · obtain ⟨hIx2_, hFx3_, px4_⟩ := px4_
        refine Or.inr ⟨_, rfl, hIx2_, ai_fr_tr hF_ (fr_le hFx3_ rfl), ?_⟩
        refine ⟨ilf_tr hD_ (ilf_fr hFx3_ (by decide) (by decide)), ?_⟩
        obtain ⟨e9_, w1_, w2_⟩ := px4_
        refine ⟨e9_, ?_, w2_, fun i_ => (hFx3_.1 5 i_ 0 rfl).trans (us49_ i_)⟩
        rw [Q0_]; unfold e01; rw [pb_l w1_]
      obtain ⟨rfl, hIx2_, hFx3_, px4_⟩ := px4_
      have hFx5_ : ai_fr (sx_W vw_131v) S0_ Sx1_ := ai_fr_tr hF_ (fr_le hFx3_ rfl)
      have hDx6_ : ilf ii_ S0_ Sx1_ := ilf_tr hD_ (ilf_fr hFx3_ (by decide) (by decide))
      obtain ⟨r55_, a55_, c55_⟩ := px4_
      have k55_ := p_nd_ok (by decide) y1_.2.2.2.1 a55_
      have us55_ : ∀ i_, Sx1_.1 5 i_ 0 = S0_.1 5 i_ 0 := fun i_ => (hFx3_.1 5 i_ 0 rfl).trans (us49_ i_)
      have ct55_ := (hFx3_.1 5 ii_ 1 rfl).trans ct49_
      have lb55_ := (hFx3_.2.1 7 0 11 rfl).trans lb49_
      have lc55_ := lcl_fr lc49_ hFx3_ rfl rfl rfl rfl rfl
      have Q1_ : (p_li b_ n_) = e02 b_ n_ kk_ g_.toNat f1_ r55_ := by rw [Q0_]; unfold e01; rw [pb_r a55_]
      have n55_ := nmr_fr y2_ hFx3_ rfl rfl
      refine sm_T_go 3 (c1 := (62, [some (.inr (.inr (some (7, 0)))), some (.inr (.inr (some (5, ii_)))), some (.inl g_), none, none, none, none, none], [.inl 12, .inl 0, .inr (.inr (some (7, 0)))], Sx1_)) rfl ?_
      refine sm_T_calx (d1 := 2) (Q1 := vq_120 0 12 b_ n_ r55_ 0 g_.toNat f1_ Sx1_) (Q2 := vx_120 0 12 b_ n_ r55_ 0 g_.toNat f1_ Sx1_) rfl rfl (by decide) (vc_120 0 12 b_ n_ r55_ 0 g_.toNat f1_ Sx1_ hIx2_ (by exact c55_) (by rfl) (by exact n55_)) rfl (fun Sx7_ px10_ => ?_) (fun u_ Sx7_ px10_ => ?_)
      · obtain ⟨hIx8_, hFx9_, px10_⟩ := px10_
        refine Or.inr ⟨_, rfl, hIx8_, ai_fr_tr hFx5_ (fr_le hFx9_ rfl), ?_⟩
        refine ⟨ilf_tr hDx6_ (ilf_fr hFx9_ (by decide) (by decide)), ?_⟩
        obtain ⟨e9_, w1_, w2_⟩ := px10_
        refine ⟨e9_, ?_, w2_, fun i_ => (hFx9_.1 5 i_ 0 rfl).trans (us55_ i_)⟩
        rw [Q1_]; unfold e02; rw [pb_l w1_]
      obtain ⟨vx12_, rfl, hIx8_, hFx9_, px10_⟩ := px10_
      have hFx11_ : ai_fr (sx_W vw_131v) S0_ Sx7_ := ai_fr_tr hFx5_ (fr_le hFx9_ rfl)
      have hDx13_ : ilf ii_ S0_ Sx7_ := ilf_tr hDx6_ (ilf_fr hFx9_ (by decide) (by decide))
      obtain ⟨nv_, nk_, r62_, a62_, c62_⟩ := px10_
      have nn62_ := nn_lt c55_.2.2.2.1 a62_
      have gl_ : g_ ≤ 11 := by have := nn62_.1; omega
      have n62_ := nmr_fr n55_ hFx9_ rfl rfl
      have us62_ : ∀ i_, Sx7_.1 5 i_ 0 = S0_.1 5 i_ 0 := fun i_ => (hFx9_.1 5 i_ 0 rfl).trans (us55_ i_)
      have ct62_ := (hFx9_.1 5 ii_ 1 rfl).trans ct55_
      have lb62_ := (hFx9_.2.1 7 0 11 rfl).trans lb55_
      have lc62_ := lcl_fr lc55_ hFx9_ rfl rfl rfl rfl rfl
      have Q2_ : (p_li b_ n_) = e03 b_ n_ kk_ r55_ r62_ := by rw [Q1_]; unfold e02; rw [pb_r a62_]
      refine sm_T_go 4 (c1 := (72, [some (.inr (.inr (some (7, 0)))), some (.inr (.inr (some (5, ii_)))), some (.inl g_), some (.inl vx12_), none, none, none, none], [.inl 40, .inr (.inr (some (10, 0)))], Sx7_)) rfl ?_
      refine sm_T_calx (d1 := 2) (Q1 := vq_188 40 b_ n_ r62_ Sx7_) (Q2 := vx_188 40 b_ n_ r62_ Sx7_) rfl rfl (by decide) (vc_188 40 b_ n_ r62_ Sx7_ hIx8_ (by exact c62_)) rfl (fun Sx14_ px17_ => ?_) (fun u_ Sx14_ px17_ => ?_)
      · obtain ⟨hIx15_, hFx16_, px17_⟩ := px17_
        refine Or.inr ⟨_, rfl, hIx15_, ai_fr_tr hFx11_ (fr_le hFx16_ rfl), ?_⟩
        refine ⟨ilf_tr hDx13_ (ilf_fr hFx16_ (by decide) (by decide)), ?_⟩
        obtain ⟨e9_, w1_, w2_⟩ := px17_
        refine ⟨e9_, ?_, w2_, fun i_ => (hFx16_.1 5 i_ 0 rfl).trans (us62_ i_)⟩
        rw [Q2_]; unfold e03; rw [pb_l w1_]
      obtain ⟨rfl, hIx15_, hFx16_, px17_⟩ := px17_
      have hFx18_ : ai_fr (sx_W vw_131v) S0_ Sx14_ := ai_fr_tr hFx11_ (fr_le hFx16_ rfl)
      have hDx19_ : ilf ii_ S0_ Sx14_ := ilf_tr hDx13_ (ilf_fr hFx16_ (by decide) (by decide))
      obtain ⟨r72_, a72_, c72_⟩ := px17_
      have k72_ := p_nd_ok (by decide) c62_.2.2.2.1 a72_
      have us72_ : ∀ i_, Sx14_.1 5 i_ 0 = S0_.1 5 i_ 0 := fun i_ => (hFx16_.1 5 i_ 0 rfl).trans (us62_ i_)
      have ct72_ := (hFx16_.1 5 ii_ 1 rfl).trans ct62_
      have lb72_ := (hFx16_.2.1 7 0 11 rfl).trans lb62_
      have lc72_ := lcl_fr lc62_ hFx16_ rfl rfl rfl rfl rfl
      have Q3_ : (p_li b_ n_) = e04 b_ n_ kk_ r55_ r72_ := by rw [Q2_]; unfold e03; rw [pb_r a72_]
      have n72_ := nmr_fr n62_ hFx16_ rfl rfl
      refine sm_T_go 1 (c1 := (76, [some (.inr (.inr (some (7, 0)))), some (.inr (.inr (some (5, ii_)))), some (.inl g_), some (.inl vx12_), none, none, none, none], [.inr (.inr (some (7, 0)))], Sx14_)) rfl ?_
      refine sm_T_calx (d1 := 3) (Q1 := vq_132 b_ n_ r72_ g_.toNat f1_ Sx14_) (Q2 := vx_132 b_ n_ r72_ g_.toNat f1_ Sx14_) rfl rfl (by decide) (vc_132 b_ n_ r72_ g_.toNat f1_ Sx14_ hIx15_ (by exact c72_) (by exact ⟨n72_, by omega⟩)) rfl (fun Sx20_ px23_ => ?_) (fun u_ Sx20_ px23_ => ?_)
      · obtain ⟨hIx21_, hFx22_, px23_⟩ := px23_
        refine Or.inr ⟨_, rfl, hIx21_, ai_fr_tr hFx18_ (fr_le hFx22_ rfl), ?_⟩
        refine ⟨ilf_tr hDx19_ (ilf_fr hFx22_ (by decide) (by decide)), ?_⟩
        obtain ⟨e9_, w1_, w2_⟩ := px23_
        refine ⟨e9_, ?_, w2_, fun i_ => (hFx22_.1 5 i_ 0 rfl).trans (us72_ i_)⟩
        rw [Q3_]; exact ci_e2 w1_
      obtain ⟨rfl, hIx21_, hFx22_, px23_⟩ := px23_
      have hFx24_ : ai_fr (sx_W vw_131v) S0_ Sx20_ := ai_fr_tr hFx18_ (fr_le hFx22_ rfl)
      have hDx25_ : ilf ii_ S0_ Sx20_ := ilf_tr hDx19_ (ilf_fr hFx22_ (by decide) (by decide))
      obtain ⟨K6_, f6_, q76_, r76_, a76_, b76_, c76_, n76_, m76_, K6b, lt76_⟩ := px23_
      have us76_ : ∀ i_, Sx20_.1 5 i_ 0 = S0_.1 5 i_ 0 := fun i_ => (hFx22_.1 5 i_ 0 rfl).trans (us72_ i_)
      have ct76_ := (hFx22_.1 5 ii_ 1 rfl).trans ct72_
      have lb76_ := (hFx22_.2.1 7 0 11 rfl).trans lb72_
      have lc76_ := lcl_fr lc72_ hFx22_ rfl rfl rfl rfl rfl
      have Q4_ : (p_li b_ n_) = e05 b_ n_ kk_ r55_ (K6_, f6_, q76_) := by rw [Q3_]; unfold e04; rw [pb_r a76_]
      have Q5_ : (p_li b_ n_) = e06 b_ n_ kk_ r55_ (K6_, f6_, q76_) r76_ := by rw [Q4_]; unfold e05; rw [pb_r b76_]
      refine sm_T_go 3 (c1 := (85, [some (.inr (.inr (some (7, 0)))), some (.inr (.inr (some (5, ii_)))), some (.inl g_), some (.inl vx12_), none, none, none, none], [.inl 61, .inr (.inr (some (10, 0)))], Sx20_)) rfl ?_
      refine sm_T_calx (d1 := 2) (Q1 := vq_188 61 b_ n_ r76_ Sx20_) (Q2 := vx_188 61 b_ n_ r76_ Sx20_) rfl rfl (by decide) (vc_188 61 b_ n_ r76_ Sx20_ hIx21_ (by exact c76_)) rfl (fun Sx26_ px29_ => ?_) (fun u_ Sx26_ px29_ => ?_)
      · obtain ⟨hIx27_, hFx28_, px29_⟩ := px29_
        refine Or.inr ⟨_, rfl, hIx27_, ai_fr_tr hFx24_ (fr_le hFx28_ rfl), ?_⟩
        refine ⟨ilf_tr hDx25_ (ilf_fr hFx28_ (by decide) (by decide)), ?_⟩
        obtain ⟨e9_, w1_, w2_⟩ := px29_
        refine ⟨e9_, ?_, w2_, fun i_ => (hFx28_.1 5 i_ 0 rfl).trans (us76_ i_)⟩
        rw [Q5_]; unfold e06; rw [pb_l w1_]
      obtain ⟨rfl, hIx27_, hFx28_, px29_⟩ := px29_
      have hFx30_ : ai_fr (sx_W vw_131v) S0_ Sx26_ := ai_fr_tr hFx24_ (fr_le hFx28_ rfl)
      have hDx31_ : ilf ii_ S0_ Sx26_ := ilf_tr hDx25_ (ilf_fr hFx28_ (by decide) (by decide))
      obtain ⟨r85_, a85_, c85_⟩ := px29_
      have k85_ := p_nd_ok (by decide) c76_.2.2.2.1 a85_
      have us85_ : ∀ i_, Sx26_.1 5 i_ 0 = S0_.1 5 i_ 0 := fun i_ => (hFx28_.1 5 i_ 0 rfl).trans (us76_ i_)
      have ct85_ := (hFx28_.1 5 ii_ 1 rfl).trans ct76_
      have lb85_ := (hFx28_.2.1 7 0 11 rfl).trans lb76_
      have lc85_ := lcl_fr lc76_ hFx28_ rfl rfl rfl rfl rfl
      have Q6_ : (p_li b_ n_) = e07 b_ n_ kk_ r55_ (K6_, f6_, q76_) r85_ := by rw [Q5_]; unfold e06; rw [pb_r a85_]
      have n85_ := nmr_fr n76_ hFx28_ rfl rfl
      have m85_ := nmr_fr m76_ hFx28_ rfl rfl
      have ts_ := pw_tb K6b.2
      have cnK_ : Sx26_.2.2.1 77 0 (1 : Int).toNat = (K6_ : Int) := n85_.1
      have sh1_ : i_shl 1 (Sx26_.2.2.1 77 0 (1 : Int).toNat) = i_shl 1 (K6_ : Int) := by rw [cnK_]
      have sh2_ : i_shl 1 (i_shl 1 (Sx26_.2.2.1 77 0 (1 : Int).toNat)) = 2 ^ (2 ^ K6_) := by rw [sh1_]; exact ts_.1
      have tsb_ := ts_.2
      refine sm_T_go 4 (c1 := (94, [some (.inr (.inr (some (7, 0)))), some (.inr (.inr (some (5, ii_)))), some (.inl g_), some (.inl vx12_), none, none, none, none], [.inl 1, .inr (.inr (some (77, 0))), .inl 1], Sx26_)) rfl ?_
      refine sm_T_iald (n := 17) rfl rfl (by omega) (by omega) ?_
      have bx32_ : 0 ≤ Sx26_.2.2.1 77 0 (1 : Int).toNat ∧ Sx26_.2.2.1 77 0 (1 : Int).toNat ≤ 40 := hIx27_.2 77 0 _
      refine sm_T_bin (w := (i_shl 1 (Sx26_.2.2.1 77 0 (1 : Int).toNat))) rfl rfl ?_
      refine sm_T_go 2 (c1 := (99, [some (.inr (.inr (some (7, 0)))), some (.inr (.inr (some (5, ii_)))), some (.inl g_), some (.inl vx12_), some (.inl (i_shl 1 (Sx26_.2.2.1 77 0 (1 : Int).toNat))), none, none, none], [.inr (.inr (some (7, 0)))], Sx26_)) rfl ?_
      refine sm_T_calx (d1 := 4) (Q1 := vq_134 b_ n_ true (fun _ => 0, fun _ => 0, fun _ => 0, fun _ => 0, fun _ => 0) 0 K6_ f6_ (p_ex b_ n_ true (p_pl b_ n_ K6_ f6_) [] r85_) [] r85_ Sx26_) (Q2 := vx_134 b_ n_ true (fun _ => 0, fun _ => 0, fun _ => 0, fun _ => 0, fun _ => 0) 0 K6_ f6_ (p_ex b_ n_ true (p_pl b_ n_ K6_ f6_) [] r85_) [] r85_ Sx26_) rfl rfl (by decide) (vc_134 b_ n_ true (fun _ => 0, fun _ => 0, fun _ => 0, fun _ => 0, fun _ => 0) 0 K6_ f6_ (p_ex b_ n_ true (p_pl b_ n_ K6_ f6_) [] r85_) [] r85_ Sx26_ hIx27_ (by exact c85_) (by exact ⟨fun z_ => (by rw [lb85_] at z_; cases z_), fun z_ => (by cases z_)⟩) (by exact fun z_ => absurd z_ (by decide)) (by exact Nat.zero_le _) (by exact fun z_ => absurd z_ (by decide)) (by exact fun _ => ⟨n85_, K6b.2⟩) (by exact p_ex_x hn1_ pl_ok c85_.2.2.2.1 c85_.2.2.2.2.1 (Nat.zero_le _))) rfl (fun Sx33_ px36_ => ?_) (fun u_ Sx33_ px36_ => ?_)
      · obtain ⟨hIx34_, hFx35_, px36_⟩ := px36_
        refine Or.inr ⟨_, rfl, hIx34_, ai_fr_tr hFx30_ (fr_le hFx35_ rfl), ?_⟩
        refine ⟨ilf_tr hDx31_ (ilf_fr hFx35_ (by decide) (by decide)), ?_⟩
        obtain ⟨e9_, w1_, w2_⟩ := px36_
        refine ⟨e9_, ?_, w2_, fun i_ => (hFx35_.1 5 i_ 0 rfl).trans (us85_ i_)⟩
        rw [Q6_]; unfold e07; rw [pb_l w1_]
      obtain ⟨vx38_, rfl, hIx34_, hFx35_, px36_⟩ := px36_
      have hFx37_ : ai_fr (sx_W vw_131v) S0_ Sx33_ := ai_fr_tr hFx30_ (fr_le hFx35_ rfl)
      have hDx39_ : ilf ii_ S0_ Sx33_ := ilf_tr hDx31_ (ilf_fr hFx35_ (by decide) (by decide))
      obtain ⟨x99_, w99_, a99_, g99_, v99_, vb99_, c99_, lt99_, cd99_, l99_⟩ := px36_
      clear cd99_
      have n99_ := nmr_fr n85_ hFx35_ rfl rfl
      have m99_ := nmr_fr m85_ hFx35_ rfl rfl
      have tb99_ := i_and_m (x_ := vx38_) (y_ := 2 ^ (2 ^ K6_) - 1) (by omega) (by omega)
      have us99_ : ∀ i_, Sx33_.1 5 i_ 0 = S0_.1 5 i_ 0 := fun i_ => (hFx35_.1 5 i_ 0 rfl).trans (us85_ i_)
      have ct99_ := (hFx35_.1 5 ii_ 1 rfl).trans ct85_
      have lb99_ := (hFx35_.2.1 7 0 11 rfl).trans lb85_
      have lc99_ := lcl_fr lc85_ hFx35_ rfl rfl rfl rfl rfl
      have Q7_ : (p_li b_ n_) = e08 b_ n_ kk_ r55_ (K6_, f6_, q76_) x99_ := by rw [Q6_]; unfold e07; rw [pb_r a99_]
      refine sm_T_go 2 (c1 := (105, [some (.inr (.inr (some (7, 0)))), some (.inr (.inr (some (5, ii_)))), some (.inl g_), some (.inl vx12_), some (.inl (i_shl 1 (Sx26_.2.2.1 77 0 (1 : Int).toNat))), none, none, none], [.inl (i_shl 1 (Sx26_.2.2.1 77 0 (1 : Int).toNat)), .inl 1, .inl vx38_], Sx33_)) rfl ?_
      refine sm_T_bin (w := (i_shl 1 (i_shl 1 (Sx26_.2.2.1 77 0 (1 : Int).toNat)))) rfl rfl ?_
      refine sm_T_go 1 (c1 := (107, [some (.inr (.inr (some (7, 0)))), some (.inr (.inr (some (5, ii_)))), some (.inl g_), some (.inl vx12_), some (.inl (i_shl 1 (Sx26_.2.2.1 77 0 (1 : Int).toNat))), none, none, none], [.inl 1, .inl (i_shl 1 (i_shl 1 (Sx26_.2.2.1 77 0 (1 : Int).toNat))), .inl vx38_], Sx33_)) rfl ?_
      refine sm_T_bin (w := (i_shl 1 (i_shl 1 (Sx26_.2.2.1 77 0 (1 : Int).toNat))) - 1) rfl (bi_sub (by omega) (by omega) (by omega)) ?_
      refine sm_T_bin (w := (i_and vx38_ ((i_shl 1 (i_shl 1 (Sx26_.2.2.1 77 0 (1 : Int).toNat))) - 1))) rfl rfl ?_
      refine sm_T_go 4 (c1 := (117, [some (.inr (.inr (some (7, 0)))), some (.inr (.inr (some (5, ii_)))), some (.inl g_), some (.inl vx12_), some (.inl (i_shl 1 (Sx26_.2.2.1 77 0 (1 : Int).toNat))), some (.inl (i_and vx38_ ((i_shl 1 (i_shl 1 (Sx26_.2.2.1 77 0 (1 : Int).toNat))) - 1))), none, none], [.inl 44, .inr (.inr (some (10, 0)))], Sx33_)) rfl ?_
      refine sm_T_calx (d1 := 2) (Q1 := vq_188 44 b_ n_ x99_.1 Sx33_) (Q2 := vx_188 44 b_ n_ x99_.1 Sx33_) rfl rfl (by decide) (vc_188 44 b_ n_ x99_.1 Sx33_ hIx34_ (by exact c99_)) rfl (fun Sx40_ px43_ => ?_) (fun u_ Sx40_ px43_ => ?_)
      · obtain ⟨hIx41_, hFx42_, px43_⟩ := px43_
        refine Or.inr ⟨_, rfl, hIx41_, ai_fr_tr hFx37_ (fr_le hFx42_ rfl), ?_⟩
        refine ⟨ilf_tr hDx39_ (ilf_fr hFx42_ (by decide) (by decide)), ?_⟩
        obtain ⟨e9_, w1_, w2_⟩ := px43_
        refine ⟨e9_, ?_, w2_, fun i_ => (hFx42_.1 5 i_ 0 rfl).trans (us99_ i_)⟩
        rw [Q7_]; unfold e08; rw [pb_l w1_]
      obtain ⟨rfl, hIx41_, hFx42_, px43_⟩ := px43_
      have hFx44_ : ai_fr (sx_W vw_131v) S0_ Sx40_ := ai_fr_tr hFx37_ (fr_le hFx42_ rfl)
      have hDx45_ : ilf ii_ S0_ Sx40_ := ilf_tr hDx39_ (ilf_fr hFx42_ (by decide) (by decide))
      obtain ⟨r117_, a117_, c117_⟩ := px43_
      have k117_ := p_nd_ok (by decide) c99_.2.2.2.1 a117_
      have us117_ : ∀ i_, Sx40_.1 5 i_ 0 = S0_.1 5 i_ 0 := fun i_ => (hFx42_.1 5 i_ 0 rfl).trans (us99_ i_)
      have ct117_ := (hFx42_.1 5 ii_ 1 rfl).trans ct99_
      have lb117_ := (hFx42_.2.1 7 0 11 rfl).trans lb99_
      have lc117_ := lcl_fr lc99_ hFx42_ rfl rfl rfl rfl rfl
      have Q8_ : (p_li b_ n_) = e09 b_ n_ kk_ r55_ (K6_, f6_, q76_) (p_tb K6_ (h_tp x99_.2.1)) r117_ := by rw [Q7_]; unfold e08; rw [pb_r a117_]
      have n117_ := nmr_fr n99_ hFx42_ rfl rfl
      have m117_ := nmr_fr m99_ hFx42_ rfl rfl
      refine sm_T_go 2 (c1 := (124, [some (.inr (.inr (some (7, 0)))), some (.inr (.inr (some (5, ii_)))), some (.inl g_), some (.inl vx12_), some (.inl (i_shl 1 (Sx26_.2.2.1 77 0 (1 : Int).toNat))), some (.inl (i_and vx38_ ((i_shl 1 (i_shl 1 (Sx26_.2.2.1 77 0 (1 : Int).toNat))) - 1))), none, none], [.inl 1000, .inr (.inr (some (7, 0)))], Sx40_)) rfl ?_
      refine sm_T_calx (d1 := 2) (Q1 := vq_133 1000 b_ n_ r117_ Sx40_) (Q2 := vx_133 1000 b_ n_ r117_ Sx40_) rfl rfl (by decide) (vc_133 1000 b_ n_ r117_ Sx40_ hIx41_ (by exact c117_)) rfl (fun Sx46_ px49_ => ?_) (fun u_ Sx46_ px49_ => ?_)
      · obtain ⟨hIx47_, hFx48_, px49_⟩ := px49_
        refine Or.inr ⟨_, rfl, hIx47_, ai_fr_tr hFx44_ (fr_le hFx48_ rfl), ?_⟩
        refine ⟨ilf_tr hDx45_ (ilf_fr hFx48_ (by decide) (by decide)), ?_⟩
        obtain ⟨e9_, w1_, w2_⟩ := px49_
        refine ⟨e9_, ?_, w2_, fun i_ => (hFx48_.1 5 i_ 0 rfl).trans (us117_ i_)⟩
        rw [Q8_]; unfold e09; rw [pb_l w1_]
      obtain ⟨vx51_, rfl, hIx47_, hFx48_, px49_⟩ := px49_
      have hFx50_ : ai_fr (sx_W vw_131v) S0_ Sx46_ := ai_fr_tr hFx44_ (fr_le hFx48_ rfl)
      have hDx52_ : ilf ii_ S0_ Sx46_ := ilf_tr hDx45_ (ilf_fr hFx48_ (by decide) (by decide))
      obtain ⟨r124_, a124_, c124_, lt124_, vb124_⟩ := px49_
      have n124_ := nmr_fr n117_ hFx48_ rfl rfl
      have m124_ := nmr_fr m117_ hFx48_ rfl rfl
      obtain ⟨vv124_, hvv124_⟩ : ∃ v_, v_ = vx51_ := ⟨_, rfl⟩
      rw [← hvv124_] at a124_
      have us124_ : ∀ i_, Sx46_.1 5 i_ 0 = S0_.1 5 i_ 0 := fun i_ => (hFx48_.1 5 i_ 0 rfl).trans (us117_ i_)
      have ct124_ := (hFx48_.1 5 ii_ 1 rfl).trans ct117_
      have lb124_ := (hFx48_.2.1 7 0 11 rfl).trans lb117_
      have lc124_ := lcl_fr lc117_ hFx48_ rfl rfl rfl rfl rfl
      have Q9_ : (p_li b_ n_) = e10 b_ n_ kk_ r55_ (K6_, f6_, q76_) (p_tb K6_ (h_tp x99_.2.1)) (r124_, vv124_) := by rw [Q8_]; unfold e09; rw [pb_r a124_]
      refine sm_T_go 4 (c1 := (135, [some (.inr (.inr (some (7, 0)))), some (.inr (.inr (some (5, ii_)))), some (.inl g_), some (.inl vx12_), some (.inl (i_shl 1 (Sx26_.2.2.1 77 0 (1 : Int).toNat))), some (.inl (i_and vx38_ ((i_shl 1 (i_shl 1 (Sx26_.2.2.1 77 0 (1 : Int).toNat))) - 1))), some (.inl vx51_), none], [.inl 44, .inr (.inr (some (10, 0)))], Sx46_)) rfl ?_
      refine sm_T_calx (d1 := 2) (Q1 := vq_188 44 b_ n_ r124_ Sx46_) (Q2 := vx_188 44 b_ n_ r124_ Sx46_) rfl rfl (by decide) (vc_188 44 b_ n_ r124_ Sx46_ hIx47_ (by exact c124_)) rfl (fun Sx53_ px56_ => ?_) (fun u_ Sx53_ px56_ => ?_)
      · obtain ⟨hIx54_, hFx55_, px56_⟩ := px56_
        refine Or.inr ⟨_, rfl, hIx54_, ai_fr_tr hFx50_ (fr_le hFx55_ rfl), ?_⟩
        refine ⟨ilf_tr hDx52_ (ilf_fr hFx55_ (by decide) (by decide)), ?_⟩
        obtain ⟨e9_, w1_, w2_⟩ := px56_
        refine ⟨e9_, ?_, w2_, fun i_ => (hFx55_.1 5 i_ 0 rfl).trans (us124_ i_)⟩
        rw [Q9_]; unfold e10; rw [pb_l w1_]
      obtain ⟨rfl, hIx54_, hFx55_, px56_⟩ := px56_
      have hFx57_ : ai_fr (sx_W vw_131v) S0_ Sx53_ := ai_fr_tr hFx50_ (fr_le hFx55_ rfl)
      have hDx58_ : ilf ii_ S0_ Sx53_ := ilf_tr hDx52_ (ilf_fr hFx55_ (by decide) (by decide))
      obtain ⟨r135_, a135_, c135_⟩ := px56_
      have k135_ := p_nd_ok (by decide) c124_.2.2.2.1 a135_
      have us135_ : ∀ i_, Sx53_.1 5 i_ 0 = S0_.1 5 i_ 0 := fun i_ => (hFx55_.1 5 i_ 0 rfl).trans (us124_ i_)
      have ct135_ := (hFx55_.1 5 ii_ 1 rfl).trans ct124_
      have lb135_ := (hFx55_.2.1 7 0 11 rfl).trans lb124_
      have lc135_ := lcl_fr lc124_ hFx55_ rfl rfl rfl rfl rfl
      have Qa_ : (p_li b_ n_) = e11 b_ n_ kk_ r55_ (K6_, f6_, q76_) (p_tb K6_ (h_tp x99_.2.1)) vv124_ r135_ := by rw [Q9_]; unfold e10; rw [pb_r a135_]
      have n135_ := nmr_fr n124_ hFx55_ rfl rfl
      have m135_ := nmr_fr m124_ hFx55_ rfl rfl
      refine sm_T_go 2 (c1 := (141, [some (.inr (.inr (some (7, 0)))), some (.inr (.inr (some (5, ii_)))), some (.inl g_), some (.inl vx12_), some (.inl (i_shl 1 (Sx26_.2.2.1 77 0 (1 : Int).toNat))), some (.inl (i_and vx38_ ((i_shl 1 (i_shl 1 (Sx26_.2.2.1 77 0 (1 : Int).toNat))) - 1))), some (.inl vx51_), none], [.inl 100, .inr (.inr (some (7, 0)))], Sx53_)) rfl ?_
      refine sm_T_calx (d1 := 2) (Q1 := vq_133 100 b_ n_ r135_ Sx53_) (Q2 := vx_133 100 b_ n_ r135_ Sx53_) rfl rfl (by decide) (vc_133 100 b_ n_ r135_ Sx53_ hIx54_ (by exact c135_)) rfl (fun Sx59_ px62_ => ?_) (fun u_ Sx59_ px62_ => ?_)
      · obtain ⟨hIx60_, hFx61_, px62_⟩ := px62_
        refine Or.inr ⟨_, rfl, hIx60_, ai_fr_tr hFx57_ (fr_le hFx61_ rfl), ?_⟩
        refine ⟨ilf_tr hDx58_ (ilf_fr hFx61_ (by decide) (by decide)), ?_⟩
        obtain ⟨e9_, w1_, w2_⟩ := px62_
        refine ⟨e9_, ?_, w2_, fun i_ => (hFx61_.1 5 i_ 0 rfl).trans (us135_ i_)⟩
        rw [Qa_]; unfold e11; rw [pb_l w1_]
      obtain ⟨vx64_, rfl, hIx60_, hFx61_, px62_⟩ := px62_
      have hFx63_ : ai_fr (sx_W vw_131v) S0_ Sx59_ := ai_fr_tr hFx57_ (fr_le hFx61_ rfl)
      have hDx65_ : ilf ii_ S0_ Sx59_ := ilf_tr hDx58_ (ilf_fr hFx61_ (by decide) (by decide))
      obtain ⟨r141_, a141_, c141_, lt141_, vb141_⟩ := px62_
      have n141_ := nmr_fr n135_ hFx61_ rfl rfl
      have m141_ := nmr_fr m135_ hFx61_ rfl rfl
      obtain ⟨vv141_, hvv141_⟩ : ∃ v_, v_ = vx64_ := ⟨_, rfl⟩
      rw [← hvv141_] at a141_
      have us141_ : ∀ i_, Sx59_.1 5 i_ 0 = S0_.1 5 i_ 0 := fun i_ => (hFx61_.1 5 i_ 0 rfl).trans (us135_ i_)
      have ct141_ := (hFx61_.1 5 ii_ 1 rfl).trans ct135_
      have lb141_ := (hFx61_.2.1 7 0 11 rfl).trans lb135_
      have lc141_ := lcl_fr lc135_ hFx61_ rfl rfl rfl rfl rfl
      have Qb_ : (p_li b_ n_) = e12 b_ n_ kk_ r55_ (K6_, f6_, q76_) (p_tb K6_ (h_tp x99_.2.1)) vv124_ (r141_, vv141_) := by rw [Qa_]; unfold e11; rw [pb_r a141_]
      refine sm_T_go 4 (c1 := (152, [some (.inr (.inr (some (7, 0)))), some (.inr (.inr (some (5, ii_)))), some (.inl g_), some (.inl vx12_), some (.inl (i_shl 1 (Sx26_.2.2.1 77 0 (1 : Int).toNat))), some (.inl (i_and vx38_ ((i_shl 1 (i_shl 1 (Sx26_.2.2.1 77 0 (1 : Int).toNat))) - 1))), some (.inl vx51_), some (.inl vx64_)], [.inl 59, .inr (.inr (some (10, 0)))], Sx59_)) rfl ?_
      refine sm_T_calx (d1 := 2) (Q1 := vq_188 59 b_ n_ r141_ Sx59_) (Q2 := vx_188 59 b_ n_ r141_ Sx59_) rfl rfl (by decide) (vc_188 59 b_ n_ r141_ Sx59_ hIx60_ (by exact c141_)) rfl (fun Sx66_ px69_ => ?_) (fun u_ Sx66_ px69_ => ?_)
      · obtain ⟨hIx67_, hFx68_, px69_⟩ := px69_
        refine Or.inr ⟨_, rfl, hIx67_, ai_fr_tr hFx63_ (fr_le hFx68_ rfl), ?_⟩
        refine ⟨ilf_tr hDx65_ (ilf_fr hFx68_ (by decide) (by decide)), ?_⟩
        obtain ⟨e9_, w1_, w2_⟩ := px69_
        refine ⟨e9_, ?_, w2_, fun i_ => (hFx68_.1 5 i_ 0 rfl).trans (us141_ i_)⟩
        rw [Qb_]; unfold e12; rw [pb_l w1_]
      obtain ⟨rfl, hIx67_, hFx68_, px69_⟩ := px69_
      have hFx70_ : ai_fr (sx_W vw_131v) S0_ Sx66_ := ai_fr_tr hFx63_ (fr_le hFx68_ rfl)
      have hDx71_ : ilf ii_ S0_ Sx66_ := ilf_tr hDx65_ (ilf_fr hFx68_ (by decide) (by decide))
      obtain ⟨r152_, a152_, c152_⟩ := px69_
      have k152_ := p_nd_ok (by decide) c141_.2.2.2.1 a152_
      have us152_ : ∀ i_, Sx66_.1 5 i_ 0 = S0_.1 5 i_ 0 := fun i_ => (hFx68_.1 5 i_ 0 rfl).trans (us141_ i_)
      have ct152_ := (hFx68_.1 5 ii_ 1 rfl).trans ct141_
      have lb152_ := (hFx68_.2.1 7 0 11 rfl).trans lb141_
      have lc152_ := lcl_fr lc141_ hFx68_ rfl rfl rfl rfl rfl
      have Qc_ : (p_li b_ n_) = kk_ (r55_, K6_, p_tb K6_ (h_tp x99_.2.1), vv124_, vv141_, r152_) := by rw [Qb_]; unfold e12; rw [pb_r a152_]
      have n152_ := nmr_fr n141_ hFx68_ rfl rfl
      have m152_ := nmr_fr m141_ hFx68_ rfl rfl
      have cn1 : Sx66_.2.2.1 77 0 (1 : Int).toNat = (K6_ : Int) := n152_.1
      have P9_ : (p_li b_ n_) = (if lx_kd b_ n_ r152_ = 0 then .inr (g_.toNat + 1, l_up L1_ g_.toNat (r55_, K6_, p_tb K6_ (h_tp x99_.2.1), vv124_, vv141_, r152_)) else p_lb b_ n_ (12 - g_.toNat) (g_.toNat + 1) (n_up f1_ g_.toNat r55_) (l_up L1_ g_.toNat (r55_, K6_, p_tb K6_ (h_tp x99_.2.1), vv124_, vv141_, r152_)) r152_) := by rw [Qc_, hkk_]; rfl
      refine sm_T_go 0 (c1 := (155, [some (.inr (.inr (some (7, 0)))), some (.inr (.inr (some (5, ii_)))), some (.inl g_), some (.inl vx12_), some (.inl (i_shl 1 (Sx26_.2.2.1 77 0 (1 : Int).toNat))), some (.inl (i_and vx38_ ((i_shl 1 (i_shl 1 (Sx26_.2.2.1 77 0 (1 : Int).toNat))) - 1))), some (.inl vx51_), some (.inl vx64_)], [], Sx66_)) rfl ?_
      refine sm_T_wk [some (.inr (.inr (some (7, 0)))), some (.inr (.inr (some (5, ii_)))), some (.inl g_), some (.inl vx12_), none, some (.inl (i_and vx38_ ((i_shl 1 (i_shl 1 (Sx26_.2.2.1 77 0 (1 : Int).toNat))) - 1))), some (.inl vx51_), some (.inl vx64_)] (by exact ⟨rfl, rfl, rfl, rfl, rfl, rfl, rfl, trivial⟩) ?_
      refine ih_.2.2 g_ vx12_ (i_and vx38_ ((i_shl 1 (i_shl 1 (Sx26_.2.2.1 77 0 (1 : Int).toNat))) - 1)) vx51_ vx64_ Sx66_ hIx67_ hFx70_ ⟨?_, ?_, ?_, ?_, ?_, ?_, ?_, trivial⟩ ?_
      · exact ⟨h0_.1, gl_⟩
      · exact us152_
      · exact ct152_
      · exact lb152_
      · exact ⟨by rw [sh2_]; exact tb99_, ⟨Int.le_trans (by decide) vb124_.1, vb124_.2⟩, ⟨Int.le_trans (by decide) vb141_.1, vb141_.2⟩⟩
      · exact ⟨f1_, l_up L1_ g_.toNat (r55_, K6_, p_tb K6_ (h_tp x99_.2.1), vv124_, vv141_, r152_), r55_, r152_, K6_, c152_, m152_, cn1, K6b.2, nn62_.2.1, nv_, lcl_up lc152_, lup_at.trans (by (show ((K6_ : Int), p_tb K6_ (h_tp x99_.2.1), vv124_, vv141_) = _; rw [hvv124_, hvv141_, sh2_, g99_, ← v99_]; rfl)), P9_⟩
      · exact hDx71_
      · exact ms49 h0_.2 hm_
    · rintro g_ fr_ tb_ ar_ dl_ S_ hI_ hF_ ⟨h0_, us155_, ct155_, lb155_, tbb_, h1_, hD_, -⟩ hm_
      obtain ⟨f1_, L2_, rc_, rn_, K6_, y1_, y2_, K6a, K6b, nmc_, nv_, lc155_, lg155_, hP_⟩ := h1_
      have cn0_ : S_.2.2.1 77 0 (0 : Int).toNat = g_ := by have z_ : S_.2.2.1 77 0 0 = (g_.toNat : Int) := y2_.1; show S_.2.2.1 77 0 0 = g_; omega
      have szc_ := nmp_sz nmc_
      have bx1_ : 0 ≤ S_.1 5 ii_ 1 ∧ S_.1 5 ii_ 1 ≤ 12 := hI_.1 5 ii_ 1 rfl
      refine sm_T_go 5 (c1 := (164, [some (.inr (.inr (some (7, 0)))), some (.inr (.inr (some (5, ii_)))), some (.inl g_), some (.inl fr_), none, some (.inl tb_), some (.inl ar_), some (.inl dl_)], [.inl (S_.1 5 ii_ 1), .inl 0, .inr (.inr (some (78, 0)))], S_)) rfl ?_
      refine sm_T_bin (w := (S_.1 5 ii_ 1)) rfl (bi_add (by omega) (by omega) (by omega)) ?_
      refine sm_T_go 1 (c1 := (166, [some (.inr (.inr (some (7, 0)))), some (.inr (.inr (some (5, ii_)))), some (.inl g_), some (.inl fr_), none, some (.inl tb_), some (.inl ar_), some (.inl dl_)], [.inl fr_, .inl (S_.1 5 ii_ 1), .inr (.inr (some (78, 0)))], S_)) rfl ?_
      refine sm_T_iast (n := 640) rfl rfl (by omega) (by omega) ?_
      have hIx2_ : gi (sm_aI S_ 78 0 (S_.1 5 ii_ 1).toNat fr_) := gi_aI hI_ (show 0 ≤ fr_ ∧ fr_ ≤ 65535 from ⟨by omega, by omega⟩)
      have hFx3_ : ai_fr (sx_W vw_131v) S0_ (sm_aI S_ 78 0 (S_.1 5 ii_ 1).toNat fr_) := ai_fr_tr hF_ (ai_fr_aI rfl)
      have hDx4_ : ilf ii_ S0_ (sm_aI S_ 78 0 (S_.1 5 ii_ 1).toNat fr_) := ilf_aI hD_ (Or.inl (by decide))
      refine sm_T_go 4 (c1 := (173, [some (.inr (.inr (some (7, 0)))), some (.inr (.inr (some (5, ii_)))), some (.inl g_), some (.inl fr_), none, some (.inl tb_), some (.inl ar_), some (.inl dl_)], [.inl 0, .inr (.inr (some (77, 0))), .inl 0, .inr (.inr (some (77, 0)))], sm_aI S_ 78 0 (S_.1 5 ii_ 1).toNat fr_)) rfl ?_
      refine sm_T_iald (n := 17) rfl rfl (by omega) (by omega) ?_
      have bx5_ : 0 ≤ S_.2.2.1 77 0 (0 : Int).toNat ∧ S_.2.2.1 77 0 (0 : Int).toNat ≤ 40 := hI_.2 77 0 _
      refine sm_T_go 1 (c1 := (175, [some (.inr (.inr (some (7, 0)))), some (.inr (.inr (some (5, ii_)))), some (.inl g_), some (.inl fr_), none, some (.inl tb_), some (.inl ar_), some (.inl dl_)], [.inl 1, .inl (S_.2.2.1 77 0 (0 : Int).toNat), .inl 0, .inr (.inr (some (77, 0)))], sm_aI S_ 78 0 (S_.1 5 ii_ 1).toNat fr_)) rfl ?_
      refine sm_T_bin (w := (S_.2.2.1 77 0 (0 : Int).toNat) + 1) rfl (bi_add (by omega) (by omega) (by omega)) ?_
      refine sm_T_iast (n := 17) rfl rfl (by omega) (by omega) ?_
      have hIx6_ : gi (sm_aI (sm_aI S_ 78 0 (S_.1 5 ii_ 1).toNat fr_) 77 0 (0 : Int).toNat ((S_.2.2.1 77 0 (0 : Int).toNat) + 1)) := gi_aI hIx2_ (show 0 ≤ (S_.2.2.1 77 0 (0 : Int).toNat) + 1 ∧ (S_.2.2.1 77 0 (0 : Int).toNat) + 1 ≤ 40 from ⟨by omega, by omega⟩)
      have hFx7_ : ai_fr (sx_W vw_131v) S0_ (sm_aI (sm_aI S_ 78 0 (S_.1 5 ii_ 1).toNat fr_) 77 0 (0 : Int).toNat ((S_.2.2.1 77 0 (0 : Int).toNat) + 1)) := ai_fr_tr hFx3_ (ai_fr_aI rfl)
      have hDx8_ : ilf ii_ S0_ (sm_aI (sm_aI S_ 78 0 (S_.1 5 ii_ 1).toNat fr_) 77 0 (0 : Int).toNat ((S_.2.2.1 77 0 (0 : Int).toNat) + 1)) := ilf_aI hDx4_ (Or.inl (by decide))
      refine sm_T_go 4 (c1 := (183, [some (.inr (.inr (some (7, 0)))), some (.inr (.inr (some (5, ii_)))), some (.inl g_), some (.inl fr_), none, some (.inl tb_), some (.inl ar_), some (.inl dl_)], [.inl 1, .inr (.inr (some (77, 0))), .inr (.inr (some (5, ii_)))], sm_aI (sm_aI S_ 78 0 (S_.1 5 ii_ 1).toNat fr_) 77 0 (0 : Int).toNat ((S_.2.2.1 77 0 (0 : Int).toNat) + 1))) rfl ?_
      refine sm_T_iald (n := 17) rfl rfl (by omega) (by omega) ?_
      have bx9_ : 0 ≤ (sm_aI (sm_aI S_ 78 0 (S_.1 5 ii_ 1).toNat fr_) 77 0 (0 : Int).toNat ((S_.2.2.1 77 0 (0 : Int).toNat) + 1)).2.2.1 77 0 (1 : Int).toNat ∧ (sm_aI (sm_aI S_ 78 0 (S_.1 5 ii_ 1).toNat fr_) 77 0 (0 : Int).toNat ((S_.2.2.1 77 0 (0 : Int).toNat) + 1)).2.2.1 77 0 (1 : Int).toNat ≤ 40 := hIx6_.2 77 0 _
      refine sm_T_go 3 (c1 := (190, [some (.inr (.inr (some (7, 0)))), some (.inr (.inr (some (5, ii_)))), some (.inl g_), some (.inl fr_), none, some (.inl tb_), some (.inl ar_), some (.inl dl_)], [.inl dl_, .inl ar_, .inl tb_, .inl ((sm_aI (sm_aI S_ 78 0 (S_.1 5 ii_ 1).toNat fr_) 77 0 (0 : Int).toNat ((S_.2.2.1 77 0 (0 : Int).toNat) + 1)).2.2.1 77 0 (1 : Int).toNat), .inr (.inr (some (5, ii_)))], sm_aI (sm_aI S_ 78 0 (S_.1 5 ii_ 1).toNat fr_) 77 0 (0 : Int).toNat ((S_.2.2.1 77 0 (0 : Int).toNat) + 1))) rfl ?_
      refine sm_T_cal (d1 := 0) (Q1 := vq_88v ((sm_aI (sm_aI S_ 78 0 (S_.1 5 ii_ 1).toNat fr_) 77 0 (0 : Int).toNat ((S_.2.2.1 77 0 (0 : Int).toNat) + 1)).2.2.1 77 0 (1 : Int).toNat) tb_ ar_ dl_ ii_ (sm_aI (sm_aI S_ 78 0 (S_.1 5 ii_ 1).toNat fr_) 77 0 (0 : Int).toNat ((S_.2.2.1 77 0 (0 : Int).toNat) + 1))) rfl rfl (by decide) (vc_88v ((sm_aI (sm_aI S_ 78 0 (S_.1 5 ii_ 1).toNat fr_) 77 0 (0 : Int).toNat ((S_.2.2.1 77 0 (0 : Int).toNat) + 1)).2.2.1 77 0 (1 : Int).toNat) tb_ ar_ dl_ ii_ (sm_aI (sm_aI S_ 78 0 (S_.1 5 ii_ 1).toNat fr_) 77 0 (0 : Int).toNat ((S_.2.2.1 77 0 (0 : Int).toNat) + 1)) hIx6_ (by (rw [rd_eq, if_neg (by decide), rd_ne (by decide)]; exact ⟨by rw [K6a]; omega, by rw [K6a]; omega⟩)) (by exact tbb_.1) (by exact tbb_.2.1) (by exact tbb_.2.2) (by (show S_.1 5 ii_ 1 < 12; omega))) (fun u_ Sx10_ px13_ => ?_)
      obtain ⟨rfl, hIx11_, hFx12_, px13_⟩ := px13_
      have hFx14_ : ai_fr (sx_W vw_131v) S0_ Sx10_ := ai_fr_tr hFx7_ (fr_le hFx12_ rfl)
      obtain ⟨dx16_, px13_⟩ := px13_
      have hDx15_ : ilf ii_ S0_ Sx10_ := ilf_tr hDx8_ dx16_
      have e190_ := px13_
      have F190_ := hFx12_
      refine sm_T_inc (a := 2) (z := 1) (v := g_) (w := g_ + 1) rfl rfl (by omega) (by omega) (by omega) ?_
      refine sm_T_go 1 (c1 := (26, [some (.inr (.inr (some (7, 0)))), some (.inr (.inr (some (5, ii_)))), some (.inl (g_ + 1)), some (.inl fr_), none, some (.inl tb_), some (.inl ar_), some (.inl dl_)], [], Sx10_)) rfl ?_
      refine sm_T_wk [some (.inr (.inr (some (7, 0)))), some (.inr (.inr (some (5, ii_)))), some (.inl (g_ + 1)), none, none, none, none, none] (by exact ⟨rfl, rfl, rfl, trivial⟩) ?_
      refine ih_.1 (g_ + 1) Sx10_ hIx11_ hFx14_ ⟨?_, ?_, ?_, ?_, ?_, ?_, trivial⟩ ?_
      · omega
      · intro i_
        rw [F190_.1 5 i_ 0 rfl]
        exact us155_ i_
      · rw [e190_.1]
        show S_.1 5 ii_ 1 + 1 = g_ + 1
        omega
      · rw [F190_.2.1 7 0 11 rfl]
        exact lb155_
      · have lx9_ := e190_.2 g_.toNat L2_ (lcl_fr (w_ := ([], [77, 78], [])) lc155_ (ai_fr_tr (ai_fr_aI rfl) (ai_fr_aI rfl)) rfl rfl rfl rfl rfl) (lg155_.trans (by rw [rd_eq, if_neg (by decide), rd_ne (by decide), K6a]))
        refine ⟨n_up f1_ g_.toNat rc_, L2_, rn_, ct_fr (ct_fr (w_ := ([], [77, 78], [])) y1_ (ai_fr_tr (ai_fr_aI rfl) (ai_fr_aI rfl)) rfl rfl rfl rfl rfl rfl rfl) F190_ rfl rfl rfl rfl rfl rfl rfl, ?_, by (rw [show (g_ + 1).toNat = g_.toNat + 1 by omega]; exact lx9_), fun z_ => ?_, fun z1_ z2_ => ?_⟩
        · rw [show (g_ + 1).toNat = g_.toNat + 1 by omega]; exact nmr_fr (nmr_up (p_ := rc_) y2_ nmc_ (by omega) (by rw [rd_eq, if_pos (show (0 : Nat) = (0 : Int).toNat from rfl)]; omega) (fun j_ => by rw [rd_ne (by decide), rd_eq]; by_cases z_ : j_ = 40 * 0 + g_.toNat; (rw [if_pos (by omega), if_pos z_]; exact nv_); (rw [if_neg (by omega), if_neg z_]))) F190_ rfl rfl
        · rw [hP_, if_neg (by omega), show 13 - (g_ + 1).toNat = 12 - g_.toNat by omega, show (g_ + 1).toNat = g_.toNat + 1 by omega]
        · rw [hP_, if_pos z2_, show (g_ + 1).toNat = g_.toNat + 1 by omega]
      · exact hDx15_
      · omega
set_option maxHeartbeats 2000000 in
set_option maxRecDepth 20000 in
theorem vc_131v {sc_ : Nat × (Nat → Int)} (b_ : Nat → Int) (n_ : Nat) (ii_ : Nat) (S0_ : sm_S) (hI_ : gi S0_) (hb_ : S0_.2.2.1 98 0 = b_) (hn_ : (S0_.1 10 0 1) = (n_ : Int)) (hn1_ : n_ ≤ 1280) : sm_T (mt_P sc_) 5 131 (0, [some (.inr (.inr (some (7, 0)))), some (.inr (.inr (some (5, ii_)))), none, none, none, none, none, none], [], S0_) (fun ro9_ => (∃ u_ S1_, ro9_ = (.inl u_, S1_, 0) ∧ vq_131v b_ n_ ii_ S0_ u_ S1_) ∨ ∃ S1_, ro9_ = (.inr 2, S1_, 1) ∧ vx_131v b_ n_ ii_ S0_ S1_) := by
  have hF_ : ai_fr (sx_W vw_131v) S0_ S0_ := ai_fr_rf
  have hD_ : ilf ii_ S0_ S0_ := ilf_rf
  have hIx1_ : gi (sm_pR S0_ 7 0 11 (some ii_)) := gi_pR hI_
  have hFx2_ : ai_fr (sx_W vw_131v) S0_ (sm_pR S0_ 7 0 11 (some ii_)) := ai_fr_tr hF_ (ai_fr_pR rfl)
  have hDx3_ : ilf ii_ S0_ (sm_pR S0_ 7 0 11 (some ii_)) := ilf_pR hD_
  have hIx4_ : gi (sm_pI (sm_pR S0_ 7 0 11 (some ii_)) 5 ii_ 1 0) := gi_pI hIx1_ (show 0 ≤ 0 ∧ 0 ≤ 12 from ⟨by omega, by omega⟩)
  have hFx5_ : ai_fr (sx_W vw_131v) S0_ (sm_pI (sm_pR S0_ 7 0 11 (some ii_)) 5 ii_ 1 0) := ai_fr_tr hFx2_ (ai_fr_pI rfl)
  have hDx6_ : ilf ii_ S0_ (sm_pI (sm_pR S0_ 7 0 11 (some ii_)) 5 ii_ 1 0) := ilf_pI hDx3_ (Or.inr rfl)
  refine sm_T_go 10 (c1 := (16, [some (.inr (.inr (some (7, 0)))), some (.inr (.inr (some (5, ii_)))), none, none, none, none, none, none], [.inl 0, .inl 0, .inr (.inr (some (77, 0)))], sm_pI (sm_pR S0_ 7 0 11 (some ii_)) 5 ii_ 1 0)) rfl ?_
  refine sm_T_iast (n := 17) rfl rfl (by omega) (by omega) ?_
  have hIx7_ : gi (sm_aI (sm_pI (sm_pR S0_ 7 0 11 (some ii_)) 5 ii_ 1 0) 77 0 (0 : Int).toNat 0) := gi_aI hIx4_ (show 0 ≤ 0 ∧ 0 ≤ 40 from ⟨by omega, by omega⟩)
  have hFx8_ : ai_fr (sx_W vw_131v) S0_ (sm_aI (sm_pI (sm_pR S0_ 7 0 11 (some ii_)) 5 ii_ 1 0) 77 0 (0 : Int).toNat 0) := ai_fr_tr hFx5_ (ai_fr_aI rfl)
  have hDx9_ : ilf ii_ S0_ (sm_aI (sm_pI (sm_pR S0_ 7 0 11 (some ii_)) 5 ii_ 1 0) 77 0 (0 : Int).toNat 0) := ilf_aI hDx6_ (Or.inl (by decide))
  refine sm_T_go 2 (c1 := (21, [some (.inr (.inr (some (7, 0)))), some (.inr (.inr (some (5, ii_)))), none, none, none, none, none, none], [.inr (.inr (some (10, 0)))], sm_aI (sm_pI (sm_pR S0_ 7 0 11 (some ii_)) 5 ii_ 1 0) 77 0 (0 : Int).toNat 0)) rfl ?_
  refine sm_T_calx (d1 := 2) (Q1 := vq_186 b_ n_ (sm_aI (sm_pI (sm_pR S0_ 7 0 11 (some ii_)) 5 ii_ 1 0) 77 0 (0 : Int).toNat 0)) (Q2 := vx_186 b_ n_ (sm_aI (sm_pI (sm_pR S0_ 7 0 11 (some ii_)) 5 ii_ 1 0) 77 0 (0 : Int).toNat 0)) rfl rfl (by decide) (vc_186 b_ n_ (sm_aI (sm_pI (sm_pR S0_ 7 0 11 (some ii_)) 5 ii_ 1 0) 77 0 (0 : Int).toNat 0) hIx7_ (by exact hb_) (by exact hn_) (by exact hn1_)) rfl (fun Sx10_ px13_ => ?_) (fun u_ Sx10_ px13_ => ?_)
  · obtain ⟨hIx11_, hFx12_, px13_⟩ := px13_
    refine Or.inr ⟨_, rfl, hIx11_, ai_fr_tr hFx8_ (fr_le hFx12_ rfl), ?_⟩
    refine ⟨ilf_tr hDx9_ (ilf_fr hFx12_ (by decide) (by decide)), ?_⟩
    refine ⟨(1, lx_k b_ n_ 0), ?_, px13_.2, fun i_ => (hFx12_.1 5 i_ 0 rfl).trans (rf_nk (by decide))⟩
    unfold p_li; rw [if_pos px13_.1]
  obtain ⟨rfl, hIx11_, hFx12_, px13_⟩ := px13_
  have hFx14_ : ai_fr (sx_W vw_131v) S0_ Sx10_ := ai_fr_tr hFx8_ (fr_le hFx12_ rfl)
  have hDx15_ : ilf ii_ S0_ Sx10_ := ilf_tr hDx9_ (ilf_fr hFx12_ (by decide) (by decide))
  have c21_ := px13_
  have us21_ : ∀ i_, Sx10_.1 5 i_ 0 = S0_.1 5 i_ 0 := fun i_ => (hFx12_.1 5 i_ 0 rfl).trans (rf_nk (by decide))
  have ct21_ : Sx10_.1 5 ii_ 1 = 0 := (hFx12_.1 5 ii_ 1 rfl).trans rf_eq
  have lb21_ : Sx10_.2.1 7 0 11 = some ii_ := (hFx12_.2.1 7 0 11 rfl).trans (show (sm_pR S0_ 7 0 11 (some ii_)).2.1 7 0 11 = some ii_ from sm_up_eq rfl)
  have F21_ := hFx12_
  refine sm_T_go 2 (c1 := (26, [some (.inr (.inr (some (7, 0)))), some (.inr (.inr (some (5, ii_)))), some (.inl 0), none, none, none, none, none], [], Sx10_)) rfl ?_
  refine (vl_131v b_ n_ ii_ S0_ hb_ hn_ hn1_ _).1 0 Sx10_ hIx11_ hFx14_ ⟨?_, ?_, ?_, ?_, ?_, ?_, trivial⟩ (Nat.lt_succ_self _)
  · omega
  · exact us21_
  · exact ct21_
  · exact lb21_
  · refine ⟨f_0, fun _ => (0, 0, 0, 0), lx_k b_ n_ 0, c21_, ⟨?_, by decide, by decide, fun s_ hs_ => absurd hs_ (Nat.not_lt_zero _)⟩, ⟨ct21_, fun s_ hs_ => absurd hs_ (Nat.not_lt_zero _)⟩, fun _ => ?_, fun z_ => absurd rfl z_⟩
    · rw [fr_arr F21_ rfl, rd_eq, if_pos (show (0 : Nat) = (0 : Int).toNat from rfl)]; rfl
    · unfold p_li; rw [if_neg c21_.2.2.2.2.1]; rfl
  · exact hDx15_
/-! ChipFlow.library -/
def vw_214v : sx_Wl := ([(5, 0), (5, 1), (5, 2), (7, 2), (7, 14), (7, 16), (7, 17), (10, 1), (10, 2), (10, 3), (10, 4), (10, 5), (10, 6), (10, 7), (10, 8), (12, 10)], [55, 56, 57, 58, 74, 77, 78, 82, 83, 84], [(7, 11)])
def vq_214v (b_ : Nat → Int) (n_ : Nat) (S0_ : sm_S) (u_ : Option sm_V) (S1_ : sm_S) : Prop := ∃ v_ : Int, u_ = some (.inl v_) ∧ gi S1_ ∧ ai_fr (sx_W vw_214v) S0_ S1_ ∧ (∃ sl_ : Nat, sl_ < 3 ∧ S0_.1 5 sl_ 0 = 0 ∧ (∀ j_ : Nat, j_ < sl_ → S0_.1 5 j_ 0 = 1) ∧ (S1_.1 10 0 1) = 0 ∧ ilf sl_ S0_ S1_ ∧ ((∃ e_, p_li b_ n_ = .inl e_ ∧ v_ = -1 - (e_.2 : Int) ∧ (S1_.1 12 0 10) = e_.1 ∧ ∀ j_ : Nat, S1_.1 5 j_ 0 = S0_.1 5 j_ 0) ∨ ((∃ r_, p_li b_ n_ = .inr r_ ∧ lcl sl_ r_.1 r_.2 S1_ ∧ S1_.1 5 sl_ 2 = fiv r_.2 r_.1) ∧ v_ = (sl_ : Int) ∧ (S1_.1 12 0 10) = 0 ∧ ∀ j_ : Nat, S1_.1 5 j_ 0 = if j_ = sl_ then 1 else S0_.1 5 j_ 0)))
def vx_214v (b_ : Nat → Int) (n_ : Nat) (S0_ : sm_S) (S1_ : sm_S) : Prop := gi S1_ ∧ ai_fr (sx_W vw_214v) S0_ S1_ ∧ ((∀ j_ : Nat, j_ < 3 → S0_.1 5 j_ 0 = 1) ∧ S1_ = S0_)
set_option maxHeartbeats 1000000 in
theorem vc_214v {sc_ : Nat × (Nat → Int)} (b_ : Nat → Int) (n_ : Nat) (S0_ : sm_S) (hI_ : gi S0_) (hb_ : S0_.2.2.1 98 0 = b_) (hn_ : (S0_.1 10 0 1) = (n_ : Int)) (hn1_ : n_ ≤ 1280) : sm_T (mt_P sc_) 6 214 (0, [some (.inr (.inr (some (12, 0)))), none, none, none], [], S0_) (fun ro9_ => (∃ u_ S1_ k9_, ro9_ = (.inl u_, S1_, k9_) ∧ k9_ ≤ 1 ∧ vq_214v b_ n_ S0_ u_ S1_) ∨ ∃ S1_, ro9_ = (.inr 3, S1_, 1) ∧ vx_214v b_ n_ S0_ S1_) := by
  have hF_ : ai_fr (sx_W vw_214v) S0_ S0_ := ai_fr_rf
  refine sm_T_go 1 (c1 := (1, [some (.inr (.inr (some (12, 0)))), none, none, none], [.inr (.inr (some (12, 0)))], S0_)) rfl ?_
  refine sm_T_cal (d1 := 0) (Q1 := vq_274  S0_) rfl rfl (by decide) (vc_274  S0_ hI_ ) (fun u_ Sx1_ px4_ => ?_)
  obtain ⟨rfl, vx6_, rfl, px4_⟩ := px4_
  obtain ⟨sl_, hsl_⟩ : ∃ sl_ : Nat, (vx6_ = -1 ∧ ∀ j_ : Nat, j_ < 3 → S0_.1 5 j_ 0 = 1) ∨ (vx6_ = (sl_ : Int) ∧ sl_ < 3 ∧ S0_.1 5 sl_ 0 = 0 ∧ ∀ j_ : Nat, j_ < sl_ → S0_.1 5 j_ 0 = 1) := by rcases px4_ with z_ | ⟨u_, z_⟩; exact ⟨0, Or.inl z_⟩; exact ⟨u_, Or.inr z_⟩
  clear px4_
  refine sm_T_go 3 (c1 := (7, [some (.inr (.inr (some (12, 0)))), some (.inl vx6_), none, none], [.inl (-1), .inl vx6_], S0_)) rfl ?_
  refine sm_T_br (a := 0) (z := 7) rfl (fun cx7_ => ?_) (fun cx7_ => ?_)
  · have cx7_ : vx6_ = (-1) := of_decide_eq_true cx7_
    have ha0_ : ∀ j_ : Nat, j_ < 3 → S0_.1 5 j_ 0 = 1 := by rcases hsl_ with z_ | z_; exact z_.2; (exfalso; have := z_.1; omega)
    clear hsl_
    refine sm_T_go 1 (c1 := (15, [some (.inr (.inr (some (12, 0)))), some (.inl vx6_), none, none], [.inl 0], S0_)) rfl ?_
    refine sm_T_calg (d1_ := 0) (ex_ := 3) (Q1_ := vq_268 0 S0_) (Q2_ := vx_268 0 S0_) rfl rfl (by decide) (vc_268 0 S0_ hI_ ) rfl rfl (fun Sx8_ px11_ => ?_) (fun u_ Sx8_ px11_ => ?_)
    · obtain ⟨hIx9_, hFx10_, px11_⟩ := px11_
      refine Or.inr ⟨_, rfl, hIx9_, ai_fr_tr hF_ (fr_le hFx10_ rfl), ?_⟩
      obtain ⟨z1_, rfl⟩ := px11_
      first | (exact absurd z1_ (by decide)) | (exact ⟨ha0_, rfl⟩)
    obtain ⟨rfl, hIx9_, hFx10_, px11_⟩ := px11_
    have hFx12_ : ai_fr (sx_W vw_214v) S0_ Sx8_ := ai_fr_tr hF_ (fr_le hFx10_ rfl)
    have e15_ := px11_
    have hb15_ := (fr_arr (t := 98) (i := 0) hFx10_ rfl).trans hb_
    have hn15_ := (hFx10_.1 10 0 1 rfl).trans hn_
    have us15_ : ∀ j_ : Nat, Sx8_.1 5 j_ 0 = S0_.1 5 j_ 0 := fun j_ => hFx10_.1 5 j_ 0 rfl
    have d15_ : ilf sl_ S0_ Sx8_ := ilf_fr hFx10_ (by decide) (by decide)
    have hIx13_ : gi (sm_pI Sx8_ 12 0 10 0) := gi_pI hIx9_ (show 0 ≤ 0 ∧ 0 ≤ 23 from ⟨by omega, by omega⟩)
    have hFx14_ : ai_fr (sx_W vw_214v) S0_ (sm_pI Sx8_ 12 0 10 0) := ai_fr_tr hFx12_ (ai_fr_pI rfl)
    refine sm_T_go 10 (c1 := (34, [some (.inr (.inr (some (12, 0)))), some (.inl vx6_), some (.inl vx6_), none], [.inl vx6_, .inr (.inr (some (111, 0))), .inr (.inr (some (7, 0)))], sm_pI Sx8_ 12 0 10 0)) rfl ?_
    refine sm_T_aald (t0 := 5) (n := 3) rfl rfl (by omega) (by omega) ?_
    refine sm_T_calh (d1_ := 5) (ex_ := 2) (Q1_ := vq_131v b_ n_ vx6_.toNat (sm_pI Sx8_ 12 0 10 0)) (Q2_ := vx_131v b_ n_ vx6_.toNat (sm_pI Sx8_ 12 0 10 0)) rfl rfl (by decide) (vc_131v b_ n_ vx6_.toNat (sm_pI Sx8_ 12 0 10 0) hIx13_ (by exact hb15_) (by exact hn15_) (by exact hn1_)) rfl rfl (Nat.le_of_ble_eq_true rfl) (fun Sx15_ px18_ => ?_) (fun u_ Sx15_ px18_ => ?_)
    · obtain ⟨hIx16_, hFx17_, px18_⟩ := px18_
      have hFx19_ : ai_fr (sx_W vw_214v) S0_ Sx15_ := ai_fr_tr hFx14_ (fr_le hFx17_ rfl)
      obtain ⟨i9_, e9_, w1_, w2_, w3_⟩ := px18_
      have ee_ := w2_
      try rw [hs1_, Int.toNat_natCast] at i9_
      refine sm_T_go 0 (c1 := (42, [some (.inr (.inr (some (12, 0)))), some (.inl vx6_), some (.inl vx6_), none], [], Sx15_)) rfl ?_
      have bx20_ : 0 ≤ Sx15_.1 10 0 6 ∧ Sx15_.1 10 0 6 ≤ 23 := hIx16_.1 10 0 6 rfl
      have hIx21_ : gi (sm_pI Sx15_ 12 0 10 (Sx15_.1 10 0 6)) := gi_pI hIx16_ (show 0 ≤ (Sx15_.1 10 0 6) ∧ (Sx15_.1 10 0 6) ≤ 23 from ⟨by omega, by omega⟩)
      have hFx22_ : ai_fr (sx_W vw_214v) S0_ (sm_pI Sx15_ 12 0 10 (Sx15_.1 10 0 6)) := ai_fr_tr hFx19_ (ai_fr_pI rfl)
      have bx23_ : 0 ≤ Sx15_.1 10 0 7 ∧ Sx15_.1 10 0 7 ≤ 4095 := hIx16_.1 10 0 7 rfl
      refine sm_T_go 9 (c1 := (61, [some (.inr (.inr (some (12, 0)))), some (.inl vx6_), some (.inl vx6_), none], [.inl (Sx15_.1 10 0 7), .inl (-1)], sm_pI Sx15_ 12 0 10 (Sx15_.1 10 0 6))) rfl ?_
      refine sm_T_bin (w := -(Sx15_.1 10 0 7) - 1) rfl (bi_sub (by omega) (by omega) (by omega)) ?_
      have hIx24_ : gi (sm_pI (sm_pI Sx15_ 12 0 10 (Sx15_.1 10 0 6)) 10 0 1 0) := gi_pI hIx21_ (show 0 ≤ 0 ∧ 0 ≤ 1280 from ⟨by omega, by omega⟩)
      have hFx25_ : ai_fr (sx_W vw_214v) S0_ (sm_pI (sm_pI Sx15_ 12 0 10 (Sx15_.1 10 0 6)) 10 0 1 0) := ai_fr_tr hFx22_ (ai_fr_pI rfl)
      refine sm_T_go 6 (c1 := (72, [some (.inr (.inr (some (12, 0)))), some (.inl vx6_), some (.inl (-(Sx15_.1 10 0 7) - 1)), none], [.inl (-(Sx15_.1 10 0 7) - 1)], sm_pI (sm_pI Sx15_ 12 0 10 (Sx15_.1 10 0 6)) 10 0 1 0)) rfl ?_
      refine sm_T_ri rfl (Or.inl ⟨_, _, _, rfl, Nat.le_of_ble_eq_true rfl, _, rfl, hIx24_, hFx25_, ?_⟩)
      first | (exact absurd rfl e15_) | (refine ⟨sl_, hs2_, hs3_, hs4_, rf_eq, ilf_pI (ilf_tr (ilf_pI d15_ (Or.inl (by decide))) i9_) (Or.inl (by decide)), Or.inr ⟨⟨r9_, w1_, lcl_fr (w_ := ([(10, 1)], [], [])) w4_ (ai_fr_pI rfl) rfl rfl rfl rfl rfl, (rf_nt (by decide)).trans w5_⟩, hs1_, ?_, fun j_ => ?_⟩⟩; (exact (rf_nt (by decide)).trans (lf35_.trans rf_eq)); (refine (rf_nt (by decide)).trans ((w3_ j_).trans ?_); rw [hs1_, Int.toNat_natCast]; by_cases z_ : j_ = sl_; (rw [if_pos z_, if_pos z_]); (rw [if_neg z_, if_neg z_]; exact (rf_nt (by decide)).trans (us15_ j_)))) | (refine ⟨sl_, hs2_, hs3_, hs4_, rf_eq, ilf_pI (ilf_pI (ilf_tr (ilf_pI d15_ (Or.inl (by decide))) i9_) (Or.inl (by decide))) (Or.inl (by decide)), Or.inl ⟨e9_, w1_, ?_, ?_, fun j_ => ?_⟩⟩; (rw [← ee_.2]; omega); (refine (rf_nt (by decide)).trans (rf_eq.trans ee_.1)); (refine (rf_nt (by decide)).trans ((rf_nt (by decide)).trans ((w3_ j_).trans ((rf_nt (by decide)).trans (us15_ j_))))))
    obtain ⟨rfl, hIx16_, hFx17_, px18_⟩ := px18_
    have hFx19_ : ai_fr (sx_W vw_214v) S0_ Sx15_ := ai_fr_tr hFx14_ (fr_le hFx17_ rfl)
    obtain ⟨dx26_, px18_⟩ := px18_
    obtain ⟨r9_, w1_, w4_, w5_, w3_⟩ := px18_
    have i9_ := dx26_
    try rw [hs1_, Int.toNat_natCast] at i9_ w4_ w5_
    have lf35_ := hFx17_.1 12 0 10 rfl
    have hIx27_ : gi (sm_pI Sx15_ 10 0 1 0) := gi_pI hIx16_ (show 0 ≤ 0 ∧ 0 ≤ 1280 from ⟨by omega, by omega⟩)
    have hFx28_ : ai_fr (sx_W vw_214v) S0_ (sm_pI Sx15_ 10 0 1 0) := ai_fr_tr hFx19_ (ai_fr_pI rfl)
    refine sm_T_go 6 (c1 := (72, [some (.inr (.inr (some (12, 0)))), some (.inl vx6_), some (.inl vx6_), none], [.inl vx6_], sm_pI Sx15_ 10 0 1 0)) rfl ?_
    refine sm_T_ri rfl (Or.inl ⟨_, _, _, rfl, Nat.le_of_ble_eq_true rfl, _, rfl, hIx27_, hFx28_, ?_⟩)
    first | (exact absurd rfl e15_) | (refine ⟨sl_, hs2_, hs3_, hs4_, rf_eq, ilf_pI (ilf_tr (ilf_pI d15_ (Or.inl (by decide))) i9_) (Or.inl (by decide)), Or.inr ⟨⟨r9_, w1_, lcl_fr (w_ := ([(10, 1)], [], [])) w4_ (ai_fr_pI rfl) rfl rfl rfl rfl rfl, (rf_nt (by decide)).trans w5_⟩, hs1_, ?_, fun j_ => ?_⟩⟩; (exact (rf_nt (by decide)).trans (lf35_.trans rf_eq)); (refine (rf_nt (by decide)).trans ((w3_ j_).trans ?_); rw [hs1_, Int.toNat_natCast]; by_cases z_ : j_ = sl_; (rw [if_pos z_, if_pos z_]); (rw [if_neg z_, if_neg z_]; exact (rf_nt (by decide)).trans (us15_ j_)))) | (refine ⟨sl_, hs2_, hs3_, hs4_, rf_eq, ilf_pI (ilf_pI (ilf_tr (ilf_pI d15_ (Or.inl (by decide))) i9_) (Or.inl (by decide))) (Or.inl (by decide)), Or.inl ⟨e9_, w1_, ?_, ?_, fun j_ => ?_⟩⟩; (rw [← ee_.2]; omega); (refine (rf_nt (by decide)).trans (rf_eq.trans ee_.1)); (refine (rf_nt (by decide)).trans ((rf_nt (by decide)).trans ((w3_ j_).trans ((rf_nt (by decide)).trans (us15_ j_))))))
  · have cx7_ : ¬ (vx6_ = (-1)) := of_decide_eq_false cx7_
    obtain ⟨hs1_, hs2_, hs3_, hs4_⟩ : _ = (sl_ : Int) ∧ sl_ < 3 ∧ S0_.1 5 sl_ 0 = 0 ∧ ∀ j_ : Nat, j_ < sl_ → S0_.1 5 j_ 0 = 1 := by rcases hsl_ with z_ | z_; (exact absurd z_.1 cx7_); exact z_
    clear hsl_
    refine sm_T_go 2 (c1 := (15, [some (.inr (.inr (some (12, 0)))), some (.inl vx6_), none, none], [.inl 1], S0_)) rfl ?_
    refine sm_T_calg (d1_ := 0) (ex_ := 3) (Q1_ := vq_268 1 S0_) (Q2_ := vx_268 1 S0_) rfl rfl (by decide) (vc_268 1 S0_ hI_ ) rfl rfl (fun Sx29_ px32_ => ?_) (fun u_ Sx29_ px32_ => ?_)
    · obtain ⟨hIx30_, hFx31_, px32_⟩ := px32_
      refine Or.inr ⟨_, rfl, hIx30_, ai_fr_tr hF_ (fr_le hFx31_ rfl), ?_⟩
      obtain ⟨z1_, rfl⟩ := px32_
      first | (exact absurd z1_ (by decide)) | (exact ⟨ha0_, rfl⟩)
    obtain ⟨rfl, hIx30_, hFx31_, px32_⟩ := px32_
    have hFx33_ : ai_fr (sx_W vw_214v) S0_ Sx29_ := ai_fr_tr hF_ (fr_le hFx31_ rfl)
    have e15_ := px32_
    have hb15_ := (fr_arr (t := 98) (i := 0) hFx31_ rfl).trans hb_
    have hn15_ := (hFx31_.1 10 0 1 rfl).trans hn_
    have us15_ : ∀ j_ : Nat, Sx29_.1 5 j_ 0 = S0_.1 5 j_ 0 := fun j_ => hFx31_.1 5 j_ 0 rfl
    have d15_ : ilf sl_ S0_ Sx29_ := ilf_fr hFx31_ (by decide) (by decide)
    have hIx34_ : gi (sm_pI Sx29_ 12 0 10 0) := gi_pI hIx30_ (show 0 ≤ 0 ∧ 0 ≤ 23 from ⟨by omega, by omega⟩)
    have hFx35_ : ai_fr (sx_W vw_214v) S0_ (sm_pI Sx29_ 12 0 10 0) := ai_fr_tr hFx33_ (ai_fr_pI rfl)
    refine sm_T_go 10 (c1 := (34, [some (.inr (.inr (some (12, 0)))), some (.inl vx6_), some (.inl vx6_), none], [.inl vx6_, .inr (.inr (some (111, 0))), .inr (.inr (some (7, 0)))], sm_pI Sx29_ 12 0 10 0)) rfl ?_
    refine sm_T_aald (t0 := 5) (n := 3) rfl rfl (by omega) (by omega) ?_
    refine sm_T_calh (d1_ := 5) (ex_ := 2) (Q1_ := vq_131v b_ n_ vx6_.toNat (sm_pI Sx29_ 12 0 10 0)) (Q2_ := vx_131v b_ n_ vx6_.toNat (sm_pI Sx29_ 12 0 10 0)) rfl rfl (by decide) (vc_131v b_ n_ vx6_.toNat (sm_pI Sx29_ 12 0 10 0) hIx34_ (by exact hb15_) (by exact hn15_) (by exact hn1_)) rfl rfl (Nat.le_of_ble_eq_true rfl) (fun Sx36_ px39_ => ?_) (fun u_ Sx36_ px39_ => ?_)
    · obtain ⟨hIx37_, hFx38_, px39_⟩ := px39_
      have hFx40_ : ai_fr (sx_W vw_214v) S0_ Sx36_ := ai_fr_tr hFx35_ (fr_le hFx38_ rfl)
      obtain ⟨i9_, e9_, w1_, w2_, w3_⟩ := px39_
      have ee_ := w2_
      try rw [hs1_, Int.toNat_natCast] at i9_
      refine sm_T_go 0 (c1 := (42, [some (.inr (.inr (some (12, 0)))), some (.inl vx6_), some (.inl vx6_), none], [], Sx36_)) rfl ?_
      have bx41_ : 0 ≤ Sx36_.1 10 0 6 ∧ Sx36_.1 10 0 6 ≤ 23 := hIx37_.1 10 0 6 rfl
      have hIx42_ : gi (sm_pI Sx36_ 12 0 10 (Sx36_.1 10 0 6)) := gi_pI hIx37_ (show 0 ≤ (Sx36_.1 10 0 6) ∧ (Sx36_.1 10 0 6) ≤ 23 from ⟨by omega, by omega⟩)
      have hFx43_ : ai_fr (sx_W vw_214v) S0_ (sm_pI Sx36_ 12 0 10 (Sx36_.1 10 0 6)) := ai_fr_tr hFx40_ (ai_fr_pI rfl)
      have bx44_ : 0 ≤ Sx36_.1 10 0 7 ∧ Sx36_.1 10 0 7 ≤ 4095 := hIx37_.1 10 0 7 rfl
      refine sm_T_go 9 (c1 := (61, [some (.inr (.inr (some (12, 0)))), some (.inl vx6_), some (.inl vx6_), none], [.inl (Sx36_.1 10 0 7), .inl (-1)], sm_pI Sx36_ 12 0 10 (Sx36_.1 10 0 6))) rfl ?_
      refine sm_T_bin (w := -(Sx36_.1 10 0 7) - 1) rfl (bi_sub (by omega) (by omega) (by omega)) ?_
      have hIx45_ : gi (sm_pI (sm_pI Sx36_ 12 0 10 (Sx36_.1 10 0 6)) 10 0 1 0) := gi_pI hIx42_ (show 0 ≤ 0 ∧ 0 ≤ 1280 from ⟨by omega, by omega⟩)
      have hFx46_ : ai_fr (sx_W vw_214v) S0_ (sm_pI (sm_pI Sx36_ 12 0 10 (Sx36_.1 10 0 6)) 10 0 1 0) := ai_fr_tr hFx43_ (ai_fr_pI rfl)
      refine sm_T_go 6 (c1 := (72, [some (.inr (.inr (some (12, 0)))), some (.inl vx6_), some (.inl (-(Sx36_.1 10 0 7) - 1)), none], [.inl (-(Sx36_.1 10 0 7) - 1)], sm_pI (sm_pI Sx36_ 12 0 10 (Sx36_.1 10 0 6)) 10 0 1 0)) rfl ?_
      refine sm_T_ri rfl (Or.inl ⟨_, _, _, rfl, Nat.le_of_ble_eq_true rfl, _, rfl, hIx45_, hFx46_, ?_⟩)
      first | (exact absurd rfl e15_) | (refine ⟨sl_, hs2_, hs3_, hs4_, rf_eq, ilf_pI (ilf_tr (ilf_pI d15_ (Or.inl (by decide))) i9_) (Or.inl (by decide)), Or.inr ⟨⟨r9_, w1_, lcl_fr (w_ := ([(10, 1)], [], [])) w4_ (ai_fr_pI rfl) rfl rfl rfl rfl rfl, (rf_nt (by decide)).trans w5_⟩, hs1_, ?_, fun j_ => ?_⟩⟩; (exact (rf_nt (by decide)).trans (lf35_.trans rf_eq)); (refine (rf_nt (by decide)).trans ((w3_ j_).trans ?_); rw [hs1_, Int.toNat_natCast]; by_cases z_ : j_ = sl_; (rw [if_pos z_, if_pos z_]); (rw [if_neg z_, if_neg z_]; exact (rf_nt (by decide)).trans (us15_ j_)))) | (refine ⟨sl_, hs2_, hs3_, hs4_, rf_eq, ilf_pI (ilf_pI (ilf_tr (ilf_pI d15_ (Or.inl (by decide))) i9_) (Or.inl (by decide))) (Or.inl (by decide)), Or.inl ⟨e9_, w1_, ?_, ?_, fun j_ => ?_⟩⟩; (rw [← ee_.2]; omega); (refine (rf_nt (by decide)).trans (rf_eq.trans ee_.1)); (refine (rf_nt (by decide)).trans ((rf_nt (by decide)).trans ((w3_ j_).trans ((rf_nt (by decide)).trans (us15_ j_))))))
    obtain ⟨rfl, hIx37_, hFx38_, px39_⟩ := px39_
    have hFx40_ : ai_fr (sx_W vw_214v) S0_ Sx36_ := ai_fr_tr hFx35_ (fr_le hFx38_ rfl)
    obtain ⟨dx47_, px39_⟩ := px39_
    obtain ⟨r9_, w1_, w4_, w5_, w3_⟩ := px39_
    have i9_ := dx47_
    try rw [hs1_, Int.toNat_natCast] at i9_ w4_ w5_
    have lf35_ := hFx38_.1 12 0 10 rfl
    have hIx48_ : gi (sm_pI Sx36_ 10 0 1 0) := gi_pI hIx37_ (show 0 ≤ 0 ∧ 0 ≤ 1280 from ⟨by omega, by omega⟩)
    have hFx49_ : ai_fr (sx_W vw_214v) S0_ (sm_pI Sx36_ 10 0 1 0) := ai_fr_tr hFx40_ (ai_fr_pI rfl)
    refine sm_T_go 6 (c1 := (72, [some (.inr (.inr (some (12, 0)))), some (.inl vx6_), some (.inl vx6_), none], [.inl vx6_], sm_pI Sx36_ 10 0 1 0)) rfl ?_
    refine sm_T_ri rfl (Or.inl ⟨_, _, _, rfl, Nat.le_of_ble_eq_true rfl, _, rfl, hIx48_, hFx49_, ?_⟩)
    first | (exact absurd rfl e15_) | (refine ⟨sl_, hs2_, hs3_, hs4_, rf_eq, ilf_pI (ilf_tr (ilf_pI d15_ (Or.inl (by decide))) i9_) (Or.inl (by decide)), Or.inr ⟨⟨r9_, w1_, lcl_fr (w_ := ([(10, 1)], [], [])) w4_ (ai_fr_pI rfl) rfl rfl rfl rfl rfl, (rf_nt (by decide)).trans w5_⟩, hs1_, ?_, fun j_ => ?_⟩⟩; (exact (rf_nt (by decide)).trans (lf35_.trans rf_eq)); (refine (rf_nt (by decide)).trans ((w3_ j_).trans ?_); rw [hs1_, Int.toNat_natCast]; by_cases z_ : j_ = sl_; (rw [if_pos z_, if_pos z_]); (rw [if_neg z_, if_neg z_]; exact (rf_nt (by decide)).trans (us15_ j_)))) | (refine ⟨sl_, hs2_, hs3_, hs4_, rf_eq, ilf_pI (ilf_pI (ilf_tr (ilf_pI d15_ (Or.inl (by decide))) i9_) (Or.inl (by decide))) (Or.inl (by decide)), Or.inl ⟨e9_, w1_, ?_, ?_, fun j_ => ?_⟩⟩; (rw [← ee_.2]; omega); (refine (rf_nt (by decide)).trans (rf_eq.trans ee_.1)); (refine (rf_nt (by decide)).trans ((rf_nt (by decide)).trans ((w3_ j_).trans ((rf_nt (by decide)).trans (us15_ j_))))))
end
/-! 99.ztH -/
section
/-! what a library keeps: the reference tells cells; written by wip/p55/gen/vg -/

/-! what a_ library keeps: the_ reference -/
/-- the_ cells told so_ far_ are_ those of_ L_ -/
def ncl (K_ : Nat) (L_ : pL) (S_ : sm_S) : Prop := ∀ k_, k_ < K_ → S_.2.2.1 179 0 k_ = (L_ k_).1 ∧ S_.2.2.1 180 0 k_ = (L_ k_).2.1 ∧ S_.2.2.1 181 0 k_ = (L_ k_).2.2.1 ∧ S_.2.2.1 182 0 k_ = (L_ k_).2.2.2
def rwq (b_ : Nat → Int) (n_ T_ K_ : Nat) (f_ : Nat → Nat) (L_ : pL) (S_ : sm_S) : Prop := rw_ b_ n_ T_ 178 83 K_ f_ S_ ∧ c_dt K_ S_ ∧ ncl K_ L_ S_
theorem ncl_fr {w_ : sx_Wl} {K_ : Nat} {L_ : pL} {S_ S'_ : sm_S} (h_ : ncl K_ L_ S_) (g_ : ai_fr (sx_W w_) S_ S'_) (h4_ : (sx_W w_).2.1 179 = false := by rfl) (h5_ : (sx_W w_).2.1 180 = false := by rfl) (h2_ : (sx_W w_).2.1 181 = false := by rfl) (h3_ : (sx_W w_).2.1 182 = false := by rfl) : ncl K_ L_ S'_ := by
  unfold ncl
  rw [fr_arr (t := 179) g_ h4_, fr_arr (t := 180) g_ h5_, fr_arr (t := 181) g_ h2_, fr_arr (t := 182) g_ h3_]
  exact h_
theorem rwq_fr {w_ : sx_Wl} {b_ : Nat → Int} {n_ T_ K_ : Nat} {f_ : Nat → Nat} {L_ : pL} {S_ S'_ : sm_S} (h_ : rwq b_ n_ T_ K_ f_ L_ S_) (g_ : ai_fr (sx_W w_) S_ S'_) (h0_ : (sx_W w_).1 13 83 = false) (h1_ : (sx_W w_).2.1 178 = false) (h2_ : (sx_W w_).2.1 181 = false) (h3_ : (sx_W w_).2.1 182 = false) (h4_ : (sx_W w_).2.1 179 = false := by rfl) (h5_ : (sx_W w_).2.1 180 = false := by rfl) : rwq b_ n_ T_ K_ f_ L_ S'_ := by
  refine ⟨rw_fr h_.1 g_ h0_ h1_, ?_, ncl_fr h_.2.2 g_ h4_ h5_ h2_ h3_⟩
  unfold c_dt
  rw [fr_arr g_ h2_, fr_arr g_ h3_]
  exact h_.2.1
theorem ncl_up {K_ i_ : Nat} {L_ : pL} {c_ : pC} {x_ e_ v_ w_ : Int} {S1_ S2_ S3_ S4_ S5_ : sm_S} (h_ : ncl K_ L_ S1_) (hi_ : i_ = K_) (hx_ : x_ = (c_.2.1 : Int)) (he_ : e_ = c_.2.2.1) (hv_ : v_ = c_.2.2.2.1) (hw_ : w_ = c_.2.2.2.2.1)
    (n2_ : S2_.2.2.1 179 0 = (sm_aI (sm_aI S1_ 180 0 i_ e_) 179 0 i_ x_).2.2.1 179 0) (f2_ : S2_.2.2.1 180 0 = (sm_aI (sm_aI S1_ 180 0 i_ e_) 179 0 i_ x_).2.2.1 180 0) (a2_ : S2_.2.2.1 181 0 = (sm_aI (sm_aI S1_ 180 0 i_ e_) 179 0 i_ x_).2.2.1 181 0) (d2_ : S2_.2.2.1 182 0 = (sm_aI (sm_aI S1_ 180 0 i_ e_) 179 0 i_ x_).2.2.1 182 0)
    (n3_ : S3_.2.2.1 179 0 = (sm_aI S2_ 181 0 i_ v_).2.2.1 179 0) (f3_ : S3_.2.2.1 180 0 = (sm_aI S2_ 181 0 i_ v_).2.2.1 180 0) (a3_ : S3_.2.2.1 181 0 = (sm_aI S2_ 181 0 i_ v_).2.2.1 181 0) (d3_ : S3_.2.2.1 182 0 = (sm_aI S2_ 181 0 i_ v_).2.2.1 182 0)
    (n4_ : S4_.2.2.1 179 0 = (sm_aI S3_ 182 0 i_ w_).2.2.1 179 0) (f4_ : S4_.2.2.1 180 0 = (sm_aI S3_ 182 0 i_ w_).2.2.1 180 0) (a4_ : S4_.2.2.1 181 0 = (sm_aI S3_ 182 0 i_ w_).2.2.1 181 0) (d4_ : S4_.2.2.1 182 0 = (sm_aI S3_ 182 0 i_ w_).2.2.1 182 0)
    (n5_ : S5_.2.2.1 179 0 = S4_.2.2.1 179 0) (f5_ : S5_.2.2.1 180 0 = S4_.2.2.1 180 0) (a5_ : S5_.2.2.1 181 0 = S4_.2.2.1 181 0) (d5_ : S5_.2.2.1 182 0 = S4_.2.2.1 182 0) : ncl (K_ + 1) (l_up L_ K_ c_) S5_ := by
  intro k_ hk_
  rw [n5_, f5_, a5_, d5_, n4_, f4_, a4_, d4_, rd_ne (t' := 179) (t := 182) (by decide), rd_ne (t' := 180) (t := 182) (by decide), rd_ne (t' := 181) (t := 182) (by decide), rd_eq, n3_, f3_, a3_, d3_, rd_ne (t' := 179) (t := 181) (by decide), rd_ne (t' := 180) (t := 181) (by decide), rd_eq, rd_ne (t' := 182) (t := 181) (by decide), n2_, f2_, a2_, d2_]
  simp only [rd_eq, rd_ne, ne_eq, Nat.reduceEqDiff, not_false_eq_true]
  by_cases q_ : k_ = K_
  · rw [if_pos (by omega), if_pos (by omega), if_pos (by omega), if_pos (by omega)]
    unfold l_up
    rw [if_pos q_]
    exact ⟨hx_, he_, hv_, hw_⟩
  · rw [if_neg (by omega), if_neg (by omega), if_neg (by omega), if_neg (by omega)]
    unfold l_up
    rw [if_neg q_]
    exact h_ k_ (by omega)
theorem y9_5 {b_ : Nat → Int} {n_ K_ p_ : Nat} {f_ : Nat → Nat} {a_ : ((((Nat × pI) × pR) × (Nat × Int)) × (Nat × Int)) × Nat} (h_ : y_9 b_ n_ K_ f_ p_ = .inr a_) : ∃ x_, y_5 b_ n_ K_ f_ p_ = .inr (a_.1.1.1.1, x_) ∧ p_ex b_ n_ true (p_pl b_ n_ a_.1.1.1.1.2.1 a_.1.1.1.1.2.2.1) [] x_ = .inr a_.1.1.1.2 := by
  obtain ⟨a8_, i1_, j1_⟩ := pb_inr h_
  obtain ⟨z9_, j2_, j3_⟩ := pb_inr j1_
  cases j3_
  obtain ⟨a7_, i2_, j4_⟩ := pb_inr i1_
  obtain ⟨z8_, j5_, j6_⟩ := pb_inr j4_
  cases j6_
  obtain ⟨a6_, i3_, j7_⟩ := pb_inr i2_
  obtain ⟨z7_, j8_, j9_⟩ := pb_inr j7_
  cases j9_
  obtain ⟨a5_, i4_, k1_⟩ := pb_inr i3_
  obtain ⟨z6_, k2_, k3_⟩ := pb_inr k1_
  cases k3_
  exact ⟨a5_.2, i4_, k2_⟩
theorem sh_2 {K_ : Nat} (h_ : K_ ≤ 3) : i_shl 1 (i_shl 1 (K_ : Int)) = 2 ^ (2 ^ K_) := (pw_tb h_).1
theorem vs_h {g_ : List Int} {S_ : sm_S} (h_ : vs 2 g_ S_) (l_ : g_.length = 1) : S_.2.2.1 139 0 0 = h_tp g_ := by
  have q_ := h_.2.2 rfl
  match g_, l_, q_ with
  | [w_], _, q_ => exact q_.1

/-! M_.tellCell -/
def vw_366v : sx_Wl := ([(13, 9), (13, 10), (13, 11), (13, 32), (13, 33), (13, 34), (13, 80), (13, 83)], [136, 137, 138, 139, 177, 178, 179, 180, 181, 182], [])
def vq_366v (b_ : Nat → Int) (n_ : Nat) (T_ : Nat) (p_ : Nat) (K_ : Nat) (f_ : Nat → Nat) (L_ : pL) (S0_ : sm_S) (u_ : Option sm_V) (S1_ : sm_S) : Prop := u_ = none ∧ gi S1_ ∧ ai_fr (sx_W vw_366v) S0_ S1_ ∧ (rg b_ n_ T_ (pb (p_ce b_ n_ K_ f_ p_) fun c_ => .inr c_.2.2.2.2.2) S1_ ∧ ∀ c_, p_ce b_ n_ K_ f_ p_ = .inr c_ → rwq b_ n_ T_ (K_ + 1) (n_up f_ K_ c_.1) (l_up L_ K_ c_) S1_)
set_option maxHeartbeats 2000000 in
set_option maxRecDepth 20000 in
theorem vl_366v {sc_ : Nat × (Nat → Int)} (b_ : Nat → Int) (n_ : Nat) (T_ : Nat) (p_ : Nat) (K_ : Nat) (f_ : Nat → Nat) (L_ : pL) (S0_ : sm_S) (ht_ : rtab b_ n_ T_ S0_) (hx_ : rg b_ n_ T_ (.inr p_) S0_) (hmo_ : (S0_.1 13 0 27) = 2) (hrow : rwq b_ n_ T_ K_ f_ L_ S0_) : ∀ nn_ : Nat, (∀ (t_ : Int) (i_ : Int) (S_ : sm_S), gi S_ → ai_fr (sx_W vw_366v) S0_ S_ → ((0 ≤ i_ ∧ i_ ≤ 12) ∧ ((∃ e_, (zn2 b_ n_ K_ f_ (p_nd b_ n_ 9 p_)) = .inl e_ ∧ rg b_ n_ T_ (.inl e_) S_) ∨ (∃ q0_, (pb (p_nd b_ n_ 9 p_) (p_du b_ n_ 1)) = .inr q0_ ∧ rg b_ n_ T_ (.inr q0_) S_ ∧ p_fd (fun s_ => nm_q b_ n_ (f_ s_) q0_)  i_.toNat = -1 ∧ i_ ≤ (K_ : Int))) ∧ (0 ≤ t_ ∧ t_ ≤ 1280) ∧ (∀ pq_, (pb (p_nd b_ n_ 9 p_) (p_du b_ n_ 1)) = .inr pq_ → rtk b_ n_ T_ t_ pq_) ∧ (∀ pq_, (p_nd b_ n_ 9 p_) = .inr pq_ → rwq b_ n_ T_ K_ f_ L_ S_) ∧ True) → ((9000 - i_).toNat) < nn_ → sm_T (mt_P sc_) 8 366 (30, [some (.inr (.inr (some (13, 0)))), some (.inl t_), some (.inl i_)], [], S_) (fun ro9_ => ∃ u_ S1_, ro9_ = (.inl u_, S1_, 0) ∧ vq_366v b_ n_ T_ p_ K_ f_ L_ S0_ u_ S1_)) ∧ (∀ (t_ : Int) (S_ : sm_S), gi S_ → ai_fr (sx_W vw_366v) S0_ S_ → ((rg b_ n_ T_ (zn2 b_ n_ K_ f_ (p_nd b_ n_ 9 p_)) S_) ∧ (0 ≤ t_ ∧ t_ ≤ 1280) ∧ (∀ pq_, (pb (p_nd b_ n_ 9 p_) (p_du b_ n_ 1)) = .inr pq_ → rtk b_ n_ T_ t_ pq_) ∧ (∀ pq_, (p_nd b_ n_ 9 p_) = .inr pq_ → rwq b_ n_ T_ K_ f_ L_ S_) ∧ True) → ((8000 : Nat)) < nn_ → sm_T (mt_P sc_) 8 366 (72, [some (.inr (.inr (some (13, 0)))), some (.inl t_), none], [], S_) (fun ro9_ => ∃ u_ S1_, ro9_ = (.inl u_, S1_, 0) ∧ vq_366v b_ n_ T_ p_ K_ f_ L_ S0_ u_ S1_)) ∧ (∀ (t_ : Int) (S_ : sm_S), gi S_ → ai_fr (sx_W vw_366v) S0_ S_ → ((rg b_ n_ T_ (zn3 b_ n_ K_ f_ 12 (p_nd b_ n_ 9 p_)) S_) ∧ (0 ≤ t_ ∧ t_ ≤ 1280) ∧ (∀ pq_, (pb (p_nd b_ n_ 9 p_) (p_du b_ n_ 1)) = .inr pq_ → rtk b_ n_ T_ t_ pq_) ∧ (∀ pq_, (p_nd b_ n_ 9 p_) = .inr pq_ → rwq b_ n_ T_ K_ f_ L_ S_) ∧ True) → ((7000 : Nat)) < nn_ → sm_T (mt_P sc_) 8 366 (95, [some (.inr (.inr (some (13, 0)))), some (.inl t_), none], [], S_) (fun ro9_ => ∃ u_ S1_, ro9_ = (.inl u_, S1_, 0) ∧ vq_366v b_ n_ T_ p_ K_ f_ L_ S0_ u_ S1_)) ∧ (∀ (t_ : Int) (S_ : sm_S), gi S_ → ai_fr (sx_W vw_366v) S0_ S_ → ((y_w b_ n_ T_ (y_3 b_ n_ K_ f_ p_) S_ ∨ y_i b_ n_ T_ (y_3 b_ n_ K_ f_ p_) S_) ∧ (0 ≤ t_ ∧ t_ ≤ 1280) ∧ (∀ q_, (pb (p_nd b_ n_ 9 p_) (p_du b_ n_ 1)) = .inr q_ → rtk b_ n_ T_ t_ q_) ∧ (∀ r_, p_nd b_ n_ 9 p_ = .inr r_ → rwq b_ n_ T_ K_ f_ L_ S_) ∧ True) → (r_m4 S_) < nn_ → sm_T (mt_P sc_) 8 366 (114, [some (.inr (.inr (some (13, 0)))), some (.inl t_), none], [], S_) (fun ro9_ => ∃ u_ S1_, ro9_ = (.inl u_, S1_, 0) ∧ vq_366v b_ n_ T_ p_ K_ f_ L_ S0_ u_ S1_)) ∧ (∀ (t_ : Int) (S_ : sm_S), gi S_ → ai_fr (sx_W vw_366v) S0_ S_ → ((rg b_ n_ T_ (pb (y_3 b_ n_ K_ f_ p_) fun a_ => .inr a_.2.2.2) S_) ∧ (∀ a_, (y_3 b_ n_ K_ f_ p_) = .inr a_ → inr_ b_ n_ T_ a_.2.1 a_.2.2.1 S_) ∧ (0 ≤ t_ ∧ t_ ≤ 1280) ∧ (∀ q_, (pb (p_nd b_ n_ 9 p_) (p_du b_ n_ 1)) = .inr q_ → rtk b_ n_ T_ t_ q_) ∧ (∀ r_, p_nd b_ n_ 9 p_ = .inr r_ → rwq b_ n_ T_ K_ f_ L_ S_) ∧ True) → ((0 : Nat)) < nn_ → sm_T (mt_P sc_) 8 366 (141, [some (.inr (.inr (some (13, 0)))), some (.inl t_), none], [], S_) (fun ro9_ => ∃ u_ S1_, ro9_ = (.inl u_, S1_, 0) ∧ vq_366v b_ n_ T_ p_ K_ f_ L_ S0_ u_ S1_)) := by
  intro nn_
  induction nn_ with
  | zero => exact ⟨fun _ _ _ _ _ _ h_ => absurd h_ (Nat.not_lt_zero _), fun _ _ _ _ _ h_ => absurd h_ (Nat.not_lt_zero _), fun _ _ _ _ _ h_ => absurd h_ (Nat.not_lt_zero _), fun _ _ _ _ _ h_ => absurd h_ (Nat.not_lt_zero _), fun _ _ _ _ _ h_ => absurd h_ (Nat.not_lt_zero _)⟩
  | succ nn_ ih_ =>
    refine ⟨?_, ?_, ?_, ?_, ?_⟩
    · rintro t_ i_ S_ hI_ hF_ ⟨h0_, h1_, tb_, tk_, row_, -⟩ hm_
      have le0_ := rg_le ht_ hx_
      have hn1_ := ht_.1
      have tt_ := rtab_fr ht_ hF_ rfl rfl rfl rfl rfl
      have cb1_ : 0 ≤ S_.1 13 0 83 ∧ S_.1 13 0 83 ≤ 12 := hI_.1 13 0 83 rfl
      have bx1_ : 0 ≤ S_.1 13 0 83 ∧ S_.1 13 0 83 ≤ 12 := hI_.1 13 0 83 rfl
      refine sm_T_go 3 (c1 := (35, [some (.inr (.inr (some (13, 0)))), some (.inl t_), some (.inl i_)], [.inl (S_.1 13 0 83), .inl i_], S_)) rfl ?_
      refine sm_T_br (a := 3) (z := 37) rfl (fun cx2_ => ?_) (fun cx2_ => ?_)
      · have cx2_ : (S_.1 13 0 83) ≤ i_ := of_decide_eq_true cx2_
        refine sm_T_go 0 (c1 := (72, [some (.inr (.inr (some (13, 0)))), some (.inl t_), some (.inl i_)], [], S_)) rfl ?_
        refine sm_T_wk [some (.inr (.inr (some (13, 0)))), some (.inl t_), none] (by exact ⟨rfl, rfl, trivial⟩) ?_
        refine ih_.2.1 t_ S_ hI_ hF_ ⟨?_, ?_, ?_, ?_, trivial⟩ ?_
        · rcases h1_ with ⟨e_, z1_, z2_⟩ | ⟨q0_, z1_, z2_, z3_, z4_⟩
          · rw [z1_]; exact z2_
          · have rowq := row_ q0_ (du_r z1_).1
            have cnq_ : S_.1 13 0 83 = (K_ : Int) := rowq.1.1
            first | (exact absurd z2_.1 hz_) | (have e_ : (zn2 b_ n_ K_ f_ (p_nd b_ n_ 9 p_)) = .inr q0_ := (by unfold zn2; rw [z1_]; show (if p_fd (fun s_ => nm_q b_ n_ (f_ s_) q0_) K_ = -1 then _ else _) = _; rw [show K_ = i_.toNat by omega, if_pos z3_]); rw [e_]; exact z2_)
        · omega
        · exact tk_
        · exact row_
        · omega
      · have cx2_ : ¬ ((S_.1 13 0 83) ≤ i_) := of_decide_eq_false cx2_
        refine sm_T_go 1 (c1 := (39, [some (.inr (.inr (some (13, 0)))), some (.inl t_), some (.inl i_)], [.inr (.inr (some (13, 0)))], S_)) rfl ?_
        refine sm_T_cal (d1 := 0) (Q1 := vq_292  S_) rfl rfl (by decide) (vc_292  S_ hI_ ) (fun u_ Sx3_ px6_ => ?_)
        obtain ⟨rfl, vx8_, rfl, px6_⟩ := px6_
        have e1r := px6_
        refine sm_T_b0 (a := 0) (z := 30) rfl (fun cx9_ => ?_) (fun cx9_ => ?_)
        · have cx9_ : vx8_ = 0 := of_decide_eq_true cx9_
          have hz_ := wr_if e1r (by omega)
          refine sm_T_go 0 (c1 := (72, [some (.inr (.inr (some (13, 0)))), some (.inl t_), some (.inl i_)], [], S_)) rfl ?_
          refine sm_T_wk [some (.inr (.inr (some (13, 0)))), some (.inl t_), none] (by exact ⟨rfl, rfl, trivial⟩) ?_
          refine ih_.2.1 t_ S_ hI_ hF_ ⟨?_, ?_, ?_, ?_, trivial⟩ ?_
          · rcases h1_ with ⟨e_, z1_, z2_⟩ | ⟨q0_, z1_, z2_, z3_, z4_⟩
            · rw [z1_]; exact z2_
            · have rowq := row_ q0_ (du_r z1_).1
              have cnq_ : S_.1 13 0 83 = (K_ : Int) := rowq.1.1
              first | (exact absurd z2_.1 hz_) | (have e_ : (zn2 b_ n_ K_ f_ (p_nd b_ n_ 9 p_)) = .inr q0_ := (by unfold zn2; rw [z1_]; show (if p_fd (fun s_ => nm_q b_ n_ (f_ s_) q0_) K_ = -1 then _ else _) = _; rw [show K_ = i_.toNat by omega, if_pos z3_]); rw [e_]; exact z2_)
          · omega
          · exact tk_
          · exact row_
          · omega
        · have cx9_ : ¬ (vx8_ = 0) := of_decide_eq_false cx9_
          have hz_ := rt_if e1r (by omega)
          obtain ⟨q0_, hq0_, gq0, fq0_, iq0_⟩ : ∃ q0_, (pb (p_nd b_ n_ 9 p_) (p_du b_ n_ 1)) = .inr q0_ ∧ rg b_ n_ T_ (.inr q0_) S_ ∧ p_fd (fun s_ => nm_q b_ n_ (f_ s_) q0_)  i_.toNat = -1 ∧ i_ ≤ (K_ : Int) := by rcases h1_ with ⟨e_, z1_, z2_⟩ | z_; (exact absurd (z2_.1.symm.trans hz_) z2_.2.2); exact z_
          have rowq := row_ q0_ (du_r hq0_).1
          have cnq_ : S_.1 13 0 83 = (K_ : Int) := rowq.1.1
          have rtq_ := rowq.1.2 i_.toNat (by omega)
          have tkq_ := tk_ q0_ hq0_
          have ptq_ := rtk_pl tt_ tkq_
          have soq_ : S_.2.2.1 119 0 t_.toNat ≠ 4 := by obtain ⟨i3_, y1_, y2_, y3_, y4_⟩ := tkq_; have y5_ := (tt_.2.2.1.1 i3_ y2_).2; rw [← y3_] at y5_; rw [y1_, Int.toNat_natCast, y5_.2.1, y4_.2]; decide
          refine sm_T_go 4 (c1 := (51, [some (.inr (.inr (some (13, 0)))), some (.inl t_), some (.inl i_)], [.inl i_, .inr (.inr (some (178, 0))), .inr (.inr (some (13, 0)))], S_)) rfl ?_
          refine sm_T_iald (n := 12) rfl rfl (by omega) (by omega) ?_
          have bx10_ : 0 ≤ S_.2.2.1 178 0 i_.toNat ∧ S_.2.2.1 178 0 i_.toNat ≤ 1280 := hI_.2 178 0 _
          refine sm_T_go 1 (c1 := (53, [some (.inr (.inr (some (13, 0)))), some (.inl t_), some (.inl i_)], [.inl t_, .inl (S_.2.2.1 178 0 i_.toNat), .inr (.inr (some (13, 0)))], S_)) rfl ?_
          refine sm_T_cal (d1 := 0) (Q1 := vq_301 (S_.2.2.1 178 0 i_.toNat) t_ b_ n_ T_ (f_ i_.toNat) q0_ S_) rfl rfl (by decide) (vc_301 (S_.2.2.1 178 0 i_.toNat) t_ b_ n_ T_ (f_ i_.toNat) q0_ S_ hI_ (by exact tt_) (by exact rtq_) (by exact tkq_)) (fun u_ Sx11_ px14_ => ?_)
          obtain ⟨rfl, vx16_, rfl, px14_⟩ := px14_
          have esm_ := px14_
          refine sm_T_b0 (a := 0) (z := 10) rfl (fun cx17_ => ?_) (fun cx17_ => ?_)
          · have cx17_ : vx16_ = 0 := of_decide_eq_true cx17_
            have nq_ : nm_q b_ n_ (f_ i_.toNat) q0_ = false := by cases z_ : nm_q b_ n_ (f_ i_.toNat) q0_; rfl; (rw [if_pos z_] at esm_; omega)
            refine sm_T_inc (a := 2) (z := 1) (v := i_) (w := i_ + 1) rfl rfl (by omega) (by omega) (by omega) ?_
            refine sm_T_go 1 (c1 := (30, [some (.inr (.inr (some (13, 0)))), some (.inl t_), some (.inl (i_ + 1))], [], S_)) rfl ?_
            refine ih_.1 t_ (i_ + 1) S_ hI_ hF_ ⟨?_, ?_, ?_, ?_, ?_, trivial⟩ ?_
            · omega
            · first | (left; exact ⟨_, z2e, gw_⟩) | (right; exact ⟨q0_, hq0_, gq0, by rw [show (i_ + 1).toNat = i_.toNat + 1 by omega]; exact p_fd_nx fq0_ nq_, by omega⟩)
            · omega
            · exact tk_
            · first | exact roww | exact row_
            · omega
          · have cx17_ : ¬ (vx16_ = 0) := of_decide_eq_false cx17_
            have nq_ : nm_q b_ n_ (f_ i_.toNat) q0_ = true := by cases z_ : nm_q b_ n_ (f_ i_.toNat) q0_; (rw [if_neg (by rw [z_]; decide)] at esm_; omega); rfl
            have z2e : (zn2 b_ n_ K_ f_ (p_nd b_ n_ 9 p_)) = .inl (10, q0_) := by unfold zn2; rw [hq0_]; show (if p_fd (fun s_ => nm_q b_ n_ (f_ s_) q0_)  K_ = -1 then _ else _) = _; rw [if_neg (by rw [p_fd_go fq0_ nq_ (show i_.toNat < K_ by omega)]; omega)]
            refine sm_T_go 3 (c1 := (63, [some (.inr (.inr (some (13, 0)))), some (.inl t_), some (.inl i_)], [.inl t_, .inl 10, .inr (.inr (some (13, 0)))], S_)) rfl ?_
            refine sm_T_cal (d1 := 0) (Q1 := vq_293 10 t_ S_) rfl rfl (by decide) (vc_293 10 t_ S_ hI_ (by decide) (by omega)) (fun u_ Sx18_ px21_ => ?_)
            obtain ⟨rfl, hIx19_, hFx20_, px21_⟩ := px21_
            have hFx22_ : ai_fr (sx_W vw_366v) S0_ Sx18_ := ai_fr_tr hF_ (fr_le hFx20_ rfl)
            have ex23_ : Sx18_.1 13 0 83 = S_.1 13 0 83 := hFx20_.1 13 0 83 rfl
            have gw_ : rg b_ n_ T_ (.inl (10, q0_)) Sx18_ := by rcases px21_ with z_ | z_; (exact absurd hz_ z_.1); (exact ⟨z_.2.1.trans (if_neg soq_), z_.2.2.trans ptq_.2, by show (10 : Int) ≠ 0; decide⟩)
            have roww : ∀ pq_, (p_nd b_ n_ 9 p_) = .inr pq_ → rwq b_ n_ T_ K_ f_ L_ Sx18_ := fun pq_ hp_ => rwq_fr (row_ pq_ hp_) hFx20_ rfl rfl rfl rfl
            refine sm_T_inc (a := 2) (z := 1) (v := i_) (w := i_ + 1) rfl rfl (by omega) (by omega) (by omega) ?_
            refine sm_T_go 1 (c1 := (30, [some (.inr (.inr (some (13, 0)))), some (.inl t_), some (.inl (i_ + 1))], [], Sx18_)) rfl ?_
            refine ih_.1 t_ (i_ + 1) Sx18_ hIx19_ hFx22_ ⟨?_, ?_, ?_, ?_, ?_, trivial⟩ ?_
            · omega
            · first | (left; exact ⟨_, z2e, gw_⟩) | (right; exact ⟨q0_, hq0_, gq0, by rw [show (i_ + 1).toNat = i_.toNat + 1 by omega]; exact p_fd_nx fq0_ nq_, by omega⟩)
            · omega
            · exact tk_
            · first | exact roww | exact row_
            · omega
    · rintro t_ S_ hI_ hF_ ⟨g50_, tb_, tk_, row_, -⟩ hm_
      have le0_ := rg_le ht_ hx_
      have hn1_ := ht_.1
      have tt_ := rtab_fr ht_ hF_ rfl rfl rfl rfl rfl
      refine sm_T_go 1 (c1 := (73, [some (.inr (.inr (some (13, 0)))), some (.inl t_), none], [.inr (.inr (some (13, 0)))], S_)) rfl ?_
      refine sm_T_cal (d1 := 0) (Q1 := vq_292  S_) rfl rfl (by decide) (vc_292  S_ hI_ ) (fun u_ Sx1_ px4_ => ?_)
      obtain ⟨rfl, vx6_, rfl, px4_⟩ := px4_
      have e2r := px4_
      refine sm_T_b0 (a := 0) (z := 19) rfl (fun cx7_ => ?_) (fun cx7_ => ?_)
      · have cx7_ : vx6_ = 0 := of_decide_eq_true cx7_
        have hz_ := wr_if e2r (by omega)
        obtain ⟨e5_, he5_⟩ := rg_w g50_ hz_
        have z3w : (zn3 b_ n_ K_ f_ 12 (p_nd b_ n_ 9 p_)) = .inl e5_ := by unfold zn3; rw [he5_]; rfl
        have g3w := g50_
        rw [he5_] at g3w
        refine sm_T_go 0 (c1 := (95, [some (.inr (.inr (some (13, 0)))), some (.inl t_), none], [], S_)) rfl ?_
        refine ih_.2.2.1 t_ S_ hI_ hF_ ⟨?_, ?_, ?_, ?_, trivial⟩ ?_
        · first | exact gf_ | (rw [z3w]; exact g3w) | (rw [z3c, if_neg (by omega)]; exact g3r)
        · omega
        · exact tk_
        · first | exact rowf | exact row_
        · omega
      · have cx7_ : ¬ (vx6_ = 0) := of_decide_eq_false cx7_
        have hz_ := rt_if e2r (by omega)
        obtain ⟨q0_, i2_, hq2_, hi21_, hi22_⟩ := rg_r g50_ hz_
        have hq0_ := (zn2_r hq2_).1
        have g3r := g50_
        rw [hq2_] at g3r
        have z3c : (zn3 b_ n_ K_ f_ 12 (p_nd b_ n_ 9 p_)) = if (K_ : Int) = 12 then .inl (15, q0_) else .inr q0_ := by unfold zn3; rw [hq2_]; rfl
        have rowq := row_ q0_ (du_r hq0_).1
        have cnq_ : S_.1 13 0 83 = (K_ : Int) := rowq.1.1
        have tkq_ := tk_ q0_ hq0_
        have ptq_ := rtk_pl tt_ tkq_
        have soq_ : S_.2.2.1 119 0 t_.toNat ≠ 4 := by obtain ⟨i3_, y1_, y2_, y3_, y4_⟩ := tkq_; have y5_ := (tt_.2.2.1.1 i3_ y2_).2; rw [← y3_] at y5_; rw [y1_, Int.toNat_natCast, y5_.2.1, y4_.2]; decide
        have bx8_ : 0 ≤ S_.1 13 0 83 ∧ S_.1 13 0 83 ≤ 12 := hI_.1 13 0 83 rfl
        refine sm_T_go 3 (c1 := (85, [some (.inr (.inr (some (13, 0)))), some (.inl t_), none], [.inl 12, .inl (S_.1 13 0 83)], S_)) rfl ?_
        refine sm_T_br (a := 1) (z := 10) rfl (fun cx9_ => ?_) (fun cx9_ => ?_)
        · have cx9_ : (S_.1 13 0 83) ≠ 12 := of_decide_eq_true cx9_
          refine sm_T_go 0 (c1 := (95, [some (.inr (.inr (some (13, 0)))), some (.inl t_), none], [], S_)) rfl ?_
          refine ih_.2.2.1 t_ S_ hI_ hF_ ⟨?_, ?_, ?_, ?_, trivial⟩ ?_
          · first | exact gf_ | (rw [z3w]; exact g3w) | (rw [z3c, if_neg (by omega)]; exact g3r)
          · omega
          · exact tk_
          · first | exact rowf | exact row_
          · omega
        · have cx9_ : ¬ ((S_.1 13 0 83) ≠ 12) := of_decide_eq_false cx9_
          refine sm_T_go 3 (c1 := (92, [some (.inr (.inr (some (13, 0)))), some (.inl t_), none], [.inl t_, .inl 15, .inr (.inr (some (13, 0)))], S_)) rfl ?_
          refine sm_T_cal (d1 := 0) (Q1 := vq_293 15 t_ S_) rfl rfl (by decide) (vc_293 15 t_ S_ hI_ (by decide) (by omega)) (fun u_ Sx10_ px13_ => ?_)
          obtain ⟨rfl, hIx11_, hFx12_, px13_⟩ := px13_
          have hFx14_ : ai_fr (sx_W vw_366v) S0_ Sx10_ := ai_fr_tr hF_ (fr_le hFx12_ rfl)
          have ex15_ : Sx10_.1 13 0 83 = S_.1 13 0 83 := hFx12_.1 13 0 83 rfl
          have gf_ : rg b_ n_ T_ (zn3 b_ n_ K_ f_ 12 (p_nd b_ n_ 9 p_)) Sx10_ := by rw [z3c, if_pos (by omega)]; rcases px13_ with z_ | z_; (exact absurd hz_ z_.1); (exact ⟨z_.2.1.trans (if_neg soq_), z_.2.2.trans ptq_.2, by show (15 : Int) ≠ 0; decide⟩)
          have rowf : ∀ pq_, (p_nd b_ n_ 9 p_) = .inr pq_ → rwq b_ n_ T_ K_ f_ L_ Sx10_ := fun pq_ hp_ => rwq_fr (row_ pq_ hp_) hFx12_ rfl rfl rfl rfl
          refine sm_T_go 0 (c1 := (95, [some (.inr (.inr (some (13, 0)))), some (.inl t_), none], [], Sx10_)) rfl ?_
          refine ih_.2.2.1 t_ Sx10_ hIx11_ hFx14_ ⟨?_, ?_, ?_, ?_, trivial⟩ ?_
          · first | exact gf_ | (rw [z3w]; exact g3w) | (rw [z3c, if_neg (by omega)]; exact g3r)
          · omega
          · exact tk_
          · first | exact rowf | exact row_
          · omega
    · rintro t_ S_ hI_ hF_ ⟨g72_, tb_, tk_, row_, -⟩ hm_
      have le0_ := rg_le ht_ hx_
      have hn1_ := ht_.1
      have tt_ := rtab_fr ht_ hF_ rfl rfl rfl rfl rfl
      refine sm_T_go 1 (c1 := (96, [some (.inr (.inr (some (13, 0)))), some (.inl t_), none], [.inr (.inr (some (13, 0)))], S_)) rfl ?_
      refine sm_T_cal (d1 := 2) (Q1 := vq_297 b_ n_ T_ (zn3 b_ n_ K_ f_ 12 (p_nd b_ n_ 9 p_)) S_) rfl rfl (by decide) (vc_297 b_ n_ T_ (zn3 b_ n_ K_ f_ 12 (p_nd b_ n_ 9 p_)) S_ hI_ (by exact tt_) (by exact g72_) (by (intro r_ e_; have z_ := (du_r (zn2_r (zn3_r e_).1).1).2; omega))) (fun u_ Sx1_ px4_ => ?_)
      obtain ⟨rfl, hIx2_, hFx3_, px4_⟩ := px4_
      have hFx5_ : ai_fr (sx_W vw_366v) S0_ Sx1_ := ai_fr_tr hF_ (fr_le hFx3_ rfl)
      have ggo_ : rg b_ n_ T_ (pb (p_nd b_ n_ 9 p_) (p_nn b_ n_ K_ f_ 12)) Sx1_ := by rw [← nn_eq]; exact px4_.1
      have tgo_ := rtab_fr tt_ hFx3_ rfl rfl rfl rfl rfl
      have rowg : ∀ pq_, (p_nd b_ n_ 9 p_) = .inr pq_ → rwq b_ n_ T_ K_ f_ L_ Sx1_ := fun pq_ hp_ => rwq_fr (row_ pq_ hp_) hFx3_ rfl rfl rfl rfl
      have g96_ : rg b_ n_ T_ (pb (y_1 b_ n_ K_ f_ p_) fun a_ => .inr a_.2) Sx1_ := by unfold y_1; cases hy_ : p_nd b_ n_ 9 p_ with | inl e_ => (rw [hy_] at ggo_; exact ggo_) | inr q_ => (rw [hy_] at ggo_; rw [pb_ir, pb_as]; have z_ : (pb (p_nn b_ n_ K_ f_ 12 q_) fun a_ => pb (.inr (q_, a_)) fun a_ => .inr a_.2) = p_nn b_ n_ K_ f_ 12 q_ := pb_id; rw [z_]; exact ggo_)
      refine sm_T_go 2 (c1 := (102, [some (.inr (.inr (some (13, 0)))), some (.inl t_), none], [.inl 40, .inr (.inr (some (13, 0)))], Sx1_)) rfl ?_
      refine sm_T_cal (d1 := 3) (Q1 := vq_300 40 b_ n_ T_ (pb (y_1 b_ n_ K_ f_ p_) fun a_ => .inr a_.2) Sx1_) rfl rfl (by decide) (vc_300 40 b_ n_ T_ (pb (y_1 b_ n_ K_ f_ p_) fun a_ => .inr a_.2) Sx1_ hIx2_ (by exact tgo_) (by exact g96_) (by decide)) (fun u_ Sx6_ px9_ => ?_)
      obtain ⟨rfl, hIx7_, hFx8_, px9_⟩ := px9_
      have hFx10_ : ai_fr (sx_W vw_366v) S0_ Sx6_ := ai_fr_tr hFx5_ (fr_le hFx8_ rfl)
      have t102_ := rtab_fr tgo_ hFx8_ rfl rfl rfl rfl rfl
      have g102_ : rg b_ n_ T_ (pb (y_2 b_ n_ K_ f_ p_) fun a_ => .inr a_.2) Sx6_ := rg_pb px9_ (fun a_ _ => by rw [pb_as]; exact pb_id.symm)
      have row102_ : ∀ r_, p_nd b_ n_ 9 p_ = .inr r_ → rwq b_ n_ T_ K_ f_ L_ Sx6_ := fun r_ hr_ => rwq_fr (rowg r_ hr_) hFx8_ rfl rfl rfl rfl
      have hIx11_ : gi (sm_pI Sx6_ 13 0 80 0) := gi_pI hIx7_ (show 0 ≤ 0 ∧ 0 ≤ 3 from ⟨by omega, by omega⟩)
      have hFx12_ : ai_fr (sx_W vw_366v) S0_ (sm_pI Sx6_ 13 0 80 0) := ai_fr_tr hFx10_ (ai_fr_pI rfl)
      refine sm_T_go 4 (c1 := (111, [some (.inr (.inr (some (13, 0)))), some (.inl t_), none], [.inr (.inr (some (13, 0)))], sm_pI Sx6_ 13 0 80 0)) rfl ?_
      refine sm_T_cal (d1 := 3) (Q1 := vq_364 b_ n_ T_ (pb (y_2 b_ n_ K_ f_ p_) fun a_ => .inr a_.2) 0 f_0 (sm_pI Sx6_ 13 0 80 0)) rfl rfl (by decide) (vc_364 b_ n_ T_ (pb (y_2 b_ n_ K_ f_ p_) fun a_ => .inr a_.2) 0 f_0 (sm_pI Sx6_ 13 0 80 0) hIx11_ (by exact rtab_fr (w_ := ([(13, 80)], [], [])) t102_ (ai_fr_pI rfl) rfl rfl rfl rfl rfl) (by exact rg_fr (w_ := ([(13, 80)], [], [])) g102_ (ai_fr_pI rfl) rfl rfl rfl) (by (intro q_ hq_; exact ⟨rf_eq, by decide, fun j_ hj_ => absurd hj_ (Nat.not_lt_zero _), fun i_ j_ _ hj_ => absurd hj_ (Nat.not_lt_zero _)⟩))) (fun u_ Sx13_ px16_ => ?_)
      obtain ⟨rfl, hIx14_, hFx15_, px16_⟩ := px16_
      have hFx17_ : ai_fr (sx_W vw_366v) S0_ Sx13_ := ai_fr_tr hFx12_ (fr_le hFx15_ rfl)
      have e111_ := px16_
      have row111_ : ∀ r_, p_nd b_ n_ 9 p_ = .inr r_ → rwq b_ n_ T_ K_ f_ L_ Sx13_ := fun r_ hr_ => rwq_fr (S_ := (sm_pI Sx6_ 13 0 80 0)) (rwq_fr (w_ := ([(13, 80)], [], [])) (row102_ r_ hr_) (ai_fr_pI rfl) rfl rfl rfl rfl) hFx15_ rfl rfl rfl rfl
      have h111_ : y_w b_ n_ T_ (y_3 b_ n_ K_ f_ p_) Sx13_ ∨ y_i b_ n_ T_ (y_3 b_ n_ K_ f_ p_) Sx13_ := by cases hy_ : (y_2 b_ n_ K_ f_ p_) with | inl e_ => (left; rw [hy_] at e111_; exact ⟨e_, by unfold y_3; rw [hy_]; rfl, e111_.1⟩) | inr a_ => (rw [hy_] at e111_; exact yi_nn (x_ := .inr a_.2) (q_ := a_.1) (by decide) e111_.1 e111_.2 (by unfold y_3; rw [hy_]; rfl))
      refine sm_T_go 0 (c1 := (114, [some (.inr (.inr (some (13, 0)))), some (.inl t_), none], [], Sx13_)) rfl ?_
      refine ih_.2.2.2.1 t_ Sx13_ hIx14_ hFx17_ ⟨?_, ?_, ?_, ?_, trivial⟩ ?_
      · exact h111_
      · omega
      · exact tk_
      · exact row111_
      · exact Nat.lt_of_le_of_lt (rm4_b hIx14_).2 (by omega)
    · rintro t_ S_ hI_ hF_ ⟨h1_, tb_, tk_, row_, -⟩ hm_
      have le0_ := rg_le ht_ hx_
      have hn1_ := ht_.1
      have tt_ := rtab_fr ht_ hF_ rfl rfl rfl rfl rfl
      refine sm_T_go 1 (c1 := (115, [some (.inr (.inr (some (13, 0)))), some (.inl t_), none], [.inr (.inr (some (13, 0)))], S_)) rfl ?_
      refine sm_T_cal (d1 := 0) (Q1 := vq_292  S_) rfl rfl (by decide) (vc_292  S_ hI_ ) (fun u_ Sx1_ px4_ => ?_)
      obtain ⟨rfl, vx6_, rfl, px4_⟩ := px4_
      have e115_ := px4_
      refine sm_T_b0 (a := 0) (z := 23) rfl (fun cx7_ => ?_) (fun cx7_ => ?_)
      · have cx7_ : vx6_ = 0 := of_decide_eq_true cx7_
        have hz_ := wr_if e115_ (by omega)
        have hw_ : y_w b_ n_ T_ (y_3 b_ n_ K_ f_ p_) S_ := by rcases h1_ with z_ | ⟨q_, K1_, f1_, r_, z1_, z2_⟩; exact z_; (exact absurd z1_.1 hz_)
        refine sm_T_go 0 (c1 := (141, [some (.inr (.inr (some (13, 0)))), some (.inl t_), none], [], S_)) rfl ?_
        refine ih_.2.2.2.2 t_ S_ hI_ hF_ ⟨?_, ?_, ?_, ?_, ?_, trivial⟩ ?_
        · first | (obtain ⟨e9_, z1_, z2_⟩ := hw_; rw [z1_]; exact z2_) | (rw [hZ1_]; exact g1_)
        · first | (obtain ⟨e9_, z1_, z2_⟩ := hw_; intro a_ ha_; rw [z1_] at ha_; cases ha_; done) | (intro a_ ha_; rw [hZ1_] at ha_; cases ha_; exact in1_)
        · omega
        · exact tk_
        · exact row_
        · (have z_ := (rm4_b hI_).1); omega
      · have cx7_ : ¬ (vx6_ = 0) := of_decide_eq_false cx7_
        have hz_ := rt_if e115_ (by omega)
        obtain ⟨q1_, K1_, f1_, r1_, g1_, in1_, hK1_, hZ1_⟩ : y_i b_ n_ T_ (y_3 b_ n_ K_ f_ p_) S_ := by rcases h1_ with ⟨e_, z1_, z2_⟩ | z_; (exact absurd (z2_.1.symm.trans hz_) z2_.2.2); exact z_
        have in1a := in1_.1
        have in1b := in1_.2.1
        have le1_ := rg_le tt_ g1_
        refine sm_T_go 2 (c1 := (124, [some (.inr (.inr (some (13, 0)))), some (.inl t_), none], [.inl 44, .inr (.inr (some (13, 0)))], S_)) rfl ?_
        refine sm_T_cal (d1 := 0) (Q1 := vq_295 44 b_ n_ T_ (.inr r1_) S_) rfl rfl (by decide) (vc_295 44 b_ n_ T_ (.inr r1_) S_ hI_ (by exact tt_) (by exact g1_) (by decide)) (fun u_ Sx8_ px11_ => ?_)
        obtain ⟨rfl, vx13_, rfl, px11_⟩ := px11_
        have e124_ := px11_.2 r1_ rfl
        have r124_ := px11_.1.1
        refine sm_T_b0 (a := 0) (z := 14) rfl (fun cx14_ => ?_) (fun cx14_ => ?_)
        · have cx14_ : vx13_ = 0 := of_decide_eq_true cx14_
          have n44_ : lx_kd b_ n_ r1_ ≠ 44 := fun z_ => by have := e124_.mpr z_; omega
          rw [if_neg n44_] at hZ1_
          refine sm_T_go 0 (c1 := (141, [some (.inr (.inr (some (13, 0)))), some (.inl t_), none], [], S_)) rfl ?_
          refine ih_.2.2.2.2 t_ S_ hI_ hF_ ⟨?_, ?_, ?_, ?_, ?_, trivial⟩ ?_
          · first | (obtain ⟨e9_, z1_, z2_⟩ := hw_; rw [z1_]; exact z2_) | (rw [hZ1_]; exact g1_)
          · first | (obtain ⟨e9_, z1_, z2_⟩ := hw_; intro a_ ha_; rw [z1_] at ha_; cases ha_; done) | (intro a_ ha_; rw [hZ1_] at ha_; cases ha_; exact in1_)
          · omega
          · exact tk_
          · exact row_
          · (have z_ := (rm4_b hI_).1); omega
        · have cx14_ : ¬ (vx13_ = 0) := of_decide_eq_false cx14_
          have k44_ : lx_kd b_ n_ r1_ = 44 := e124_.mp (by omega)
          rw [if_pos k44_] at hZ1_
          refine sm_T_go 1 (c1 := (131, [some (.inr (.inr (some (13, 0)))), some (.inl t_), none], [.inr (.inr (some (13, 0)))], S_)) rfl ?_
          refine sm_T_cal (d1 := 2) (Q1 := vq_297 b_ n_ T_ (.inr r1_) S_) rfl rfl (by decide) (vc_297 b_ n_ T_ (.inr r1_) S_ hI_ (by exact tt_) (by exact g1_) (by (intro z_ e_; cases e_; rw [k44_]; decide))) (fun u_ Sx15_ px18_ => ?_)
          obtain ⟨rfl, hIx16_, hFx17_, px18_⟩ := px18_
          have hFx19_ : ai_fr (sx_W vw_366v) S0_ Sx15_ := ai_fr_tr hF_ (fr_le hFx17_ rfl)
          have g131_ : rg b_ n_ T_ (p_ad b_ n_ r1_) Sx15_ := px18_.1
          have t131_ := rtab_fr tt_ hFx17_ rfl rfl rfl rfl rfl
          have in131_ := inr_fr in1_ hFx17_ rfl rfl
          have row131_ : ∀ r_, p_nd b_ n_ 9 p_ = .inr r_ → rwq b_ n_ T_ K_ f_ L_ Sx15_ := fun r_ hr_ => rwq_fr (row_ r_ hr_) hFx17_ rfl rfl rfl rfl
          have ci131_ := hFx17_.1 13 0 80 rfl
          refine sm_T_go 1 (c1 := (135, [some (.inr (.inr (some (13, 0)))), some (.inl t_), none], [.inr (.inr (some (13, 0)))], Sx15_)) rfl ?_
          refine sm_T_cal (d1 := 3) (Q1 := vq_364 b_ n_ T_ (p_ad b_ n_ r1_) K1_ f1_ Sx15_) rfl rfl (by decide) (vc_364 b_ n_ T_ (p_ad b_ n_ r1_) K1_ f1_ Sx15_ hIx16_ (by exact t131_) (by exact g131_) (by exact fun _ _ => in131_)) (fun u_ Sx20_ px23_ => ?_)
          obtain ⟨rfl, hIx21_, hFx22_, px23_⟩ := px23_
          have hFx24_ : ai_fr (sx_W vw_366v) S0_ Sx20_ := ai_fr_tr hFx19_ (fr_le hFx22_ rfl)
          have e135_ := px23_
          have row135_ : ∀ r_, p_nd b_ n_ 9 p_ = .inr r_ → rwq b_ n_ T_ K_ f_ L_ Sx20_ := fun r_ hr_ => rwq_fr (row131_ r_ hr_) hFx22_ rfl rfl rfl rfl
          have h135_ : y_w b_ n_ T_ (y_3 b_ n_ K_ f_ p_) Sx20_ ∨ y_i b_ n_ T_ (y_3 b_ n_ K_ f_ p_) Sx20_ := yi_nn in1b e135_.1 e135_.2 hZ1_
          have in135_ : Sx20_.1 13 0 10 = 0 → Sx20_.1 13 0 80 = (K1_ : Int) + 1 := fun z_ => by obtain ⟨r9_, i9_, hr9_, -⟩ := rg_r e135_.1 z_; obtain ⟨p9_, hp9_, hn9_⟩ := pb_inr hr9_; have w9_ := (e135_.2 p9_ r9_ hp9_ hn9_).1; rw [w9_]; push_cast; rfl
          refine sm_T_go 1 (c1 := (114, [some (.inr (.inr (some (13, 0)))), some (.inl t_), none], [], Sx20_)) rfl ?_
          refine ih_.2.2.2.1 t_ Sx20_ hIx21_ hFx24_ ⟨?_, ?_, ?_, ?_, trivial⟩ ?_
          · exact h135_
          · omega
          · exact tk_
          · exact row135_
          · (have z_ : r_m4 S_ = (12 - S_.1 13 0 80).toNat := if_neg (by rw [hz_]; exact fun y_ => y_ rfl)); unfold r_m4; split; omega; (rename_i gg_; have w_ := in135_ (Decidable.byContradiction gg_); omega)
    · rintro t_ S_ hI_ hF_ ⟨g141_, in141_, tb_, tk_, row_, -⟩ hm_
      have le0_ := rg_le ht_ hx_
      have hn1_ := ht_.1
      have tt_ := rtab_fr ht_ hF_ rfl rfl rfl rfl rfl
      refine sm_T_go 2 (c1 := (144, [some (.inr (.inr (some (13, 0)))), some (.inl t_), none], [.inl 41, .inr (.inr (some (13, 0)))], S_)) rfl ?_
      refine sm_T_cal (d1 := 3) (Q1 := vq_300 41 b_ n_ T_ (pb (y_3 b_ n_ K_ f_ p_) fun a_ => .inr a_.2.2.2) S_) rfl rfl (by decide) (vc_300 41 b_ n_ T_ (pb (y_3 b_ n_ K_ f_ p_) fun a_ => .inr a_.2.2.2) S_ hI_ (by exact tt_) (by exact g141_) (by decide)) (fun u_ Sx1_ px4_ => ?_)
      obtain ⟨rfl, hIx2_, hFx3_, px4_⟩ := px4_
      have hFx5_ : ai_fr (sx_W vw_366v) S0_ Sx1_ := ai_fr_tr hF_ (fr_le hFx3_ rfl)
      have t144_ := rtab_fr tt_ hFx3_ rfl rfl rfl rfl rfl
      have g144_ : rg b_ n_ T_ (pb (y_4 b_ n_ K_ f_ p_) fun a_ => .inr a_.2) Sx1_ := rg_pb px4_ (fun a_ _ => by rw [pb_as]; exact pb_id.symm)
      have in144_ : ∀ a_, (y_3 b_ n_ K_ f_ p_) = .inr a_ → inr_ b_ n_ T_ a_.2.1 a_.2.2.1 Sx1_ := fun a_ ha_ => inr_fr (in141_ a_ ha_) hFx3_ rfl rfl
      have row144_ : ∀ r_, p_nd b_ n_ 9 p_ = .inr r_ → rwq b_ n_ T_ K_ f_ L_ Sx1_ := fun r_ hr_ => rwq_fr (row_ r_ hr_) hFx3_ rfl rfl rfl rfl
      refine sm_T_go 2 (c1 := (150, [some (.inr (.inr (some (13, 0)))), some (.inl t_), none], [.inl 61, .inr (.inr (some (13, 0)))], Sx1_)) rfl ?_
      refine sm_T_cal (d1 := 3) (Q1 := vq_300 61 b_ n_ T_ (pb (y_4 b_ n_ K_ f_ p_) fun a_ => .inr a_.2) Sx1_) rfl rfl (by decide) (vc_300 61 b_ n_ T_ (pb (y_4 b_ n_ K_ f_ p_) fun a_ => .inr a_.2) Sx1_ hIx2_ (by exact t144_) (by exact g144_) (by decide)) (fun u_ Sx6_ px9_ => ?_)
      obtain ⟨rfl, hIx7_, hFx8_, px9_⟩ := px9_
      have hFx10_ : ai_fr (sx_W vw_366v) S0_ Sx6_ := ai_fr_tr hFx5_ (fr_le hFx8_ rfl)
      have t150_ := rtab_fr t144_ hFx8_ rfl rfl rfl rfl rfl
      have g150_ : rg b_ n_ T_ (pb (y_5 b_ n_ K_ f_ p_) fun a_ => .inr a_.2) Sx6_ := rg_pb px9_ (fun a_ _ => by rw [pb_as]; exact pb_id.symm)
      have in150_ : ∀ a_, (y_3 b_ n_ K_ f_ p_) = .inr a_ → inr_ b_ n_ T_ a_.2.1 a_.2.2.1 Sx6_ := fun a_ ha_ => inr_fr (in144_ a_ ha_) hFx8_ rfl rfl
      have row150_ : ∀ r_, p_nd b_ n_ 9 p_ = .inr r_ → rwq b_ n_ T_ K_ f_ L_ Sx6_ := fun r_ hr_ => rwq_fr (row144_ r_ hr_) hFx8_ rfl rfl rfl rfl
      have mo150_ : Sx6_.1 13 0 27 = 2 := (hFx10_.1 13 0 27 rfl).trans hmo_
      refine sm_T_go 1 (c1 := (154, [some (.inr (.inr (some (13, 0)))), some (.inl t_), none], [.inr (.inr (some (13, 0)))], Sx6_)) rfl ?_
      refine sm_T_cal (d1 := 7) (Q1 := vq_321 b_ n_ T_ 2 (pb (y_5 b_ n_ K_ f_ p_) fun a_ => .inr a_.2) [] A_0 0 (g_d (y_5 b_ n_ K_ f_ p_) ((0, (0, f_0, 0)), 0)).1.2.1 (g_d (y_5 b_ n_ K_ f_ p_) ((0, (0, f_0, 0)), 0)).1.2.2.1 Sx6_) rfl rfl (by decide) (vc_321 b_ n_ T_ 2 (pb (y_5 b_ n_ K_ f_ p_) fun a_ => .inr a_.2) [] A_0 0 (g_d (y_5 b_ n_ K_ f_ p_) ((0, (0, f_0, 0)), 0)).1.2.1 (g_d (y_5 b_ n_ K_ f_ p_) ((0, (0, f_0, 0)), 0)).1.2.2.1 Sx6_ hIx7_ (by exact t150_) (by exact g150_) (by exact Or.inr rfl) (by exact mo150_) (by (intro q_ hq_; obtain ⟨a_, h1_, h2_⟩ := pb_inr hq_; refine ⟨Nat.zero_le _, fun z_ => absurd z_ (by decide), fun _ => ?_⟩; rw [h1_]; exact in150_ a_.1 (y5_1 h1_))) (by exact pm_2)) (fun u_ Sx11_ px14_ => ?_)
      obtain ⟨rfl, hIx12_, hFx13_, px14_⟩ := px14_
      have hFx15_ : ai_fr (sx_W vw_366v) S0_ Sx11_ := ai_fr_tr hFx10_ (fr_le hFx13_ rfl)
      have t154_ := rtab_fr t150_ hFx13_ rfl rfl rfl rfl rfl
      have g154_ : rg b_ n_ T_ (pb (y_6 b_ n_ K_ f_ p_) fun a_ => .inr a_.2.1) Sx11_ := by have z_ := px14_.1; simp only [ex_2] at z_; unfold y_6; cases hy_ : (y_5 b_ n_ K_ f_ p_) with | inl e_ => (rw [hy_] at z_; exact z_) | inr a_ => (rw [hy_] at z_; rw [pb_ir, pb_as]; exact z_)
      have row154_ : ∀ r_, p_nd b_ n_ 9 p_ = .inr r_ → rwq b_ n_ T_ K_ f_ L_ Sx11_ := fun r_ hr_ => rwq_fr (row150_ r_ hr_) hFx13_ rfl rfl rfl rfl
      have cb154_ : 0 ≤ Sx11_.1 13 0 80 ∧ Sx11_.1 13 0 80 ≤ 3 := hIx12_.1 13 0 80 rfl
      have nb154_ : 0 ≤ Sx11_.1 13 0 83 ∧ Sx11_.1 13 0 83 ≤ 12 := hIx12_.1 13 0 83 rfl
      have shb_ := sh_b cb154_
      have vs154_ := px14_.2
      have ci154_ := hFx13_.1 13 0 80 rfl
      obtain ⟨nc, hnc_⟩ : ∃ nc, Sx11_.1 13 0 83 = nc := ⟨_, rfl⟩
      have bx16_ : 0 ≤ Sx11_.1 13 0 83 ∧ Sx11_.1 13 0 83 ≤ 12 := hIx12_.1 13 0 83 rfl
      refine sm_T_go 3 (c1 := (163, [some (.inr (.inr (some (13, 0)))), some (.inl t_), none], [.inl 12, .inl (Sx11_.1 13 0 83)], Sx11_)) rfl ?_
      refine sm_T_bin (w := ((Sx11_.1 13 0 83) % 12)) rfl (bi_rem (by omega) (by omega) (by omega) (by omega)) ?_
      refine sm_T_go 7 (c1 := (175, [some (.inr (.inr (some (13, 0)))), some (.inl t_), some (.inl ((Sx11_.1 13 0 83) % 12))], [.inl 0, .inr (.inr (some (139, 0))), .inl ((Sx11_.1 13 0 83) % 12), .inr (.inr (some (180, 0)))], Sx11_)) rfl ?_
      refine sm_T_iald (n := 8192) rfl rfl (by omega) (by omega) ?_
      have bx17_ : 0 ≤ Sx11_.2.2.1 139 0 (0 : Int).toNat ∧ Sx11_.2.2.1 139 0 (0 : Int).toNat ≤ 2047 := hIx12_.2 139 0 _
      have bx18_ : 0 ≤ Sx11_.1 13 0 80 ∧ Sx11_.1 13 0 80 ≤ 3 := hIx12_.1 13 0 80 rfl
      refine sm_T_go 4 (c1 := (182, [some (.inr (.inr (some (13, 0)))), some (.inl t_), some (.inl ((Sx11_.1 13 0 83) % 12))], [.inl (Sx11_.1 13 0 80), .inl 1, .inl 1, .inl (Sx11_.2.2.1 139 0 (0 : Int).toNat), .inl ((Sx11_.1 13 0 83) % 12), .inr (.inr (some (180, 0)))], Sx11_)) rfl ?_
      refine sm_T_bin (w := (i_shl 1 (Sx11_.1 13 0 80))) rfl rfl ?_
      refine sm_T_bin (w := (i_shl 1 (i_shl 1 (Sx11_.1 13 0 80)))) rfl rfl ?_
      refine sm_T_go 1 (c1 := (185, [some (.inr (.inr (some (13, 0)))), some (.inl t_), some (.inl ((Sx11_.1 13 0 83) % 12))], [.inl 1, .inl (i_shl 1 (i_shl 1 (Sx11_.1 13 0 80))), .inl (Sx11_.2.2.1 139 0 (0 : Int).toNat), .inl ((Sx11_.1 13 0 83) % 12), .inr (.inr (some (180, 0)))], Sx11_)) rfl ?_
      refine sm_T_bin (w := (i_shl 1 (i_shl 1 (Sx11_.1 13 0 80))) - 1) rfl (bi_sub (by omega) (by omega) (by omega)) ?_
      refine sm_T_bin (w := (i_and (Sx11_.2.2.1 139 0 (0 : Int).toNat) ((i_shl 1 (i_shl 1 (Sx11_.1 13 0 80))) - 1))) rfl rfl ?_
      have bx19_ := i_and_m (x_ := (Sx11_.2.2.1 139 0 (0 : Int).toNat)) (y_ := ((i_shl 1 (i_shl 1 (Sx11_.1 13 0 80))) - 1)) (by omega) (by omega)
      refine sm_T_iast (n := 12) rfl rfl (by omega) (by omega) ?_
      have hIx20_ : gi (sm_aI Sx11_ 180 0 ((Sx11_.1 13 0 83) % 12).toNat (i_and (Sx11_.2.2.1 139 0 (0 : Int).toNat) ((i_shl 1 (i_shl 1 (Sx11_.1 13 0 80))) - 1))) := gi_aI hIx12_ (show 0 ≤ (i_and (Sx11_.2.2.1 139 0 (0 : Int).toNat) ((i_shl 1 (i_shl 1 (Sx11_.1 13 0 80))) - 1)) ∧ (i_and (Sx11_.2.2.1 139 0 (0 : Int).toNat) ((i_shl 1 (i_shl 1 (Sx11_.1 13 0 80))) - 1)) ≤ 255 from ⟨by omega, by omega⟩)
      have hFx21_ : ai_fr (sx_W vw_366v) S0_ (sm_aI Sx11_ 180 0 ((Sx11_.1 13 0 83) % 12).toNat (i_and (Sx11_.2.2.1 139 0 (0 : Int).toNat) ((i_shl 1 (i_shl 1 (Sx11_.1 13 0 80))) - 1))) := ai_fr_tr hFx15_ (ai_fr_aI rfl)
      refine sm_T_go 5 (c1 := (197, [some (.inr (.inr (some (13, 0)))), some (.inl t_), some (.inl ((Sx11_.1 13 0 83) % 12))], [.inl (Sx11_.1 13 0 80), .inl ((Sx11_.1 13 0 83) % 12), .inr (.inr (some (179, 0)))], sm_aI Sx11_ 180 0 ((Sx11_.1 13 0 83) % 12).toNat (i_and (Sx11_.2.2.1 139 0 (0 : Int).toNat) ((i_shl 1 (i_shl 1 (Sx11_.1 13 0 80))) - 1)))) rfl ?_
      refine sm_T_iast (n := 12) rfl rfl (by omega) (by omega) ?_
      have hIx22_ : gi (sm_aI (sm_aI Sx11_ 180 0 ((Sx11_.1 13 0 83) % 12).toNat (i_and (Sx11_.2.2.1 139 0 (0 : Int).toNat) ((i_shl 1 (i_shl 1 (Sx11_.1 13 0 80))) - 1))) 179 0 ((Sx11_.1 13 0 83) % 12).toNat (Sx11_.1 13 0 80)) := gi_aI hIx20_ (show 0 ≤ (Sx11_.1 13 0 80) ∧ (Sx11_.1 13 0 80) ≤ 3 from ⟨by omega, by omega⟩)
      have hFx23_ : ai_fr (sx_W vw_366v) S0_ (sm_aI (sm_aI Sx11_ 180 0 ((Sx11_.1 13 0 83) % 12).toNat (i_and (Sx11_.2.2.1 139 0 (0 : Int).toNat) ((i_shl 1 (i_shl 1 (Sx11_.1 13 0 80))) - 1))) 179 0 ((Sx11_.1 13 0 83) % 12).toNat (Sx11_.1 13 0 80)) := ai_fr_tr hFx21_ (ai_fr_aI rfl)
      refine sm_T_go 5 (c1 := (207, [some (.inr (.inr (some (13, 0)))), some (.inl t_), some (.inl ((Sx11_.1 13 0 83) % 12))], [.inl 1000, .inr (.inr (some (13, 0))), .inl ((Sx11_.1 13 0 83) % 12), .inr (.inr (some (181, 0)))], sm_aI (sm_aI Sx11_ 180 0 ((Sx11_.1 13 0 83) % 12).toNat (i_and (Sx11_.2.2.1 139 0 (0 : Int).toNat) ((i_shl 1 (i_shl 1 (Sx11_.1 13 0 80))) - 1))) 179 0 ((Sx11_.1 13 0 83) % 12).toNat (Sx11_.1 13 0 80))) rfl ?_
      refine sm_T_cal (d1 := 4) (Q1 := vq_365 1000 b_ n_ T_ (pb (y_6 b_ n_ K_ f_ p_) fun a_ => .inr a_.2.1) (sm_aI (sm_aI Sx11_ 180 0 ((Sx11_.1 13 0 83) % 12).toNat (i_and (Sx11_.2.2.1 139 0 (0 : Int).toNat) ((i_shl 1 (i_shl 1 (Sx11_.1 13 0 80))) - 1))) 179 0 ((Sx11_.1 13 0 83) % 12).toNat (Sx11_.1 13 0 80))) rfl rfl (by decide) (vc_365 1000 b_ n_ T_ (pb (y_6 b_ n_ K_ f_ p_) fun a_ => .inr a_.2.1) (sm_aI (sm_aI Sx11_ 180 0 ((Sx11_.1 13 0 83) % 12).toNat (i_and (Sx11_.2.2.1 139 0 (0 : Int).toNat) ((i_shl 1 (i_shl 1 (Sx11_.1 13 0 80))) - 1))) 179 0 ((Sx11_.1 13 0 83) % 12).toNat (Sx11_.1 13 0 80)) hIx22_ (by exact rtab_fr (w_ := ([], [179, 180], [])) t154_ (ai_fr_tr (ai_fr_aI rfl) (ai_fr_aI rfl)) rfl rfl rfl rfl rfl) (by exact rg_fr (w_ := ([], [179, 180], [])) g154_ (ai_fr_tr (ai_fr_aI rfl) (ai_fr_aI rfl)) rfl rfl rfl)) (fun u_ Sx24_ px27_ => ?_)
      obtain ⟨vx29_, rfl, hIx25_, hFx26_, px27_⟩ := px27_
      have hFx28_ : ai_fr (sx_W vw_366v) S0_ Sx24_ := ai_fr_tr hFx23_ (fr_le hFx26_ rfl)
      have t207_ := rtab_fr (S_ := (sm_aI (sm_aI Sx11_ 180 0 ((Sx11_.1 13 0 83) % 12).toNat (i_and (Sx11_.2.2.1 139 0 (0 : Int).toNat) ((i_shl 1 (i_shl 1 (Sx11_.1 13 0 80))) - 1))) 179 0 ((Sx11_.1 13 0 83) % 12).toNat (Sx11_.1 13 0 80))) (rtab_fr (w_ := ([], [179, 180], [])) t154_ (ai_fr_tr (ai_fr_aI rfl) (ai_fr_aI rfl)) rfl rfl rfl rfl rfl) hFx26_ rfl rfl rfl rfl rfl
      have g207_ : rg b_ n_ T_ (pb (y_7 b_ n_ K_ f_ p_) fun a_ => .inr a_.2.1) Sx24_ := by have z_ := px27_.1; unfold y_7; cases hy_ : (y_6 b_ n_ K_ f_ p_) with | inl e_ => (rw [hy_] at z_; exact z_) | inr a_ => (rw [hy_] at z_; rw [pb_ir, pb_as]; exact z_)
      have row207_ : ∀ r_, p_nd b_ n_ 9 p_ = .inr r_ → rw_ b_ n_ T_ 178 83 K_ f_ Sx24_ := fun r_ hr_ => rw_fr (S_ := (sm_aI (sm_aI Sx11_ 180 0 ((Sx11_.1 13 0 83) % 12).toNat (i_and (Sx11_.2.2.1 139 0 (0 : Int).toNat) ((i_shl 1 (i_shl 1 (Sx11_.1 13 0 80))) - 1))) 179 0 ((Sx11_.1 13 0 83) % 12).toNat (Sx11_.1 13 0 80))) (rw_fr (w_ := ([], [179, 180], [])) (row154_ r_ hr_).1 (ai_fr_tr (ai_fr_aI rfl) (ai_fr_aI rfl)) rfl rfl) hFx26_ rfl rfl
      have v207_ := px27_.2.2
      have ar207_ := fr_arr (t := 181) (i := 0) hFx26_ rfl
      have in207_ := fr_arr (t := 179) (i := 0) hFx26_ rfl
      have fu207_ := fr_arr (t := 180) (i := 0) hFx26_ rfl
      have dl207_ := fr_arr (t := 182) (i := 0) hFx26_ rfl
      have vv207_ : ∀ a_, (y_7 b_ n_ K_ f_ p_) = .inr a_ → vx29_ = a_.2.2 ∧ 1 ≤ a_.2.2 ∧ a_.2.2 ≤ 1000 := fun a_ ha_ => by obtain ⟨a6_, h1_, h2_⟩ := pb_inr ha_; obtain ⟨r_, h3_, h4_⟩ := pb_inr h2_; cases h4_; exact ⟨px27_.2.1 r_ (by rw [h1_]; exact h3_), ms_b (p_ := 0) h3_⟩
      have hnc207_ : Sx24_.1 13 0 83 = nc := (hFx26_.1 13 0 83 rfl).trans hnc_
      refine sm_T_iast (n := 12) rfl rfl (by omega) (by omega) ?_
      have hIx30_ : gi (sm_aI Sx24_ 181 0 ((Sx11_.1 13 0 83) % 12).toNat vx29_) := gi_aI hIx25_ (show (-2147483648) ≤ vx29_ ∧ vx29_ ≤ 2147483647 from ⟨by omega, by omega⟩)
      have hFx31_ : ai_fr (sx_W vw_366v) S0_ (sm_aI Sx24_ 181 0 ((Sx11_.1 13 0 83) % 12).toNat vx29_) := ai_fr_tr hFx28_ (ai_fr_aI rfl)
      refine sm_T_go 5 (c1 := (219, [some (.inr (.inr (some (13, 0)))), some (.inl t_), some (.inl ((Sx11_.1 13 0 83) % 12))], [.inl 100, .inr (.inr (some (13, 0))), .inl ((Sx11_.1 13 0 83) % 12), .inr (.inr (some (182, 0)))], sm_aI Sx24_ 181 0 ((Sx11_.1 13 0 83) % 12).toNat vx29_)) rfl ?_
      refine sm_T_cal (d1 := 4) (Q1 := vq_365 100 b_ n_ T_ (pb (y_7 b_ n_ K_ f_ p_) fun a_ => .inr a_.2.1) (sm_aI Sx24_ 181 0 ((Sx11_.1 13 0 83) % 12).toNat vx29_)) rfl rfl (by decide) (vc_365 100 b_ n_ T_ (pb (y_7 b_ n_ K_ f_ p_) fun a_ => .inr a_.2.1) (sm_aI Sx24_ 181 0 ((Sx11_.1 13 0 83) % 12).toNat vx29_) hIx30_ (by exact rtab_fr (w_ := ([], [181], [])) t207_ (ai_fr_aI rfl) rfl rfl rfl rfl rfl) (by exact rg_fr (w_ := ([], [181], [])) g207_ (ai_fr_aI rfl) rfl rfl rfl)) (fun u_ Sx32_ px35_ => ?_)
      obtain ⟨vx37_, rfl, hIx33_, hFx34_, px35_⟩ := px35_
      have hFx36_ : ai_fr (sx_W vw_366v) S0_ Sx32_ := ai_fr_tr hFx31_ (fr_le hFx34_ rfl)
      have t219_ := rtab_fr (S_ := (sm_aI Sx24_ 181 0 ((Sx11_.1 13 0 83) % 12).toNat vx29_)) (rtab_fr (w_ := ([], [181], [])) t207_ (ai_fr_aI rfl) rfl rfl rfl rfl rfl) hFx34_ rfl rfl rfl rfl rfl
      have g219_ : rg b_ n_ T_ (pb (y_8 b_ n_ K_ f_ p_) fun a_ => .inr a_.2.1) Sx32_ := by have z_ := px35_.1; unfold y_8; cases hy_ : (y_7 b_ n_ K_ f_ p_) with | inl e_ => (rw [hy_] at z_; exact z_) | inr a_ => (rw [hy_] at z_; rw [pb_ir, pb_as]; exact z_)
      have row219_ : ∀ r_, p_nd b_ n_ 9 p_ = .inr r_ → rw_ b_ n_ T_ 178 83 K_ f_ Sx32_ := fun r_ hr_ => rw_fr (S_ := (sm_aI Sx24_ 181 0 ((Sx11_.1 13 0 83) % 12).toNat vx29_)) (rw_fr (w_ := ([], [181], [])) (row207_ r_ hr_) (ai_fr_aI rfl) rfl rfl) hFx34_ rfl rfl
      have v219_ := px35_.2.2
      have ar219_ := fr_arr (t := 181) (i := 0) hFx34_ rfl
      have in219_ := fr_arr (t := 179) (i := 0) hFx34_ rfl
      have fu219_ := fr_arr (t := 180) (i := 0) hFx34_ rfl
      have dl219_ := fr_arr (t := 182) (i := 0) hFx34_ rfl
      have vv219_ : ∀ a_, (y_8 b_ n_ K_ f_ p_) = .inr a_ → vx37_ = a_.2.2 ∧ 1 ≤ a_.2.2 ∧ a_.2.2 ≤ 100 := fun a_ ha_ => by obtain ⟨a6_, h1_, h2_⟩ := pb_inr ha_; obtain ⟨r_, h3_, h4_⟩ := pb_inr h2_; cases h4_; exact ⟨px35_.2.1 r_ (by rw [h1_]; exact h3_), ms_b (p_ := 0) h3_⟩
      have hnc219_ : Sx32_.1 13 0 83 = nc := (hFx34_.1 13 0 83 rfl).trans hnc207_
      refine sm_T_iast (n := 12) rfl rfl (by omega) (by omega) ?_
      have hIx38_ : gi (sm_aI Sx32_ 182 0 ((Sx11_.1 13 0 83) % 12).toNat vx37_) := gi_aI hIx33_ (show (-2147483648) ≤ vx37_ ∧ vx37_ ≤ 2147483647 from ⟨by omega, by omega⟩)
      have hFx39_ : ai_fr (sx_W vw_366v) S0_ (sm_aI Sx32_ 182 0 ((Sx11_.1 13 0 83) % 12).toNat vx37_) := ai_fr_tr hFx36_ (ai_fr_aI rfl)
      refine sm_T_go 2 (c1 := (226, [some (.inr (.inr (some (13, 0)))), some (.inl t_), some (.inl ((Sx11_.1 13 0 83) % 12))], [.inl 59, .inr (.inr (some (13, 0)))], sm_aI Sx32_ 182 0 ((Sx11_.1 13 0 83) % 12).toNat vx37_)) rfl ?_
      refine sm_T_cal (d1 := 3) (Q1 := vq_300 59 b_ n_ T_ (pb (y_8 b_ n_ K_ f_ p_) fun a_ => .inr a_.2.1) (sm_aI Sx32_ 182 0 ((Sx11_.1 13 0 83) % 12).toNat vx37_)) rfl rfl (by decide) (vc_300 59 b_ n_ T_ (pb (y_8 b_ n_ K_ f_ p_) fun a_ => .inr a_.2.1) (sm_aI Sx32_ 182 0 ((Sx11_.1 13 0 83) % 12).toNat vx37_) hIx38_ (by exact rtab_fr (w_ := ([], [182], [])) t219_ (ai_fr_aI rfl) rfl rfl rfl rfl rfl) (by exact rg_fr (w_ := ([], [182], [])) g219_ (ai_fr_aI rfl) rfl rfl rfl) (by decide)) (fun u_ Sx40_ px43_ => ?_)
      obtain ⟨rfl, hIx41_, hFx42_, px43_⟩ := px43_
      have hFx44_ : ai_fr (sx_W vw_366v) S0_ Sx40_ := ai_fr_tr hFx39_ (fr_le hFx42_ rfl)
      have g226_ : rg b_ n_ T_ (pb (y_9 b_ n_ K_ f_ p_) fun a_ => .inr a_.2) Sx40_ := rg_pb px43_ (fun a_ _ => by rw [pb_as]; exact pb_id.symm)
      have row226_ : ∀ r_, p_nd b_ n_ 9 p_ = .inr r_ → rw_ b_ n_ T_ 178 83 K_ f_ Sx40_ := fun r_ hr_ => rw_fr (S_ := (sm_aI Sx32_ 182 0 ((Sx11_.1 13 0 83) % 12).toNat vx37_)) (rw_fr (w_ := ([], [182], [])) (row219_ r_ hr_) (ai_fr_aI rfl) rfl rfl) hFx42_ rfl rfl
      have ar226_ := fr_arr (t := 181) (i := 0) hFx42_ rfl
      have in226_ := fr_arr (t := 179) (i := 0) hFx42_ rfl
      have fu226_ := fr_arr (t := 180) (i := 0) hFx42_ rfl
      have dl226_ := fr_arr (t := 182) (i := 0) hFx42_ rfl
      have y98_ : ∀ a_, (y_9 b_ n_ K_ f_ p_) = .inr a_ → (y_8 b_ n_ K_ f_ p_) = .inr a_.1 ∧ (y_7 b_ n_ K_ f_ p_) = .inr a_.1.1 := fun a_ ha_ => by obtain ⟨a8_, i1_, j1_⟩ := pb_inr ha_; obtain ⟨z9_, j2_, j3_⟩ := pb_inr j1_; cases j3_; refine ⟨i1_, ?_⟩; obtain ⟨a7_, i2_, j4_⟩ := pb_inr i1_; obtain ⟨z8_, j5_, j6_⟩ := pb_inr j4_; cases j6_; exact i2_
      have hnc226_ : Sx40_.1 13 0 83 = nc := (hFx42_.1 13 0 83 rfl).trans hnc219_
      have nb226_ : 0 ≤ Sx40_.1 13 0 83 ∧ Sx40_.1 13 0 83 ≤ 12 := hIx41_.1 13 0 83 rfl
      have y91_ : ∀ a_, (y_9 b_ n_ K_ f_ p_) = .inr a_ → ∃ q_, p_nd b_ n_ 9 p_ = .inr q_ ∧ q_ = a_.1.1.1.1.1 ∧ ∃ r_, p_nn b_ n_ K_ f_ 12 q_ = .inr r_ := fun a_ ha_ => by obtain ⟨a8_, i1_, j1_⟩ := pb_inr ha_; obtain ⟨z9_, j2_, j3_⟩ := pb_inr j1_; cases j3_; obtain ⟨a7_, i2_, j4_⟩ := pb_inr i1_; obtain ⟨z8_, j5_, j6_⟩ := pb_inr j4_; cases j6_; obtain ⟨a6_, i3_, j7_⟩ := pb_inr i2_; obtain ⟨z7_, j8_, j9_⟩ := pb_inr j7_; cases j9_; obtain ⟨a5_, i4_, j10_⟩ := pb_inr i3_; obtain ⟨z6_, j11_, j12_⟩ := pb_inr j10_; cases j12_; obtain ⟨u_, h4_⟩ := y3_1 (y5_1 i4_); obtain ⟨h5_, r_, h6_⟩ := y2_1 h4_; exact ⟨_, h5_, rfl, r_, h6_⟩
      refine sm_T_go 4 (c1 := (235, [some (.inr (.inr (some (13, 0)))), some (.inl t_), some (.inl ((Sx11_.1 13 0 83) % 12))], [.inl t_, .inl ((Sx11_.1 13 0 83) % 12), .inr (.inr (some (178, 0)))], Sx40_)) rfl ?_
      refine sm_T_iast (n := 12) rfl rfl (by omega) (by omega) ?_
      have hIx45_ : gi (sm_aI Sx40_ 178 0 ((Sx11_.1 13 0 83) % 12).toNat t_) := gi_aI hIx41_ (show 0 ≤ t_ ∧ t_ ≤ 1280 from ⟨by omega, by omega⟩)
      have hFx46_ : ai_fr (sx_W vw_366v) S0_ (sm_aI Sx40_ 178 0 ((Sx11_.1 13 0 83) % 12).toNat t_) := ai_fr_tr hFx44_ (ai_fr_aI rfl)
      have bx47_ : 0 ≤ Sx40_.1 13 0 83 ∧ Sx40_.1 13 0 83 ≤ 12 := hIx41_.1 13 0 83 rfl
      refine sm_T_go 4 (c1 := (242, [some (.inr (.inr (some (13, 0)))), some (.inl t_), some (.inl ((Sx11_.1 13 0 83) % 12))], [.inr (.inr (some (13, 0))), .inl (Sx40_.1 13 0 83), .inr (.inr (some (13, 0)))], sm_aI Sx40_ 178 0 ((Sx11_.1 13 0 83) % 12).toNat t_)) rfl ?_
      refine sm_T_cal (d1 := 0) (Q1 := vq_292  (sm_aI Sx40_ 178 0 ((Sx11_.1 13 0 83) % 12).toNat t_)) rfl rfl (by decide) (vc_292  (sm_aI Sx40_ 178 0 ((Sx11_.1 13 0 83) % 12).toNat t_) hIx45_ ) (fun u_ Sx48_ px51_ => ?_)
      obtain ⟨rfl, vx53_, rfl, px51_⟩ := px51_
      have e242_ := px51_
      refine sm_T_b0 (a := 0) (z := 7) rfl (fun cx54_ => ?_) (fun cx54_ => ?_)
      · have cx54_ : vx53_ = 0 := of_decide_eq_true cx54_
        have hz9_ := wr_if e242_ (by omega)
        refine sm_T_go 1 (c1 := (253, [some (.inr (.inr (some (13, 0)))), some (.inl t_), some (.inl ((Sx11_.1 13 0 83) % 12))], [.inl 0, .inl (Sx40_.1 13 0 83), .inr (.inr (some (13, 0)))], sm_aI Sx40_ 178 0 ((Sx11_.1 13 0 83) % 12).toNat t_)) rfl ?_
        refine sm_T_bin (w := (Sx40_.1 13 0 83)) rfl (bi_add (by omega) (by omega) (by omega)) ?_
        have hIx55_ : gi (sm_pI (sm_aI Sx40_ 178 0 ((Sx11_.1 13 0 83) % 12).toNat t_) 13 0 83 (Sx40_.1 13 0 83)) := gi_pI hIx45_ (show 0 ≤ (Sx40_.1 13 0 83) ∧ (Sx40_.1 13 0 83) ≤ 12 from ⟨by omega, by omega⟩)
        have hFx56_ : ai_fr (sx_W vw_366v) S0_ (sm_pI (sm_aI Sx40_ 178 0 ((Sx11_.1 13 0 83) % 12).toNat t_) 13 0 83 (Sx40_.1 13 0 83)) := ai_fr_tr hFx46_ (ai_fr_pI rfl)
        refine sm_T_go 1 (c1 := (257, [some (.inr (.inr (some (13, 0)))), some (.inl t_), some (.inl ((Sx11_.1 13 0 83) % 12))], [], sm_pI (sm_aI Sx40_ 178 0 ((Sx11_.1 13 0 83) % 12).toNat t_) 13 0 83 (Sx40_.1 13 0 83))) rfl ?_
        refine sm_T_rv rfl ⟨_, _, rfl, rfl, hIx55_, hFx56_, ?_⟩
        refine ⟨?_, fun c_ hc_ => ?_⟩
        · rw [ce_y, pb_as]; exact rg_fr (w_ := ([(13, 83)], [178], [])) g226_ (ai_fr_tr (ai_fr_aI rfl) (ai_fr_pI rfl)) rfl rfl rfl
        · rw [ce_y] at hc_; obtain ⟨a8_, h8_, hc_⟩ := pb_inr hc_; cases hc_; first | (exfalso; rw [h8_] at g226_; exact hz9_ g226_.1) | (rw [ha9_] at h8_; cases h8_; refine ⟨⟨by rw [rf_eq]; push_cast; show _ = (K_ : Int) + 1; omega, fun j_ hj_ => ?_⟩, ?_⟩; (rw [rd_fa, rd_eq]; unfold n_up; by_cases z_ : j_ = K_; (rw [if_pos (by omega), if_pos z_]; show rtk b_ n_ T_ t_ a9_.1.1.1.1.1; rw [← hqe_]; exact tk9_); (rw [if_neg (by omega), if_neg z_]; exact row9_.2 j_ (by omega))); (exact ⟨cdt_up cd9_.1 (by omega) (by omega) (by omega) ar207_ dl207_ ar219_ dl219_ ar226_ dl226_ rfl rfl, ncl_up cd9_.2 (by omega) kc9_ (by (show _ = i_and (h_tp a9_.1.1.1.2.2.1) (2 ^ (2 ^ a9_.1.1.1.1.2.1) - 1); rw [← lt9_, ← sh_2 kb9_, ← kc9_]; first | rfl | skip)) vv7_.1 vv8_.1 in207_ fu207_ ar207_ dl207_ in219_ fu219_ ar219_ dl219_ in226_ fu226_ ar226_ dl226_ rfl rfl rfl rfl⟩))
      · have cx54_ : ¬ (vx53_ = 0) := of_decide_eq_false cx54_
        have hz9_ := rt_if e242_ (by omega)
        obtain ⟨a9_, ha9_⟩ := rg_rt g226_ hz9_
        obtain ⟨q9_, hq9_, hqe_, r9_, hr9_⟩ := y91_ a9_ ha9_
        have row9_ := row226_ q9_ hq9_
        have cd9_ := (row154_ q9_ hq9_).2
        obtain ⟨x5_, hy5_, hx5_⟩ := y9_5 ha9_
        have vs9_ := vs154_ a9_.1.1.1.2 (by simp only [ex_2]; rw [hy5_]; exact hx5_)
        have lt9_ := vs_h vs9_.1 vs9_.2
        have ki9_ := in150_ _ (y5_1 hy5_)
        have kc9_ := ci154_.trans ki9_.1
        have kb9_ := ki9_.2.1
        obtain ⟨y98a, y98b⟩ := y98_ a9_ ha9_
        have vv7_ := vv207_ _ y98b
        have vv8_ := vv219_ _ y98a
        have nn9_ := (p_nn_ok hr9_).1
        have nc9_ := row9_.1
        have tk9_ := tk_ q9_ (by rw [hq9_]; show p_du b_ n_ 1 q9_ = _; unfold p_du; rw [if_pos (p_nn_ok hr9_).2.1])
        refine sm_T_go 2 (c1 := (253, [some (.inr (.inr (some (13, 0)))), some (.inl t_), some (.inl ((Sx11_.1 13 0 83) % 12))], [.inl 1, .inl (Sx40_.1 13 0 83), .inr (.inr (some (13, 0)))], sm_aI Sx40_ 178 0 ((Sx11_.1 13 0 83) % 12).toNat t_)) rfl ?_
        refine sm_T_bin (w := (Sx40_.1 13 0 83) + 1) rfl (bi_add (by omega) (by omega) (by omega)) ?_
        have hIx57_ : gi (sm_pI (sm_aI Sx40_ 178 0 ((Sx11_.1 13 0 83) % 12).toNat t_) 13 0 83 ((Sx40_.1 13 0 83) + 1)) := gi_pI hIx45_ (show 0 ≤ (Sx40_.1 13 0 83) + 1 ∧ (Sx40_.1 13 0 83) + 1 ≤ 12 from ⟨by omega, by omega⟩)
        have hFx58_ : ai_fr (sx_W vw_366v) S0_ (sm_pI (sm_aI Sx40_ 178 0 ((Sx11_.1 13 0 83) % 12).toNat t_) 13 0 83 ((Sx40_.1 13 0 83) + 1)) := ai_fr_tr hFx46_ (ai_fr_pI rfl)
        refine sm_T_go 1 (c1 := (257, [some (.inr (.inr (some (13, 0)))), some (.inl t_), some (.inl ((Sx11_.1 13 0 83) % 12))], [], sm_pI (sm_aI Sx40_ 178 0 ((Sx11_.1 13 0 83) % 12).toNat t_) 13 0 83 ((Sx40_.1 13 0 83) + 1))) rfl ?_
        refine sm_T_rv rfl ⟨_, _, rfl, rfl, hIx57_, hFx58_, ?_⟩
        refine ⟨?_, fun c_ hc_ => ?_⟩
        · rw [ce_y, pb_as]; exact rg_fr (w_ := ([(13, 83)], [178], [])) g226_ (ai_fr_tr (ai_fr_aI rfl) (ai_fr_pI rfl)) rfl rfl rfl
        · rw [ce_y] at hc_; obtain ⟨a8_, h8_, hc_⟩ := pb_inr hc_; cases hc_; first | (exfalso; rw [h8_] at g226_; exact hz9_ g226_.1) | (rw [ha9_] at h8_; cases h8_; refine ⟨⟨by rw [rf_eq]; push_cast; show _ = (K_ : Int) + 1; omega, fun j_ hj_ => ?_⟩, ?_⟩; (rw [rd_fa, rd_eq]; unfold n_up; by_cases z_ : j_ = K_; (rw [if_pos (by omega), if_pos z_]; show rtk b_ n_ T_ t_ a9_.1.1.1.1.1; rw [← hqe_]; exact tk9_); (rw [if_neg (by omega), if_neg z_]; exact row9_.2 j_ (by omega))); (exact ⟨cdt_up cd9_.1 (by omega) (by omega) (by omega) ar207_ dl207_ ar219_ dl219_ ar226_ dl226_ rfl rfl, ncl_up cd9_.2 (by omega) kc9_ (by (show _ = i_and (h_tp a9_.1.1.1.2.2.1) (2 ^ (2 ^ a9_.1.1.1.1.2.1) - 1); rw [← lt9_, ← sh_2 kb9_, ← kc9_]; first | rfl | skip)) vv7_.1 vv8_.1 in207_ fu207_ ar207_ dl207_ in219_ fu219_ ar219_ dl219_ in226_ fu226_ ar226_ dl226_ rfl rfl rfl rfl⟩))
set_option maxHeartbeats 2000000 in
set_option maxRecDepth 20000 in
theorem vc_366v {sc_ : Nat × (Nat → Int)} (b_ : Nat → Int) (n_ : Nat) (T_ : Nat) (p_ : Nat) (K_ : Nat) (f_ : Nat → Nat) (L_ : pL) (S0_ : sm_S) (hI_ : gi S0_) (ht_ : rtab b_ n_ T_ S0_) (hx_ : rg b_ n_ T_ (.inr p_) S0_) (hmo_ : (S0_.1 13 0 27) = 2) (hrow : rwq b_ n_ T_ K_ f_ L_ S0_) : sm_T (mt_P sc_) 8 366 (0, [some (.inr (.inr (some (13, 0)))), none, none], [], S0_) (fun ro9_ => ∃ u_ S1_, ro9_ = (.inl u_, S1_, 0) ∧ vq_366v b_ n_ T_ p_ K_ f_ L_ S0_ u_ S1_) := by
  have hF_ : ai_fr (sx_W vw_366v) S0_ S0_ := ai_fr_rf
  have le0_ := rg_le ht_ hx_
  have hn1_ := ht_.1
  refine sm_T_go 2 (c1 := (3, [some (.inr (.inr (some (13, 0)))), none, none], [.inl 7, .inr (.inr (some (13, 0)))], S0_)) rfl ?_
  refine sm_T_cal (d1 := 0) (Q1 := vq_296 7 b_ n_ T_ (.inr p_) S0_) rfl rfl (by decide) (vc_296 7 b_ n_ T_ (.inr p_) S0_ hI_ (by exact ht_) (by exact hx_) (by decide)) (fun u_ Sx1_ px4_ => ?_)
  obtain ⟨rfl, vx6_, rfl, px4_⟩ := px4_
  have e3_ := px4_.2 p_ rfl
  have r3_ := px4_.1
  obtain ⟨i0_, hi01_, hi02_⟩ := id hx_.2
  have ra0_ := rp_at ht_ hi02_
  have rk0_ := r_st_3 (lx_kd_r hi02_.2.2.1)
  refine sm_T_b0 (a := 1) (z := 12) rfl (fun cx7_ => ?_) (fun cx7_ => ?_)
  · have cx7_ : vx6_ ≠ 0 := of_decide_eq_true cx7_
    have k9_ : lx_kd b_ n_ p_ = 9 := by have := e3_.mp (by omega); omega
    have nd9_ : p_nd b_ n_ 9 p_ = p_ad b_ n_ p_ := if_pos k9_
    obtain ⟨x7_, hx7_, hx7b⟩ : ∃ x7_ : pE Nat, rg b_ n_ T_ x7_ _ ∧ x7_ = .inr p_ := ⟨_, hx_, rfl⟩
    have t7_ := ht_
    have row7_ := hrow
    refine sm_T_go 1 (c1 := (19, [some (.inr (.inr (some (13, 0)))), none, none], [.inr (.inr (some (13, 0)))], S0_)) rfl ?_
    refine sm_T_cal (d1 := 2) (Q1 := vq_297 b_ n_ T_ x7_ S0_) rfl rfl (by decide) (vc_297 b_ n_ T_ x7_ S0_ hI_ (by exact t7_) (by exact hx7_) (by (intro z_ e_; rw [hx7b] at e_; first | (cases e_; done) | (cases e_; rw [k9_]; decide)))) (fun u_ Sx8_ px11_ => ?_)
    obtain ⟨rfl, hIx9_, hFx10_, px11_⟩ := px11_
    have hFx12_ : ai_fr (sx_W vw_366v) S0_ Sx8_ := ai_fr_tr hF_ (fr_le hFx10_ rfl)
    have z19_ := px11_.1
    rw [hx7b] at z19_
    have g19_ : rg b_ n_ T_ (p_nd b_ n_ 9 p_) Sx8_ := by rw [nd9_]; exact z19_
    have t19_ := rtab_fr t7_ hFx10_ rfl rfl rfl rfl rfl
    have row19_ : ∀ r_, p_nd b_ n_ 9 p_ = .inr r_ → rwq b_ n_ T_ K_ f_ L_ Sx8_ := fun _ _ => rwq_fr row7_ hFx10_ rfl rfl rfl rfl
    refine sm_T_go 2 (c1 := (24, [some (.inr (.inr (some (13, 0)))), none, none], [.inl 1, .inr (.inr (some (13, 0)))], Sx8_)) rfl ?_
    refine sm_T_cal (d1 := 1) (Q1 := vq_299 1 b_ n_ T_ (p_nd b_ n_ 9 p_) Sx8_) rfl rfl (by decide) (vc_299 1 b_ n_ T_ (p_nd b_ n_ 9 p_) Sx8_ hIx9_ (by exact t19_) (by exact g19_) (by decide)) (fun u_ Sx13_ px16_ => ?_)
    obtain ⟨vx18_, rfl, hIx14_, hFx15_, px16_⟩ := px16_
    have hFx17_ : ai_fr (sx_W vw_366v) S0_ Sx13_ := ai_fr_tr hFx12_ (fr_le hFx15_ rfl)
    have a23_ := px16_.1
    have g23_ : rg b_ n_ T_ (pb (p_nd b_ n_ 9 p_) (p_du b_ n_ 1)) Sx13_ := px16_.2
    have t23_ := rtab_fr t19_ hFx15_ rfl rfl rfl rfl rfl
    have at23_ := hFx15_.1 13 0 9 rfl
    have v23b : 0 ≤ vx18_ ∧ vx18_ ≤ 1280 := by rw [a23_, ← at23_]; exact hIx14_.1 13 0 9 rfl
    have rt23_ : ∀ r_, (pb (p_nd b_ n_ 9 p_) (p_du b_ n_ 1)) = .inr r_ → rtk b_ n_ T_ vx18_ r_ := by intro r_ hr_; rw [hr_] at g23_; obtain ⟨i3_, q1_, q2_⟩ := g23_.2; rw [show vx18_ = (i3_ : Int) by omega]; exact (rp_rtk t23_ q2_ (du_r hr_).2).1
    have row23_ : ∀ pq_, (p_nd b_ n_ 9 p_) = .inr pq_ → rwq b_ n_ T_ K_ f_ L_ Sx13_ := fun pq_ hp_ => rwq_fr (row19_ pq_ hp_) hFx15_ rfl rfl rfl rfl
    refine sm_T_go 3 (c1 := (30, [some (.inr (.inr (some (13, 0)))), some (.inl vx18_), some (.inl 0)], [], Sx13_)) rfl ?_
    refine (vl_366v b_ n_ T_ p_ K_ f_ L_ S0_ ht_ hx_ hmo_ hrow _).1 vx18_ 0 Sx13_ hIx14_ hFx17_ ⟨?_, ?_, ?_, ?_, ?_, trivial⟩ (Nat.lt_succ_self _)
    · omega
    · cases hq_ : (pb (p_nd b_ n_ 9 p_) (p_du b_ n_ 1)) with
      | inl e_ => left; rw [hq_] at g23_; exact ⟨e_, by unfold zn2; rw [hq_]; rfl, g23_⟩
      | inr q0_ => right; rw [hq_] at g23_; exact ⟨q0_, rfl, g23_, rfl, by omega⟩
    · omega
    · exact rt23_
    · exact row23_
  · have cx7_ : ¬ (vx6_ ≠ 0) := of_decide_eq_false cx7_
    have k9_ : lx_kd b_ n_ p_ ≠ 9 := fun z_ => by have := e3_.mpr (by omega); omega
    have nd9_ : p_nd b_ n_ 9 p_ = .inl (2, p_) := if_neg k9_
    have bx19_ : 0 ≤ S0_.1 13 0 9 ∧ S0_.1 13 0 9 ≤ 1280 := hI_.1 13 0 9 rfl
    refine sm_T_go 4 (c1 := (15, [some (.inr (.inr (some (13, 0)))), none, none], [.inl (S0_.1 13 0 9), .inl 2, .inr (.inr (some (13, 0)))], S0_)) rfl ?_
    refine sm_T_cal (d1 := 0) (Q1 := vq_293 2 (S0_.1 13 0 9) S0_) rfl rfl (by decide) (vc_293 2 (S0_.1 13 0 9) S0_ hI_ (by decide) (by omega)) (fun u_ Sx20_ px23_ => ?_)
    obtain ⟨rfl, hIx21_, hFx22_, px23_⟩ := px23_
    have hFx24_ : ai_fr (sx_W vw_366v) S0_ Sx20_ := ai_fr_tr hF_ (fr_le hFx22_ rfl)
    have ex25_ : Sx20_.1 13 0 9 = S0_.1 13 0 9 := hFx22_.1 13 0 9 rfl
    have g14_ : rg b_ n_ T_ (.inl (2, p_)) Sx20_ := by rcases px23_ with z_ | z_; (exact absurd hx_.1 z_.1); (refine ⟨z_.2.1.trans (if_neg ?_), z_.2.2.trans ?_, by show (2 : Int) ≠ 0; decide⟩; (rw [hi01_, Int.toNat_natCast, ra0_.1]; exact rk0_.2.2.2.2.2); (rw [hi01_, Int.toNat_natCast]; exact ra0_.2.1))
    obtain ⟨x7_, hx7_, hx7b⟩ : ∃ x7_ : pE Nat, rg b_ n_ T_ x7_ Sx20_ ∧ x7_ = .inl (2, p_) := ⟨_, g14_, rfl⟩
    have t7_ := rtab_fr ht_ hFx22_ rfl rfl rfl rfl rfl
    have row7_ := rwq_fr hrow hFx22_ rfl rfl rfl rfl
    refine sm_T_go 1 (c1 := (19, [some (.inr (.inr (some (13, 0)))), none, none], [.inr (.inr (some (13, 0)))], Sx20_)) rfl ?_
    refine sm_T_cal (d1 := 2) (Q1 := vq_297 b_ n_ T_ x7_ Sx20_) rfl rfl (by decide) (vc_297 b_ n_ T_ x7_ Sx20_ hIx21_ (by exact t7_) (by exact hx7_) (by (intro z_ e_; rw [hx7b] at e_; first | (cases e_; done) | (cases e_; rw [k9_]; decide)))) (fun u_ Sx26_ px29_ => ?_)
    obtain ⟨rfl, hIx27_, hFx28_, px29_⟩ := px29_
    have hFx30_ : ai_fr (sx_W vw_366v) S0_ Sx26_ := ai_fr_tr hFx24_ (fr_le hFx28_ rfl)
    have z19_ := px29_.1
    rw [hx7b] at z19_
    have g19_ : rg b_ n_ T_ (p_nd b_ n_ 9 p_) Sx26_ := by rw [nd9_]; exact z19_
    have t19_ := rtab_fr t7_ hFx28_ rfl rfl rfl rfl rfl
    have row19_ : ∀ r_, p_nd b_ n_ 9 p_ = .inr r_ → rwq b_ n_ T_ K_ f_ L_ Sx26_ := fun _ _ => rwq_fr row7_ hFx28_ rfl rfl rfl rfl
    refine sm_T_go 2 (c1 := (24, [some (.inr (.inr (some (13, 0)))), none, none], [.inl 1, .inr (.inr (some (13, 0)))], Sx26_)) rfl ?_
    refine sm_T_cal (d1 := 1) (Q1 := vq_299 1 b_ n_ T_ (p_nd b_ n_ 9 p_) Sx26_) rfl rfl (by decide) (vc_299 1 b_ n_ T_ (p_nd b_ n_ 9 p_) Sx26_ hIx27_ (by exact t19_) (by exact g19_) (by decide)) (fun u_ Sx31_ px34_ => ?_)
    obtain ⟨vx36_, rfl, hIx32_, hFx33_, px34_⟩ := px34_
    have hFx35_ : ai_fr (sx_W vw_366v) S0_ Sx31_ := ai_fr_tr hFx30_ (fr_le hFx33_ rfl)
    have a23_ := px34_.1
    have g23_ : rg b_ n_ T_ (pb (p_nd b_ n_ 9 p_) (p_du b_ n_ 1)) Sx31_ := px34_.2
    have t23_ := rtab_fr t19_ hFx33_ rfl rfl rfl rfl rfl
    have at23_ := hFx33_.1 13 0 9 rfl
    have v23b : 0 ≤ vx36_ ∧ vx36_ ≤ 1280 := by rw [a23_, ← at23_]; exact hIx32_.1 13 0 9 rfl
    have rt23_ : ∀ r_, (pb (p_nd b_ n_ 9 p_) (p_du b_ n_ 1)) = .inr r_ → rtk b_ n_ T_ vx36_ r_ := by intro r_ hr_; rw [hr_] at g23_; obtain ⟨i3_, q1_, q2_⟩ := g23_.2; rw [show vx36_ = (i3_ : Int) by omega]; exact (rp_rtk t23_ q2_ (du_r hr_).2).1
    have row23_ : ∀ pq_, (p_nd b_ n_ 9 p_) = .inr pq_ → rwq b_ n_ T_ K_ f_ L_ Sx31_ := fun pq_ hp_ => rwq_fr (row19_ pq_ hp_) hFx33_ rfl rfl rfl rfl
    refine sm_T_go 3 (c1 := (30, [some (.inr (.inr (some (13, 0)))), some (.inl vx36_), some (.inl 0)], [], Sx31_)) rfl ?_
    refine (vl_366v b_ n_ T_ p_ K_ f_ L_ S0_ ht_ hx_ hmo_ hrow _).1 vx36_ 0 Sx31_ hIx32_ hFx35_ ⟨?_, ?_, ?_, ?_, ?_, trivial⟩ (Nat.lt_succ_self _)
    · omega
    · cases hq_ : (pb (p_nd b_ n_ 9 p_) (p_du b_ n_ 1)) with
      | inl e_ => left; rw [hq_] at g23_; exact ⟨e_, by unfold zn2; rw [hq_]; rfl, g23_⟩
      | inr q0_ => right; rw [hq_] at g23_; exact ⟨q0_, rfl, g23_, rfl, by omega⟩
    · omega
    · exact rt23_
    · exact row23_
end
/-! 99.ztI -/
section
/-! what a library keeps: the reference; written by wip/p55/gen/vg -/

def lRq (b_ : Nat → Int) (n_ T_ : Nat) (S_ : sm_S) : Prop := ∃ K_ f_ L_ q_, rg b_ n_ T_ (.inr q_) S_ ∧ rwq b_ n_ T_ K_ f_ L_ S_ ∧ ((K_ = 0 ∨ lx_kd b_ n_ q_ ≠ 0) → p_li b_ n_ = p_lb b_ n_ (13 - K_) K_ f_ L_ q_) ∧ (K_ ≠ 0 → lx_kd b_ n_ q_ = 0 → p_li b_ n_ = .inr (K_, L_))
def lEq (b_ : Nat → Int) (n_ : Nat) (S_ : sm_S) : Prop := ∃ K_ L_, p_li b_ n_ = .inr (K_, L_) ∧ S_.1 13 0 10 = 0 ∧ S_.1 13 0 83 = (K_ : Int) ∧ c_dt K_ S_ ∧ ncl K_ L_ S_
theorem lq_st {b_ : Nat → Int} {n_ T_ K_ q_ : Nat} {f_ : Nat → Nat} {L_ : pL} {S_ : sm_S} (hK_ : K_ ≤ 12) (hX_ : p_li b_ n_ = p_lb b_ n_ (13 - K_) K_ f_ L_ q_) (g_ : rg b_ n_ T_ (pb (p_ce b_ n_ K_ f_ q_) fun c_ => .inr c_.2.2.2.2.2) S_) (hr_ : ∀ c_, p_ce b_ n_ K_ f_ q_ = .inr c_ → rwq b_ n_ T_ (K_ + 1) (n_up f_ K_ c_.1) (l_up L_ K_ c_) S_) : lX b_ n_ T_ S_ ∨ lRq b_ n_ T_ S_ := by
  rw [lb_u hK_] at hX_
  cases hc_ : p_ce b_ n_ K_ f_ q_ with
  | inl e_ => rw [hc_] at hX_ g_; left; exact ⟨e_, hX_, g_⟩
  | inr c_ =>
    rw [hc_] at hX_ g_
    right
    refine ⟨K_ + 1, n_up f_ K_ c_.1, l_up L_ K_ c_, c_.2.2.2.2.2, g_, hr_ c_ hc_, fun z_ => ?_, fun _ z_ => ?_⟩
    · rw [hX_, show 13 - (K_ + 1) = 12 - K_ by omega]
      show (if lx_kd b_ n_ c_.2.2.2.2.2 = 0 then _ else _) = _
      rw [if_neg (by rcases z_ with z_ | z_; omega; exact z_)]
    · rw [hX_]
      show (if lx_kd b_ n_ c_.2.2.2.2.2 = 0 then _ else _) = _
      rw [if_pos z_]
theorem lq_k {b_ : Nat → Int} {n_ T_ : Nat} {S_ : sm_S} (h_ : lRq b_ n_ T_ S_) (h5_ : S_.2.2.1 119 0 (S_.1 13 0 9).toNat = 5) (ht_ : rtab b_ n_ T_ S_) (hk_ : S_.1 13 0 83 ≠ 0) : lEq b_ n_ S_ := by
  obtain ⟨K_, f_, L_, q_, g_, hr_, -, h2_⟩ := h_
  obtain ⟨i_, z1_, z2_⟩ := g_.2
  have ra_ := (rp_at ht_ z2_).1
  rw [show (S_.1 13 0 9).toNat = i_ by omega, ra_] at h5_
  have k0_ : lx_kd b_ n_ q_ = 0 := by
    unfold r_st r_so at h5_
    by_cases y_ : lx_kd b_ n_ q_ = 0
    · exact y_
    · exfalso
      rw [if_neg y_] at h5_
      split at h5_
      · omega
      · split at h5_
        · omega
        · split at h5_
          · omega
          · split at h5_ <;> omega
  have c1_ := hr_.1.1
  exact ⟨K_, L_, h2_ (by omega) k0_, g_.1, c1_, hr_.2.1, hr_.2.2⟩
theorem lq_n {b_ : Nat → Int} {n_ T_ : Nat} {S_ : sm_S} (h_ : lRq b_ n_ T_ S_) (ht_ : rtab b_ n_ T_ S_) (h5_ : S_.1 13 0 83 = 0 ∨ S_.2.2.1 119 0 (S_.1 13 0 9).toNat ≠ 5) : ∃ K_ f_ L_ q_, rg b_ n_ T_ (.inr q_) S_ ∧ rwq b_ n_ T_ K_ f_ L_ S_ ∧ p_li b_ n_ = p_lb b_ n_ (13 - K_) K_ f_ L_ q_ := by
  obtain ⟨K_, f_, L_, q_, g_, hr_, h1_, -⟩ := h_
  refine ⟨K_, f_, L_, q_, g_, hr_, h1_ ?_⟩
  have c1_ := hr_.1.1
  rcases h5_ with z_ | z_
  · left; omega
  · right
    intro y_
    apply z_
    obtain ⟨i_, z1_, z2_⟩ := g_.2
    have ra_ := (rp_at ht_ z2_).1
    rw [show (S_.1 13 0 9).toNat = i_ by omega, ra_, y_]
    rfl
theorem lq_0 {b_ : Nat → Int} {n_ T_ : Nat} {S_ : sm_S} (hz_ : S_.1 13 0 10 = 0) (ha_ : S_.1 13 0 9 = 0) (hn_ : S_.1 13 0 83 = 0) (hp_ : rp b_ n_ T_ 0 (lx_k b_ n_ 0)) : lRq b_ n_ T_ S_ := by
  refine ⟨0, f_0, fun _ => (0, 0, 0, 0), lx_k b_ n_ 0, ⟨hz_, 0, ha_, hp_⟩, ⟨⟨hn_, fun j_ hj_ => absurd hj_ (Nat.not_lt_zero _)⟩, fun k_ hk_ => absurd hk_ (Nat.not_lt_zero _), fun k_ hk_ => absurd hk_ (Nat.not_lt_zero _)⟩, fun _ => ?_, fun z_ => absurd rfl z_⟩
  unfold p_li
  rw [if_neg hp_.2.2.1]
/-- the_ rows of_ libraries stay -/
def rsm (S_ S'_ : sm_S) : Prop := ∀ t_, t_ < 189 → 184 ≤ t_ → S'_.2.2.1 t_ 0 = S_.2.2.1 t_ 0
theorem rsm_fr {w_ : sx_Wl} {S_ S'_ : sm_S} (g_ : ai_fr (sx_W w_) S_ S'_) (h_ : ∀ t_, t_ < 189 → 184 ≤ t_ → (sx_W w_).2.1 t_ = false) : rsm S_ S'_ := fun t_ h1_ h2_ => fr_arr g_ (h_ t_ h1_ h2_)
theorem rsm_tr {S_ S'_ S2_ : sm_S} (h_ : rsm S_ S'_) (g_ : rsm S'_ S2_) : rsm S_ S2_ := fun t_ h1_ h2_ => (g_ t_ h1_ h2_).trans (h_ t_ h1_ h2_)
/-- the_ other libraries of_ the_ reference stay -/
def rlf (l0_ : Nat) (S_ S'_ : sm_S) : Prop := ∀ l_, l_ ≠ l0_ → S'_.2.2.1 184 0 l_ = S_.2.2.1 184 0 l_ ∧ ∀ j_, j_ < 12 → S'_.2.2.1 185 0 (12 * l_ + j_) = S_.2.2.1 185 0 (12 * l_ + j_) ∧ S'_.2.2.1 186 0 (12 * l_ + j_) = S_.2.2.1 186 0 (12 * l_ + j_) ∧ S'_.2.2.1 187 0 (12 * l_ + j_) = S_.2.2.1 187 0 (12 * l_ + j_) ∧ S'_.2.2.1 188 0 (12 * l_ + j_) = S_.2.2.1 188 0 (12 * l_ + j_)
theorem rlf_sm {l0_ : Nat} {S_ S'_ : sm_S} (h_ : rsm S_ S'_) : rlf l0_ S_ S'_ := fun l_ _ => ⟨congrFun (h_ 184 (by decide) (by decide)) l_, fun j_ _ => ⟨congrFun (h_ 185 (by decide) (by decide)) _, congrFun (h_ 186 (by decide) (by decide)) _, congrFun (h_ 187 (by decide) (by decide)) _, congrFun (h_ 188 (by decide) (by decide)) _⟩⟩
/-- library l_ of_ the_ reference holds the_ cells of_ L_ -/
def lcr (l_ K_ : Nat) (L_ : pL) (S_ : sm_S) : Prop := S_.2.2.1 184 0 l_ = (K_ : Int) ∧ ∀ j_, j_ < K_ → S_.2.2.1 185 0 (12 * l_ + j_) = (L_ j_).1 ∧ S_.2.2.1 186 0 (12 * l_ + j_) = (L_ j_).2.1 ∧ S_.2.2.1 187 0 (12 * l_ + j_) = (L_ j_).2.2.1 ∧ S_.2.2.1 188 0 (12 * l_ + j_) = (L_ j_).2.2.2
def lkp (l_ k_ : Nat) (S_ : sm_S) : Prop := S_.2.2.1 184 0 l_ = S_.1 13 0 83 ∧ ∀ j_, j_ < k_ → S_.2.2.1 185 0 (12 * l_ + j_) = S_.2.2.1 179 0 j_ ∧ S_.2.2.1 186 0 (12 * l_ + j_) = S_.2.2.1 180 0 j_ ∧ S_.2.2.1 187 0 (12 * l_ + j_) = S_.2.2.1 181 0 j_ ∧ S_.2.2.1 188 0 (12 * l_ + j_) = S_.2.2.1 182 0 j_
def lY (b_ : Nat → Int) (n_ : Nat) (S_ : sm_S) : Prop := ∃ K_ L_, p_li b_ n_ = .inr (K_, L_) ∧ S_.1 13 0 83 = (K_ : Int) ∧ ncl K_ L_ S_
theorem lY_e {b_ : Nat → Int} {n_ l_ k_ : Nat} {S_ : sm_S} (h_ : lY b_ n_ S_) (g_ : lkp l_ k_ S_) (e_ : S_.1 13 0 83 ≤ (k_ : Int)) : ∃ r_, p_li b_ n_ = .inr r_ ∧ lcr l_ r_.1 r_.2 S_ := by
  obtain ⟨K_, L_, h1_, h2_, h3_⟩ := h_
  refine ⟨(K_, L_), h1_, g_.1.trans h2_, fun j_ hj_ => ?_⟩
  have hj_ : j_ < K_ := hj_
  have a_ := g_.2 j_ (by omega)
  have c_ := h3_ j_ hj_
  exact ⟨a_.1.trans c_.1, a_.2.1.trans c_.2.1, a_.2.2.1.trans c_.2.2.1, a_.2.2.2.trans c_.2.2.2⟩

/-! M_.library -/
def vw_367v : sx_Wl := ([(13, 0), (13, 2), (13, 3), (13, 9), (13, 10), (13, 11), (13, 27), (13, 32), (13, 33), (13, 34), (13, 79), (13, 80), (13, 83)], [119, 120, 121, 122, 123, 136, 137, 138, 139, 177, 178, 179, 180, 181, 182, 183, 184, 185, 186, 187, 188], [])
def vq_367v (b_ : Nat → Int) (n_ : Nat) (S0_ : sm_S) (u_ : Option sm_V) (S1_ : sm_S) : Prop := ∃ v_ : Int, u_ = some (.inl v_) ∧ gi S1_ ∧ ai_fr (sx_W vw_367v) S0_ S1_ ∧ (((S1_.1 13 0 0) = 1 ∧ (∀ j_ : Nat, j_ < 3 → (S0_.2.2.1 183 0 (j_)) = 1) ∧ (S1_.1 13 0 2) = (S0_.1 13 0 2) ∧ (∀ j_ : Nat, (S1_.2.2.1 183 0 (j_)) = (S0_.2.2.1 183 0 (j_))) ∧ rsm S0_ S1_ ∧ (S1_.1 13 0 79) = (S0_.1 13 0 79)) ∨ ((S1_.1 13 0 0) = 0 ∧ ∃ sl_ : Nat, sl_ < 3 ∧ (S0_.2.2.1 183 0 (sl_)) = 0 ∧ (∀ j_ : Nat, j_ < sl_ → (S0_.2.2.1 183 0 (j_)) = 1) ∧ (S1_.1 13 0 2) = 0 ∧ rlf sl_ S0_ S1_ ∧ ((∃ e_, p_li b_ n_ = .inl e_ ∧ v_ = -1 - (e_.2 : Int) ∧ (S1_.1 13 0 79) = e_.1 ∧ ∀ j_ : Nat, (S1_.2.2.1 183 0 (j_)) = (S0_.2.2.1 183 0 (j_))) ∨ ((∃ r_, p_li b_ n_ = .inr r_ ∧ lcr sl_ r_.1 r_.2 S1_) ∧ v_ = (sl_ : Int) ∧ (S1_.1 13 0 79) = 0 ∧ ∀ j_ : Nat, (S1_.2.2.1 183 0 (j_)) = if j_ = sl_ then 1 else (S0_.2.2.1 183 0 (j_))))))
set_option maxHeartbeats 2000000 in
set_option maxRecDepth 20000 in
theorem vl_367v {sc_ : Nat × (Nat → Int)} (b_ : Nat → Int) (n_ : Nat) (S0_ : sm_S) (hb_ : S0_.2.2.1 118 0 = b_) (hn_ : (S0_.1 13 0 2) = (n_ : Int)) (hn1_ : n_ ≤ 1280) : ∀ nn_ : Nat, (∀ (sv_ : Int) (S_ : sm_S), gi S_ → ai_fr (sx_W vw_367v) S0_ S_ → ((∃ T_, rtab b_ n_ T_ S_ ∧ (lX b_ n_ T_ S_ ∨ lRq b_ n_ T_ S_)) ∧ (0 ≤ sv_ ∧ sv_ < 3 ∧ S0_.2.2.1 183 0 sv_.toNat = 0 ∧ ∀ j_ : Nat, j_ < sv_.toNat → S0_.2.2.1 183 0 j_ = 1) ∧ (rsm S0_ S_) ∧ ((S_.1 13 0 27) = 2) ∧ ((S_.1 13 0 0) = 0) ∧ (S_.2.2.1 183 0 = S0_.2.2.1 183 0) ∧ True) → (r_mc S_ + 100) < nn_ → sm_T (mt_P sc_) 9 367 (65, [some (.inr (.inr (some (13, 0)))), some (.inl sv_), none], [], S_) (fun ro9_ => ∃ u_ S1_, ro9_ = (.inl u_, S1_, 0) ∧ vq_367v b_ n_ S0_ u_ S1_)) ∧ (∀ (sv_ : Int) (S_ : sm_S), gi S_ → ai_fr (sx_W vw_367v) S0_ S_ → ((lW b_ n_ S_ ∨ lEq b_ n_ S_) ∧ (0 ≤ sv_ ∧ sv_ < 3 ∧ S0_.2.2.1 183 0 sv_.toNat = 0 ∧ ∀ j_ : Nat, j_ < sv_.toNat → S0_.2.2.1 183 0 j_ = 1) ∧ (rsm S0_ S_) ∧ ((S_.1 13 0 0) = 0) ∧ (S_.2.2.1 183 0 = S0_.2.2.1 183 0) ∧ True) → ((90 : Nat)) < nn_ → sm_T (mt_P sc_) 9 367 (99, [some (.inr (.inr (some (13, 0)))), some (.inl sv_), none], [], S_) (fun ro9_ => ∃ u_ S1_, ro9_ = (.inl u_, S1_, 0) ∧ vq_367v b_ n_ S0_ u_ S1_)) ∧ (∀ (sv_ : Int) (k_ : Int) (S_ : sm_S), gi S_ → ai_fr (sx_W vw_367v) S0_ S_ → ((0 ≤ k_ ∧ k_ ≤ 12) ∧ (0 ≤ sv_ ∧ sv_ < 3 ∧ S0_.2.2.1 183 0 sv_.toNat = 0 ∧ ∀ j_ : Nat, j_ < sv_.toNat → S0_.2.2.1 183 0 j_ = 1) ∧ ((S_.1 13 0 0) = 0) ∧ ((S_.1 13 0 2) = 0) ∧ ((S_.1 13 0 79) = 0) ∧ (lY b_ n_ S_) ∧ (rlf sv_.toNat S0_ S_) ∧ (lkp sv_.toNat k_.toNat S_) ∧ (∀ j_ : Nat, S_.2.2.1 183 0 j_ = if j_ = sv_.toNat then 1 else S0_.2.2.1 183 0 j_) ∧ (c_dt ((S_.1 13 0 83)).toNat S_) ∧ True) → ((20 - k_).toNat) < nn_ → sm_T (mt_P sc_) 9 367 (145, [some (.inr (.inr (some (13, 0)))), some (.inl sv_), some (.inl k_)], [], S_) (fun ro9_ => ∃ u_ S1_, ro9_ = (.inl u_, S1_, 0) ∧ vq_367v b_ n_ S0_ u_ S1_)) := by
  intro nn_
  induction nn_ with
  | zero => exact ⟨fun _ _ _ _ _ h_ => absurd h_ (Nat.not_lt_zero _), fun _ _ _ _ _ h_ => absurd h_ (Nat.not_lt_zero _), fun _ _ _ _ _ _ h_ => absurd h_ (Nat.not_lt_zero _)⟩
  | succ nn_ ih_ =>
    refine ⟨?_, ?_, ?_⟩
    · rintro sv_ S_ hI_ hF_ ⟨h1_, sb_, ot65_, mo65_, cd65_, th65_, -⟩ hm_
      obtain ⟨T_, t65_, h1_⟩ := h1_
      refine sm_T_go 1 (c1 := (66, [some (.inr (.inr (some (13, 0)))), some (.inl sv_), none], [.inr (.inr (some (13, 0)))], S_)) rfl ?_
      refine sm_T_cal (d1 := 0) (Q1 := vq_292  S_) rfl rfl (by decide) (vc_292  S_ hI_ ) (fun u_ Sx1_ px4_ => ?_)
      obtain ⟨rfl, vx6_, rfl, px4_⟩ := px4_
      have e66_ := px4_
      refine sm_T_b0 (a := 0) (z := 30) rfl (fun cx7_ => ?_) (fun cx7_ => ?_)
      · have cx7_ : vx6_ = 0 := of_decide_eq_true cx7_
        have hz_ := wr_if e66_ (by omega)
        refine sm_T_go 0 (c1 := (99, [some (.inr (.inr (some (13, 0)))), some (.inl sv_), none], [], S_)) rfl ?_
        refine ih_.2.1 sv_ S_ hI_ hF_ ⟨?_, ?_, ?_, ?_, ?_, trivial⟩ ?_
        · first | (right; exact hE_) | (left; rcases h1_ with ⟨e_, z1_, z2_⟩ | ⟨K_, f_, L_, q_, z1_, z2_⟩; (exact ⟨e_, z1_, z2_.1, z2_.2.1, z2_.2.2⟩); (exact absurd z1_.1 hz_))
        · exact sb_
        · exact ot65_
        · exact cd65_
        · exact th65_
        · omega
      · have cx7_ : ¬ (vx6_ = 0) := of_decide_eq_false cx7_
        have hz_ := rt_if e66_ (by omega)
        have hR_ : lRq b_ n_ T_ S_ := by rcases h1_ with ⟨e_, z1_, z2_⟩ | z_; (exact absurd (z2_.1.symm.trans hz_) z2_.2.2); exact z_
        have bx8_ : 0 ≤ S_.1 13 0 83 ∧ S_.1 13 0 83 ≤ 12 := hI_.1 13 0 83 rfl
        refine sm_T_go 2 (c1 := (76, [some (.inr (.inr (some (13, 0)))), some (.inl sv_), none], [.inl (S_.1 13 0 83)], S_)) rfl ?_
        refine sm_T_b0 (a := 0) (z := 16) rfl (fun cx9_ => ?_) (fun cx9_ => ?_)
        · have cx9_ : (S_.1 13 0 83) = 0 := of_decide_eq_true cx9_
          obtain ⟨K1_, f1_, L1_, q1_, g1_, rw1_, hX1_⟩ := lq_n hR_ t65_ (Or.inl (by omega))
          have rw1a := rw1_.1.1
          refine sm_T_go 1 (c1 := (93, [some (.inr (.inr (some (13, 0)))), some (.inl sv_), none], [.inr (.inr (some (13, 0)))], S_)) rfl ?_
          refine sm_T_cal (d1 := 8) (Q1 := vq_366v b_ n_ T_ q1_ K1_ f1_ L1_ S_) rfl rfl (by decide) (vc_366v b_ n_ T_ q1_ K1_ f1_ L1_ S_ hI_ (by exact t65_) (by exact g1_) (by exact mo65_) (by exact rw1_)) (fun u_ Sx10_ px13_ => ?_)
          obtain ⟨rfl, hIx11_, hFx12_, px13_⟩ := px13_
          have hFx14_ : ai_fr (sx_W vw_367v) S0_ Sx10_ := ai_fr_tr hF_ (fr_le hFx12_ rfl)
          have e93_ := px13_
          have t93_ := rtab_fr t65_ hFx12_ rfl rfl rfl rfl rfl
          have mo93_ := (hFx12_.1 13 0 27 rfl).trans mo65_
          have cd93_ := (hFx12_.1 13 0 0 rfl).trans cd65_
          have ot93_ := rsm_tr ot65_ (rsm_fr hFx12_ (by decide))
          have th93_ := (fr_arr (t := 183) (i := 0) hFx12_ rfl).trans th65_
          have nb93_ : 0 ≤ S_.1 13 0 83 ∧ S_.1 13 0 83 ≤ 12 := hI_.1 13 0 83 rfl
          have st93_ := lq_st (by omega) hX1_ e93_.1 e93_.2
          have nc93_ : Sx10_.1 13 0 10 = 0 → Sx10_.1 13 0 83 = (K1_ : Int) + 1 := fun z_ => by cases hc_ : p_ce b_ n_ K1_ f1_ q1_ with | inl e_ => (have y_ := e93_.1; rw [hc_] at y_; exact absurd (y_.1.symm.trans z_) y_.2.2) | inr c_ => (have y_ := (e93_.2 c_ hc_).1.1; rw [y_]; push_cast; rfl)
          refine sm_T_go 1 (c1 := (65, [some (.inr (.inr (some (13, 0)))), some (.inl sv_), none], [], Sx10_)) rfl ?_
          refine ih_.1 sv_ Sx10_ hIx11_ hFx14_ ⟨?_, ?_, ?_, ?_, ?_, ?_, trivial⟩ ?_
          · exact ⟨T_, t93_, st93_⟩
          · exact sb_
          · exact ot93_
          · exact mo93_
          · exact cd93_
          · exact th93_
          · (have z_ : r_mc S_ = (20 - S_.1 13 0 83).toNat := if_neg (by rw [hz_]; exact fun y_ => y_ rfl)); unfold r_mc; split; omega; (rename_i gg_; have w_ := nc93_ (Decidable.byContradiction gg_); omega)
        · have cx9_ : ¬ ((S_.1 13 0 83) = 0) := of_decide_eq_false cx9_
          have bx15_ : 0 ≤ S_.1 13 0 9 ∧ S_.1 13 0 9 ≤ 1280 := hI_.1 13 0 9 rfl
          refine sm_T_go 4 (c1 := (87, [some (.inr (.inr (some (13, 0)))), some (.inl sv_), none], [.inl (S_.1 13 0 9), .inr (.inr (some (119, 0)))], S_)) rfl ?_
          refine sm_T_bald (n := 65537) rfl rfl (by omega) (by omega) ?_
          have bx16_ : (-128) ≤ S_.2.2.1 119 0 (S_.1 13 0 9).toNat ∧ S_.2.2.1 119 0 (S_.1 13 0 9).toNat ≤ 127 := hI_.2 119 0 _
          refine sm_T_go 1 (c1 := (89, [some (.inr (.inr (some (13, 0)))), some (.inl sv_), none], [.inl 5, .inl (S_.2.2.1 119 0 (S_.1 13 0 9).toNat)], S_)) rfl ?_
          refine sm_T_br (a := 0) (z := 10) rfl (fun cx17_ => ?_) (fun cx17_ => ?_)
          · have cx17_ : (S_.2.2.1 119 0 (S_.1 13 0 9).toNat) = 5 := of_decide_eq_true cx17_
            have hE_ := lq_k hR_ (by omega) t65_ (by omega)
            refine sm_T_go 0 (c1 := (99, [some (.inr (.inr (some (13, 0)))), some (.inl sv_), none], [], S_)) rfl ?_
            refine ih_.2.1 sv_ S_ hI_ hF_ ⟨?_, ?_, ?_, ?_, ?_, trivial⟩ ?_
            · first | (right; exact hE_) | (left; rcases h1_ with ⟨e_, z1_, z2_⟩ | ⟨K_, f_, L_, q_, z1_, z2_⟩; (exact ⟨e_, z1_, z2_.1, z2_.2.1, z2_.2.2⟩); (exact absurd z1_.1 hz_))
            · exact sb_
            · exact ot65_
            · exact cd65_
            · exact th65_
            · omega
          · have cx17_ : ¬ ((S_.2.2.1 119 0 (S_.1 13 0 9).toNat) = 5) := of_decide_eq_false cx17_
            obtain ⟨K1_, f1_, L1_, q1_, g1_, rw1_, hX1_⟩ := lq_n hR_ t65_ (Or.inr (by omega))
            have rw1a := rw1_.1.1
            refine sm_T_go 1 (c1 := (93, [some (.inr (.inr (some (13, 0)))), some (.inl sv_), none], [.inr (.inr (some (13, 0)))], S_)) rfl ?_
            refine sm_T_cal (d1 := 8) (Q1 := vq_366v b_ n_ T_ q1_ K1_ f1_ L1_ S_) rfl rfl (by decide) (vc_366v b_ n_ T_ q1_ K1_ f1_ L1_ S_ hI_ (by exact t65_) (by exact g1_) (by exact mo65_) (by exact rw1_)) (fun u_ Sx18_ px21_ => ?_)
            obtain ⟨rfl, hIx19_, hFx20_, px21_⟩ := px21_
            have hFx22_ : ai_fr (sx_W vw_367v) S0_ Sx18_ := ai_fr_tr hF_ (fr_le hFx20_ rfl)
            have e93_ := px21_
            have t93_ := rtab_fr t65_ hFx20_ rfl rfl rfl rfl rfl
            have mo93_ := (hFx20_.1 13 0 27 rfl).trans mo65_
            have cd93_ := (hFx20_.1 13 0 0 rfl).trans cd65_
            have ot93_ := rsm_tr ot65_ (rsm_fr hFx20_ (by decide))
            have th93_ := (fr_arr (t := 183) (i := 0) hFx20_ rfl).trans th65_
            have nb93_ : 0 ≤ S_.1 13 0 83 ∧ S_.1 13 0 83 ≤ 12 := hI_.1 13 0 83 rfl
            have st93_ := lq_st (by omega) hX1_ e93_.1 e93_.2
            have nc93_ : Sx18_.1 13 0 10 = 0 → Sx18_.1 13 0 83 = (K1_ : Int) + 1 := fun z_ => by cases hc_ : p_ce b_ n_ K1_ f1_ q1_ with | inl e_ => (have y_ := e93_.1; rw [hc_] at y_; exact absurd (y_.1.symm.trans z_) y_.2.2) | inr c_ => (have y_ := (e93_.2 c_ hc_).1.1; rw [y_]; push_cast; rfl)
            refine sm_T_go 1 (c1 := (65, [some (.inr (.inr (some (13, 0)))), some (.inl sv_), none], [], Sx18_)) rfl ?_
            refine ih_.1 sv_ Sx18_ hIx19_ hFx22_ ⟨?_, ?_, ?_, ?_, ?_, ?_, trivial⟩ ?_
            · exact ⟨T_, t93_, st93_⟩
            · exact sb_
            · exact ot93_
            · exact mo93_
            · exact cd93_
            · exact th93_
            · (have z_ : r_mc S_ = (20 - S_.1 13 0 83).toNat := if_neg (by rw [hz_]; exact fun y_ => y_ rfl)); unfold r_mc; split; omega; (rename_i gg_; have w_ := nc93_ (Decidable.byContradiction gg_); omega)
    · rintro sv_ S_ hI_ hF_ ⟨h1_, sb_, ot99_, cd99_, th99_, -⟩ hm_
      have hIx1_ : gi (sm_pI S_ 13 0 2 0) := gi_pI hI_ (show 0 ≤ 0 ∧ 0 ≤ 1280 from ⟨by omega, by omega⟩)
      have hFx2_ : ai_fr (sx_W vw_367v) S0_ (sm_pI S_ 13 0 2 0) := ai_fr_tr hF_ (ai_fr_pI rfl)
      have bx3_ : 0 ≤ S_.1 13 0 10 ∧ S_.1 13 0 10 ≤ 23 := hI_.1 13 0 10 rfl
      have hIx4_ : gi (sm_pI (sm_pI S_ 13 0 2 0) 13 0 79 (S_.1 13 0 10)) := gi_pI hIx1_ (show 0 ≤ (S_.1 13 0 10) ∧ (S_.1 13 0 10) ≤ 23 from ⟨by omega, by omega⟩)
      have hFx5_ : ai_fr (sx_W vw_367v) S0_ (sm_pI (sm_pI S_ 13 0 2 0) 13 0 79 (S_.1 13 0 10)) := ai_fr_tr hFx2_ (ai_fr_pI rfl)
      refine sm_T_go 8 (c1 := (113, [some (.inr (.inr (some (13, 0)))), some (.inl sv_), none], [.inr (.inr (some (13, 0)))], sm_pI (sm_pI S_ 13 0 2 0) 13 0 79 (S_.1 13 0 10))) rfl ?_
      refine sm_T_cal (d1 := 0) (Q1 := vq_292  (sm_pI (sm_pI S_ 13 0 2 0) 13 0 79 (S_.1 13 0 10))) rfl rfl (by decide) (vc_292  (sm_pI (sm_pI S_ 13 0 2 0) 13 0 79 (S_.1 13 0 10)) hIx4_ ) (fun u_ Sx6_ px9_ => ?_)
      obtain ⟨rfl, vx11_, rfl, px9_⟩ := px9_
      have e113_ := px9_
      refine sm_T_b0 (a := 1) (z := 10) rfl (fun cx12_ => ?_) (fun cx12_ => ?_)
      · have cx12_ : vx11_ ≠ 0 := of_decide_eq_true cx12_
        have hz_ := rt_if e113_ (by omega)
        obtain ⟨K1_, L1_, hX1_, hz1_, nc1_, cdt1_, ncl1_⟩ : lEq b_ n_ S_ := by rcases h1_ with ⟨e_, z1_, z2_, z3_, z4_⟩ | z_; (exact absurd (z2_.symm.trans hz_) z4_); exact z_
        have nb1_ : 0 ≤ S_.1 13 0 83 ∧ S_.1 13 0 83 ≤ 12 := hI_.1 13 0 83 rfl
        refine sm_T_go 4 (c1 := (132, [some (.inr (.inr (some (13, 0)))), some (.inl sv_), none], [.inl 1, .inl sv_, .inr (.inr (some (183, 0)))], sm_pI (sm_pI S_ 13 0 2 0) 13 0 79 (S_.1 13 0 10))) rfl ?_
        refine sm_T_zas1 (n := 3) rfl rfl (by omega) (by omega) (by omega) ?_
        have hIx13_ : gi (sm_aI (sm_pI (sm_pI S_ 13 0 2 0) 13 0 79 (S_.1 13 0 10)) 183 0 sv_.toNat 1) := gi_aI hIx4_ (show 0 ≤ 1 ∧ 1 ≤ 1 from ⟨by omega, by omega⟩)
        have hFx14_ : ai_fr (sx_W vw_367v) S0_ (sm_aI (sm_pI (sm_pI S_ 13 0 2 0) 13 0 79 (S_.1 13 0 10)) 183 0 sv_.toNat 1) := ai_fr_tr hFx5_ (ai_fr_aI rfl)
        have bx15_ : 0 ≤ S_.1 13 0 83 ∧ S_.1 13 0 83 ≤ 12 := hI_.1 13 0 83 rfl
        refine sm_T_go 5 (c1 := (142, [some (.inr (.inr (some (13, 0)))), some (.inl sv_), none], [.inl (S_.1 13 0 83), .inl sv_, .inr (.inr (some (184, 0)))], sm_aI (sm_pI (sm_pI S_ 13 0 2 0) 13 0 79 (S_.1 13 0 10)) 183 0 sv_.toNat 1)) rfl ?_
        refine sm_T_iast (n := 3) rfl rfl (by omega) (by omega) ?_
        have hIx16_ : gi (sm_aI (sm_aI (sm_pI (sm_pI S_ 13 0 2 0) 13 0 79 (S_.1 13 0 10)) 183 0 sv_.toNat 1) 184 0 sv_.toNat (S_.1 13 0 83)) := gi_aI hIx13_ (show 0 ≤ (S_.1 13 0 83) ∧ (S_.1 13 0 83) ≤ 12 from ⟨by omega, by omega⟩)
        have hFx17_ : ai_fr (sx_W vw_367v) S0_ (sm_aI (sm_aI (sm_pI (sm_pI S_ 13 0 2 0) 13 0 79 (S_.1 13 0 10)) 183 0 sv_.toNat 1) 184 0 sv_.toNat (S_.1 13 0 83)) := ai_fr_tr hFx14_ (ai_fr_aI rfl)
        refine sm_T_go 2 (c1 := (145, [some (.inr (.inr (some (13, 0)))), some (.inl sv_), some (.inl 0)], [], sm_aI (sm_aI (sm_pI (sm_pI S_ 13 0 2 0) 13 0 79 (S_.1 13 0 10)) 183 0 sv_.toNat 1) 184 0 sv_.toNat (S_.1 13 0 83))) rfl ?_
        refine ih_.2.2 sv_ 0 (sm_aI (sm_aI (sm_pI (sm_pI S_ 13 0 2 0) 13 0 79 (S_.1 13 0 10)) 183 0 sv_.toNat 1) 184 0 sv_.toNat (S_.1 13 0 83)) hIx16_ hFx17_ ⟨?_, ?_, ?_, ?_, ?_, ?_, ?_, ?_, ?_, ?_, trivial⟩ ?_
        · omega
        · exact sb_
        · exact cd99_
        · rfl
        · exact hz1_
        · exact ⟨K1_, L1_, hX1_, nc1_, ncl_fr (w_ := ([(13, 2), (13, 79)], [183, 184], [])) ncl1_ (ai_fr_tr (ai_fr_tr (ai_fr_tr (ai_fr_pI rfl) (ai_fr_pI rfl)) (ai_fr_aI rfl)) (ai_fr_aI rfl))⟩
        · intro l9_ hl9_
          have o9_ := rlf_sm (l0_ := sv_.toNat) ot99_ l9_ hl9_
          refine ⟨?_, fun j9_ hj9_ => ?_⟩
          · rw [rd_eq, if_neg hl9_, rd_ne (by decide)]; exact o9_.1
          · rw [rd_ne (by decide), rd_ne (by decide), rd_ne (by decide), rd_ne (by decide), rd_ne (by decide), rd_ne (by decide), rd_ne (by decide), rd_ne (by decide)]; exact o9_.2 j9_ hj9_
        · refine ⟨?_, fun j9_ hj9_ => absurd hj9_ (Nat.not_lt_zero _)⟩
          rw [rd_eq, if_pos rfl]
          rfl
        · intro j_
          rw [rd_ne (by decide), rd_eq]
          show (if j_ = sv_.toNat then 1 else S_.2.2.1 183 0 j_) = _
          rw [th99_]
        · show c_dt (S_.1 13 0 83).toNat _
          rw [show (S_.1 13 0 83).toNat = K1_ by omega]
          exact cdt1_
        · omega
      · have cx12_ : ¬ (vx11_ ≠ 0) := of_decide_eq_false cx12_
        have hz_ := wr_if e113_ (by omega)
        have bx18_ : 0 ≤ S_.1 13 0 11 ∧ S_.1 13 0 11 ≤ 4095 := hI_.1 13 0 11 rfl
        refine sm_T_go 3 (c1 := (124, [some (.inr (.inr (some (13, 0)))), some (.inl sv_), none], [.inl (S_.1 13 0 11), .inl (-1)], sm_pI (sm_pI S_ 13 0 2 0) 13 0 79 (S_.1 13 0 10))) rfl ?_
        refine sm_T_bin (w := -(S_.1 13 0 11) - 1) rfl (bi_sub (by omega) (by omega) (by omega)) ?_
        refine sm_T_ri rfl ⟨_, _, rfl, _, rfl, hIx4_, hFx5_, ?_⟩
        right
        obtain ⟨e_, z1_, z2_, z3_, z4_⟩ : lW b_ n_ S_ := by rcases h1_ with z_ | ⟨K_, L_, z1_, z2_, z3_⟩; exact z_; (exact absurd z2_ hz_)
        refine ⟨cd99_, sv_.toNat, by omega, sb_.2.2.1, sb_.2.2.2, rfl, rlf_sm ot99_, Or.inl ⟨e_, z1_, ?_, ?_, fun j_ => ?_⟩⟩
        · rw [← z3_]; omega
        · rw [← z2_]; rfl
        · show S_.2.2.1 183 0 j_ = _; rw [th99_]
    · rintro sv_ k_ S_ hI_ hF_ ⟨kb_, sb_, cd145_, si145_, lf145_, hX145_, ot145_, lk145_, th145_, cdt_, -⟩ hm_
      have nb1_ : 0 ≤ S_.1 13 0 83 ∧ S_.1 13 0 83 ≤ 12 := hI_.1 13 0 83 rfl
      have ck_ : k_ < S_.1 13 0 83 → (0 ≤ S_.2.2.1 181 0 k_.toNat ∧ S_.2.2.1 181 0 k_.toNat ≤ 1000) ∧ (0 ≤ S_.2.2.1 182 0 k_.toNat ∧ S_.2.2.1 182 0 k_.toNat ≤ 100) := fun z_ => cdt_ k_.toNat (by omega)
      have bx1_ : 0 ≤ S_.1 13 0 83 ∧ S_.1 13 0 83 ≤ 12 := hI_.1 13 0 83 rfl
      refine sm_T_go 3 (c1 := (150, [some (.inr (.inr (some (13, 0)))), some (.inl sv_), some (.inl k_)], [.inl (S_.1 13 0 83), .inl k_], S_)) rfl ?_
      refine sm_T_br (a := 3) (z := 77) rfl (fun cx2_ => ?_) (fun cx2_ => ?_)
      · have cx2_ : (S_.1 13 0 83) ≤ k_ := of_decide_eq_true cx2_
        refine sm_T_go 1 (c1 := (228, [some (.inr (.inr (some (13, 0)))), some (.inl sv_), some (.inl k_)], [.inl sv_], S_)) rfl ?_
        refine sm_T_ri rfl ⟨_, _, rfl, _, rfl, hI_, hF_, ?_⟩
        right
        exact ⟨cd145_, sv_.toNat, by omega, sb_.2.2.1, sb_.2.2.2, si145_, ot145_, Or.inr ⟨lY_e hX145_ lk145_ (by omega), by omega, lf145_, th145_⟩⟩
      · have cx2_ : ¬ ((S_.1 13 0 83) ≤ k_) := of_decide_eq_false cx2_
        refine sm_T_go 4 (c1 := (160, [some (.inr (.inr (some (13, 0)))), some (.inl sv_), some (.inl k_)], [.inl sv_, .inl 12, .inr (.inr (some (185, 0)))], S_)) rfl ?_
        refine sm_T_bin (w := 12 * sv_) rfl (bi_mul (by omega) (by omega) (by omega)) ?_
        refine sm_T_go 1 (c1 := (162, [some (.inr (.inr (some (13, 0)))), some (.inl sv_), some (.inl k_)], [.inl k_, .inl (12 * sv_), .inr (.inr (some (185, 0)))], S_)) rfl ?_
        refine sm_T_bin (w := 12 * sv_ + k_) rfl (bi_add (by omega) (by omega) (by omega)) ?_
        refine sm_T_go 3 (c1 := (168, [some (.inr (.inr (some (13, 0)))), some (.inl sv_), some (.inl k_)], [.inl k_, .inr (.inr (some (179, 0))), .inl (12 * sv_ + k_), .inr (.inr (some (185, 0)))], S_)) rfl ?_
        refine sm_T_iald (n := 12) rfl rfl (by omega) (by omega) ?_
        have bx3_ : 0 ≤ S_.2.2.1 179 0 k_.toNat ∧ S_.2.2.1 179 0 k_.toNat ≤ 3 := hI_.2 179 0 _
        refine sm_T_iast (n := 36) rfl rfl (by omega) (by omega) ?_
        have hIx4_ : gi (sm_aI S_ 185 0 (12 * sv_ + k_).toNat (S_.2.2.1 179 0 k_.toNat)) := gi_aI hI_ (show 0 ≤ (S_.2.2.1 179 0 k_.toNat) ∧ (S_.2.2.1 179 0 k_.toNat) ≤ 3 from ⟨by omega, by omega⟩)
        have hFx5_ : ai_fr (sx_W vw_367v) S0_ (sm_aI S_ 185 0 (12 * sv_ + k_).toNat (S_.2.2.1 179 0 k_.toNat)) := ai_fr_tr hF_ (ai_fr_aI rfl)
        refine sm_T_go 4 (c1 := (177, [some (.inr (.inr (some (13, 0)))), some (.inl sv_), some (.inl k_)], [.inl sv_, .inl 12, .inr (.inr (some (186, 0)))], sm_aI S_ 185 0 (12 * sv_ + k_).toNat (S_.2.2.1 179 0 k_.toNat))) rfl ?_
        refine sm_T_bin (w := 12 * sv_) rfl (bi_mul (by omega) (by omega) (by omega)) ?_
        refine sm_T_go 1 (c1 := (179, [some (.inr (.inr (some (13, 0)))), some (.inl sv_), some (.inl k_)], [.inl k_, .inl (12 * sv_), .inr (.inr (some (186, 0)))], sm_aI S_ 185 0 (12 * sv_ + k_).toNat (S_.2.2.1 179 0 k_.toNat))) rfl ?_
        refine sm_T_bin (w := 12 * sv_ + k_) rfl (bi_add (by omega) (by omega) (by omega)) ?_
        refine sm_T_go 3 (c1 := (185, [some (.inr (.inr (some (13, 0)))), some (.inl sv_), some (.inl k_)], [.inl k_, .inr (.inr (some (180, 0))), .inl (12 * sv_ + k_), .inr (.inr (some (186, 0)))], sm_aI S_ 185 0 (12 * sv_ + k_).toNat (S_.2.2.1 179 0 k_.toNat))) rfl ?_
        refine sm_T_iald (n := 12) rfl rfl (by omega) (by omega) ?_
        have bx6_ : 0 ≤ S_.2.2.1 180 0 k_.toNat ∧ S_.2.2.1 180 0 k_.toNat ≤ 255 := hI_.2 180 0 _
        refine sm_T_go 0 (c1 := (186, [some (.inr (.inr (some (13, 0)))), some (.inl sv_), some (.inl k_)], [.inl (S_.2.2.1 180 0 k_.toNat), .inl (12 * sv_ + k_), .inr (.inr (some (186, 0)))], sm_aI S_ 185 0 (12 * sv_ + k_).toNat (S_.2.2.1 179 0 k_.toNat))) rfl ?_
        refine sm_T_iast (n := 36) rfl rfl (by omega) (by omega) ?_
        have hIx7_ : gi (sm_aI (sm_aI S_ 185 0 (12 * sv_ + k_).toNat (S_.2.2.1 179 0 k_.toNat)) 186 0 (12 * sv_ + k_).toNat (S_.2.2.1 180 0 k_.toNat)) := gi_aI hIx4_ (show 0 ≤ (S_.2.2.1 180 0 k_.toNat) ∧ (S_.2.2.1 180 0 k_.toNat) ≤ 255 from ⟨by omega, by omega⟩)
        have hFx8_ : ai_fr (sx_W vw_367v) S0_ (sm_aI (sm_aI S_ 185 0 (12 * sv_ + k_).toNat (S_.2.2.1 179 0 k_.toNat)) 186 0 (12 * sv_ + k_).toNat (S_.2.2.1 180 0 k_.toNat)) := ai_fr_tr hFx5_ (ai_fr_aI rfl)
        refine sm_T_go 4 (c1 := (194, [some (.inr (.inr (some (13, 0)))), some (.inl sv_), some (.inl k_)], [.inl sv_, .inl 12, .inr (.inr (some (187, 0)))], sm_aI (sm_aI S_ 185 0 (12 * sv_ + k_).toNat (S_.2.2.1 179 0 k_.toNat)) 186 0 (12 * sv_ + k_).toNat (S_.2.2.1 180 0 k_.toNat))) rfl ?_
        refine sm_T_bin (w := 12 * sv_) rfl (bi_mul (by omega) (by omega) (by omega)) ?_
        refine sm_T_go 1 (c1 := (196, [some (.inr (.inr (some (13, 0)))), some (.inl sv_), some (.inl k_)], [.inl k_, .inl (12 * sv_), .inr (.inr (some (187, 0)))], sm_aI (sm_aI S_ 185 0 (12 * sv_ + k_).toNat (S_.2.2.1 179 0 k_.toNat)) 186 0 (12 * sv_ + k_).toNat (S_.2.2.1 180 0 k_.toNat))) rfl ?_
        refine sm_T_bin (w := 12 * sv_ + k_) rfl (bi_add (by omega) (by omega) (by omega)) ?_
        refine sm_T_go 3 (c1 := (202, [some (.inr (.inr (some (13, 0)))), some (.inl sv_), some (.inl k_)], [.inl k_, .inr (.inr (some (181, 0))), .inl (12 * sv_ + k_), .inr (.inr (some (187, 0)))], sm_aI (sm_aI S_ 185 0 (12 * sv_ + k_).toNat (S_.2.2.1 179 0 k_.toNat)) 186 0 (12 * sv_ + k_).toNat (S_.2.2.1 180 0 k_.toNat))) rfl ?_
        refine sm_T_iald (n := 12) rfl rfl (by omega) (by omega) ?_
        have bx9_ : (-2147483648) ≤ S_.2.2.1 181 0 k_.toNat ∧ S_.2.2.1 181 0 k_.toNat ≤ 2147483647 := hI_.2 181 0 _
        refine sm_T_go 0 (c1 := (203, [some (.inr (.inr (some (13, 0)))), some (.inl sv_), some (.inl k_)], [.inl (S_.2.2.1 181 0 k_.toNat), .inl (12 * sv_ + k_), .inr (.inr (some (187, 0)))], sm_aI (sm_aI S_ 185 0 (12 * sv_ + k_).toNat (S_.2.2.1 179 0 k_.toNat)) 186 0 (12 * sv_ + k_).toNat (S_.2.2.1 180 0 k_.toNat))) rfl ?_
        refine sm_T_iast (n := 36) rfl rfl (by omega) (by omega) ?_
        have hIx10_ : gi (sm_aI (sm_aI (sm_aI S_ 185 0 (12 * sv_ + k_).toNat (S_.2.2.1 179 0 k_.toNat)) 186 0 (12 * sv_ + k_).toNat (S_.2.2.1 180 0 k_.toNat)) 187 0 (12 * sv_ + k_).toNat (S_.2.2.1 181 0 k_.toNat)) := gi_aI hIx7_ (show 0 ≤ (S_.2.2.1 181 0 k_.toNat) ∧ (S_.2.2.1 181 0 k_.toNat) ≤ 1000 from ⟨by omega, by omega⟩)
        have hFx11_ : ai_fr (sx_W vw_367v) S0_ (sm_aI (sm_aI (sm_aI S_ 185 0 (12 * sv_ + k_).toNat (S_.2.2.1 179 0 k_.toNat)) 186 0 (12 * sv_ + k_).toNat (S_.2.2.1 180 0 k_.toNat)) 187 0 (12 * sv_ + k_).toNat (S_.2.2.1 181 0 k_.toNat)) := ai_fr_tr hFx8_ (ai_fr_aI rfl)
        refine sm_T_go 4 (c1 := (211, [some (.inr (.inr (some (13, 0)))), some (.inl sv_), some (.inl k_)], [.inl sv_, .inl 12, .inr (.inr (some (188, 0)))], sm_aI (sm_aI (sm_aI S_ 185 0 (12 * sv_ + k_).toNat (S_.2.2.1 179 0 k_.toNat)) 186 0 (12 * sv_ + k_).toNat (S_.2.2.1 180 0 k_.toNat)) 187 0 (12 * sv_ + k_).toNat (S_.2.2.1 181 0 k_.toNat))) rfl ?_
        refine sm_T_bin (w := 12 * sv_) rfl (bi_mul (by omega) (by omega) (by omega)) ?_
        refine sm_T_go 1 (c1 := (213, [some (.inr (.inr (some (13, 0)))), some (.inl sv_), some (.inl k_)], [.inl k_, .inl (12 * sv_), .inr (.inr (some (188, 0)))], sm_aI (sm_aI (sm_aI S_ 185 0 (12 * sv_ + k_).toNat (S_.2.2.1 179 0 k_.toNat)) 186 0 (12 * sv_ + k_).toNat (S_.2.2.1 180 0 k_.toNat)) 187 0 (12 * sv_ + k_).toNat (S_.2.2.1 181 0 k_.toNat))) rfl ?_
        refine sm_T_bin (w := 12 * sv_ + k_) rfl (bi_add (by omega) (by omega) (by omega)) ?_
        refine sm_T_go 3 (c1 := (219, [some (.inr (.inr (some (13, 0)))), some (.inl sv_), some (.inl k_)], [.inl k_, .inr (.inr (some (182, 0))), .inl (12 * sv_ + k_), .inr (.inr (some (188, 0)))], sm_aI (sm_aI (sm_aI S_ 185 0 (12 * sv_ + k_).toNat (S_.2.2.1 179 0 k_.toNat)) 186 0 (12 * sv_ + k_).toNat (S_.2.2.1 180 0 k_.toNat)) 187 0 (12 * sv_ + k_).toNat (S_.2.2.1 181 0 k_.toNat))) rfl ?_
        refine sm_T_iald (n := 12) rfl rfl (by omega) (by omega) ?_
        have bx12_ : (-2147483648) ≤ S_.2.2.1 182 0 k_.toNat ∧ S_.2.2.1 182 0 k_.toNat ≤ 2147483647 := hI_.2 182 0 _
        refine sm_T_go 0 (c1 := (220, [some (.inr (.inr (some (13, 0)))), some (.inl sv_), some (.inl k_)], [.inl (S_.2.2.1 182 0 k_.toNat), .inl (12 * sv_ + k_), .inr (.inr (some (188, 0)))], sm_aI (sm_aI (sm_aI S_ 185 0 (12 * sv_ + k_).toNat (S_.2.2.1 179 0 k_.toNat)) 186 0 (12 * sv_ + k_).toNat (S_.2.2.1 180 0 k_.toNat)) 187 0 (12 * sv_ + k_).toNat (S_.2.2.1 181 0 k_.toNat))) rfl ?_
        refine sm_T_iast (n := 36) rfl rfl (by omega) (by omega) ?_
        have hIx13_ : gi (sm_aI (sm_aI (sm_aI (sm_aI S_ 185 0 (12 * sv_ + k_).toNat (S_.2.2.1 179 0 k_.toNat)) 186 0 (12 * sv_ + k_).toNat (S_.2.2.1 180 0 k_.toNat)) 187 0 (12 * sv_ + k_).toNat (S_.2.2.1 181 0 k_.toNat)) 188 0 (12 * sv_ + k_).toNat (S_.2.2.1 182 0 k_.toNat)) := gi_aI hIx10_ (show 0 ≤ (S_.2.2.1 182 0 k_.toNat) ∧ (S_.2.2.1 182 0 k_.toNat) ≤ 100 from ⟨by omega, by omega⟩)
        have hFx14_ : ai_fr (sx_W vw_367v) S0_ (sm_aI (sm_aI (sm_aI (sm_aI S_ 185 0 (12 * sv_ + k_).toNat (S_.2.2.1 179 0 k_.toNat)) 186 0 (12 * sv_ + k_).toNat (S_.2.2.1 180 0 k_.toNat)) 187 0 (12 * sv_ + k_).toNat (S_.2.2.1 181 0 k_.toNat)) 188 0 (12 * sv_ + k_).toNat (S_.2.2.1 182 0 k_.toNat)) := ai_fr_tr hFx11_ (ai_fr_aI rfl)
        refine sm_T_inc (a := 2) (z := 1) (v := k_) (w := k_ + 1) rfl rfl (by omega) (by omega) (by omega) ?_
        refine sm_T_go 1 (c1 := (145, [some (.inr (.inr (some (13, 0)))), some (.inl sv_), some (.inl (k_ + 1))], [], sm_aI (sm_aI (sm_aI (sm_aI S_ 185 0 (12 * sv_ + k_).toNat (S_.2.2.1 179 0 k_.toNat)) 186 0 (12 * sv_ + k_).toNat (S_.2.2.1 180 0 k_.toNat)) 187 0 (12 * sv_ + k_).toNat (S_.2.2.1 181 0 k_.toNat)) 188 0 (12 * sv_ + k_).toNat (S_.2.2.1 182 0 k_.toNat))) rfl ?_
        refine ih_.2.2 sv_ (k_ + 1) (sm_aI (sm_aI (sm_aI (sm_aI S_ 185 0 (12 * sv_ + k_).toNat (S_.2.2.1 179 0 k_.toNat)) 186 0 (12 * sv_ + k_).toNat (S_.2.2.1 180 0 k_.toNat)) 187 0 (12 * sv_ + k_).toNat (S_.2.2.1 181 0 k_.toNat)) 188 0 (12 * sv_ + k_).toNat (S_.2.2.1 182 0 k_.toNat)) hIx13_ hFx14_ ⟨?_, ?_, ?_, ?_, ?_, ?_, ?_, ?_, ?_, ?_, trivial⟩ ?_
        · omega
        · exact sb_
        · exact cd145_
        · exact si145_
        · exact lf145_
        · obtain ⟨K9_, L9_, u1_, u2_, u3_⟩ := hX145_
          exact ⟨K9_, L9_, u1_, u2_, ncl_fr (w_ := ([], [185, 186, 187, 188], [])) u3_ (ai_fr_tr (ai_fr_tr (ai_fr_tr (ai_fr_aI rfl) (ai_fr_aI rfl)) (ai_fr_aI rfl)) (ai_fr_aI rfl))⟩
        · intro l9_ hl9_
          have o9_ := ot145_ l9_ hl9_
          refine ⟨?_, fun j9_ hj9_ => ?_⟩
          · rw [rd_ne (by decide), rd_ne (by decide), rd_ne (by decide), rd_ne (by decide)]; exact o9_.1
          · simp only [rd_eq, rd_ne, ne_eq, Nat.reduceEqDiff, not_false_eq_true]; rw [if_neg (by omega), if_neg (by omega), if_neg (by omega), if_neg (by omega)]; exact o9_.2 j9_ hj9_
        · refine ⟨?_, fun j9_ hj9_ => ?_⟩
          · rw [rd_ne (by decide), rd_ne (by decide), rd_ne (by decide), rd_ne (by decide)]; exact lk145_.1
          · simp only [rd_eq, rd_ne, ne_eq, Nat.reduceEqDiff, not_false_eq_true]; by_cases z9_ : j9_ = k_.toNat; (rw [if_pos (by omega), if_pos (by omega), if_pos (by omega), if_pos (by omega), z9_]; exact ⟨rfl, rfl, rfl, rfl⟩); (rw [if_neg (by omega), if_neg (by omega), if_neg (by omega), if_neg (by omega)]; exact lk145_.2 j9_ (by omega))
        · intro j_
          rw [rd_ne (by decide), rd_ne (by decide), rd_ne (by decide), rd_ne (by decide)]
          exact th145_ j_
        · intro j_ hj_
          rw [rd_ne (by decide), rd_ne (by decide), rd_ne (by decide), rd_ne (by decide), rd_ne (by decide), rd_ne (by decide), rd_ne (by decide), rd_ne (by decide)]
          exact cdt_ j_ hj_
        · omega
set_option maxHeartbeats 2000000 in
set_option maxRecDepth 20000 in
theorem vc_367v {sc_ : Nat × (Nat → Int)} (b_ : Nat → Int) (n_ : Nat) (S0_ : sm_S) (hI_ : gi S0_) (hb_ : S0_.2.2.1 118 0 = b_) (hn_ : (S0_.1 13 0 2) = (n_ : Int)) (hn1_ : n_ ≤ 1280) : sm_T (mt_P sc_) 9 367 (0, [some (.inr (.inr (some (13, 0)))), none, none], [], S0_) (fun ro9_ => ∃ u_ S1_, ro9_ = (.inl u_, S1_, 0) ∧ vq_367v b_ n_ S0_ u_ S1_) := by
  have hF_ : ai_fr (sx_W vw_367v) S0_ S0_ := ai_fr_rf
  refine sm_T_go 3 (c1 := (5, [some (.inr (.inr (some (13, 0)))), none, none], [.inl 3, .inr (.inr (some (183, 0)))], S0_)) rfl ?_
  refine sm_T_cal (d1 := 0) (Q1 := vq_362l 3 S0_) rfl rfl (by decide) (vc_362l 3 S0_ hI_ (by rfl)) (fun u_ Sx1_ px4_ => ?_)
  obtain ⟨rfl, vx6_, rfl, px4_⟩ := px4_
  obtain ⟨sl_, hsl_⟩ : ∃ sl_ : Nat, (vx6_ = -1 ∧ ∀ j_ : Nat, j_ < 3 → S0_.2.2.1 183 0 j_ = 1) ∨ (vx6_ = (sl_ : Int) ∧ sl_ < 3 ∧ S0_.2.2.1 183 0 sl_ = 0 ∧ ∀ j_ : Nat, j_ < sl_ → S0_.2.2.1 183 0 j_ = 1) := by rcases px4_ with z_ | ⟨u_, z_⟩; exact ⟨0, Or.inl z_⟩; exact ⟨u_, Or.inr z_⟩
  clear px4_
  refine sm_T_go 4 (c1 := (12, [some (.inr (.inr (some (13, 0)))), some (.inl vx6_), none], [.inl (-1), .inl vx6_, .inr (.inr (some (13, 0)))], S0_)) rfl ?_
  refine sm_T_br (a := 1) (z := 7) rfl (fun cx7_ => ?_) (fun cx7_ => ?_)
  · have cx7_ : vx6_ ≠ (-1) := of_decide_eq_true cx7_
    obtain ⟨hs1_, hs2_, hs3_, hs4_⟩ : _ = (sl_ : Int) ∧ sl_ < 3 ∧ S0_.2.2.1 183 0 sl_ = 0 ∧ ∀ j_ : Nat, j_ < sl_ → S0_.2.2.1 183 0 j_ = 1 := by rcases hsl_ with z_ | z_; (exact absurd z_.1 cx7_); exact z_
    clear hsl_
    have hIx8_ : gi (sm_pI S0_ 13 0 0 0) := gi_pI hI_ (show 0 ≤ 0 ∧ 0 ≤ 4 from ⟨by omega, by omega⟩)
    have hFx9_ : ai_fr (sx_W vw_367v) S0_ (sm_pI S0_ 13 0 0 0) := ai_fr_tr hF_ (ai_fr_pI rfl)
    have hIx10_ : gi (sm_pI (sm_pI S0_ 13 0 0 0) 13 0 27 2) := gi_pI hIx8_ (show 0 ≤ 2 ∧ 2 ≤ 2 from ⟨by omega, by omega⟩)
    have hFx11_ : ai_fr (sx_W vw_367v) S0_ (sm_pI (sm_pI S0_ 13 0 0 0) 13 0 27 2) := ai_fr_tr hFx9_ (ai_fr_pI rfl)
    have hIx12_ : gi (sm_pI (sm_pI (sm_pI S0_ 13 0 0 0) 13 0 27 2) 13 0 10 0) := gi_pI hIx10_ (show 0 ≤ 0 ∧ 0 ≤ 23 from ⟨by omega, by omega⟩)
    have hFx13_ : ai_fr (sx_W vw_367v) S0_ (sm_pI (sm_pI (sm_pI S0_ 13 0 0 0) 13 0 27 2) 13 0 10 0) := ai_fr_tr hFx11_ (ai_fr_pI rfl)
    have hIx14_ : gi (sm_pI (sm_pI (sm_pI (sm_pI S0_ 13 0 0 0) 13 0 27 2) 13 0 10 0) 13 0 11 0) := gi_pI hIx12_ (show 0 ≤ 0 ∧ 0 ≤ 4095 from ⟨by omega, by omega⟩)
    have hFx15_ : ai_fr (sx_W vw_367v) S0_ (sm_pI (sm_pI (sm_pI (sm_pI S0_ 13 0 0 0) 13 0 27 2) 13 0 10 0) 13 0 11 0) := ai_fr_tr hFx13_ (ai_fr_pI rfl)
    have hIx16_ : gi (sm_pI (sm_pI (sm_pI (sm_pI (sm_pI S0_ 13 0 0 0) 13 0 27 2) 13 0 10 0) 13 0 11 0) 13 0 9 0) := gi_pI hIx14_ (show 0 ≤ 0 ∧ 0 ≤ 1280 from ⟨by omega, by omega⟩)
    have hFx17_ : ai_fr (sx_W vw_367v) S0_ (sm_pI (sm_pI (sm_pI (sm_pI (sm_pI S0_ 13 0 0 0) 13 0 27 2) 13 0 10 0) 13 0 11 0) 13 0 9 0) := ai_fr_tr hFx15_ (ai_fr_pI rfl)
    have hIx18_ : gi (sm_pI (sm_pI (sm_pI (sm_pI (sm_pI (sm_pI S0_ 13 0 0 0) 13 0 27 2) 13 0 10 0) 13 0 11 0) 13 0 9 0) 13 0 83 0) := gi_pI hIx16_ (show 0 ≤ 0 ∧ 0 ≤ 12 from ⟨by omega, by omega⟩)
    have hFx19_ : ai_fr (sx_W vw_367v) S0_ (sm_pI (sm_pI (sm_pI (sm_pI (sm_pI (sm_pI S0_ 13 0 0 0) 13 0 27 2) 13 0 10 0) 13 0 11 0) 13 0 9 0) 13 0 83 0) := ai_fr_tr hFx17_ (ai_fr_pI rfl)
    refine sm_T_go 21 (c1 := (58, [some (.inr (.inr (some (13, 0)))), some (.inl vx6_), none], [.inr (.inr (some (13, 0)))], sm_pI (sm_pI (sm_pI (sm_pI (sm_pI (sm_pI S0_ 13 0 0 0) 13 0 27 2) 13 0 10 0) 13 0 11 0) 13 0 9 0) 13 0 83 0)) rfl ?_
    refine sm_T_cal (d1 := 3) (Q1 := vq_291 b_ n_ (sm_pI (sm_pI (sm_pI (sm_pI (sm_pI (sm_pI S0_ 13 0 0 0) 13 0 27 2) 13 0 10 0) 13 0 11 0) 13 0 9 0) 13 0 83 0)) rfl rfl (by decide) (vc_291 b_ n_ (sm_pI (sm_pI (sm_pI (sm_pI (sm_pI (sm_pI S0_ 13 0 0 0) 13 0 27 2) 13 0 10 0) 13 0 11 0) 13 0 9 0) 13 0 83 0) hIx18_ (by exact hb_) (by exact hn_) (by exact hn1_)) (fun u_ Sx20_ px23_ => ?_)
    obtain ⟨rfl, hIx21_, hFx22_, px23_⟩ := px23_
    have hFx24_ : ai_fr (sx_W vw_367v) S0_ Sx20_ := ai_fr_tr hFx19_ (fr_le hFx22_ rfl)
    obtain ⟨T_, tk0, tk1, tk2, tk3_, tk4_, tk5_, tk6_⟩ := px23_
    have hb58_ : Sx20_.2.2.1 118 0 = b_ := (fr_arr hFx22_ rfl).trans hb_
    have ht_ : rtab b_ n_ T_ Sx20_ := ⟨hn1_, tk1, tk2, tk3_, tk4_, tk5_, tk6_, fun k_ => by rw [← hb58_]; exact hIx21_.2 118 0 k_⟩
    have mo58_ : Sx20_.1 13 0 27 = 2 := hFx22_.1 13 0 27 rfl
    have at58_ : Sx20_.1 13 0 9 = 0 := hFx22_.1 13 0 9 rfl
    have fa58_ : Sx20_.1 13 0 10 = 0 := hFx22_.1 13 0 10 rfl
    have nc58_ : Sx20_.1 13 0 83 = 0 := hFx22_.1 13 0 83 rfl
    have cd58_ : Sx20_.1 13 0 0 = 0 := hFx22_.1 13 0 0 rfl
    have th58_ := fr_arr (t := 183) (i := 0) hFx22_ rfl
    have d0_ := rd_0 ht_
    clear tk6_
    have ot57_ := rsm_fr hFx22_ (by decide)
    have ot58_ : rsm S0_ Sx20_ := fun t_ q1_ q2_ => ot57_ t_ q1_ q2_
    refine sm_T_go 1 (c1 := (62, [some (.inr (.inr (some (13, 0)))), some (.inl vx6_), none], [.inr (.inr (some (13, 0)))], Sx20_)) rfl ?_
    refine sm_T_cal (d1 := 1) (Q1 := vq_298  Sx20_) rfl rfl (by decide) (vc_298  Sx20_ hIx21_ ) (fun u_ Sx25_ px28_ => ?_)
    obtain ⟨rfl, hIx26_, hFx27_, px28_⟩ := px28_
    have hFx29_ : ai_fr (sx_W vw_367v) S0_ Sx25_ := ai_fr_tr hFx24_ (fr_le hFx27_ rfl)
    have t62_ := rtab_fr ht_ hFx27_ rfl rfl rfl rfl rfl
    have e62_ := px28_.2 fa58_
    rw [at58_] at e62_
    have at62_ := (hFx27_.1 13 0 9 rfl).trans at58_
    have nc62_ := (hFx27_.1 13 0 83 rfl).trans nc58_
    have mo62_ := (hFx27_.1 13 0 27 rfl).trans mo58_
    have cd62_ := (hFx27_.1 13 0 0 rfl).trans cd58_
    have ot62_ := rsm_tr ot58_ (rsm_fr hFx27_ (by decide))
    have th62_ := (fr_arr (t := 183) (i := 0) hFx27_ rfl).trans th58_
    have h62_ : lX b_ n_ T_ Sx25_ ∨ lRq b_ n_ T_ Sx25_ := by rcases e62_ with ⟨z1_, z2_, z3_⟩ | ⟨z1_, z2_⟩; (left; have y_ := d0_.1 z1_; exact ⟨(1, lx_k b_ n_ 0), by unfold p_li; rw [if_pos y_.1], z2_, z3_.trans y_.2, by show (1 : Int) ≠ 0; decide⟩); (right; exact lq_0 z2_ at62_ nc62_ (d0_.2 z1_))
    refine sm_T_go 0 (c1 := (65, [some (.inr (.inr (some (13, 0)))), some (.inl vx6_), none], [], Sx25_)) rfl ?_
    refine (vl_367v b_ n_ S0_ hb_ hn_ hn1_ _).1 vx6_ Sx25_ hIx26_ hFx29_ ⟨?_, ?_, ?_, ?_, ?_, ?_, trivial⟩ (Nat.lt_succ_self _)
    · exact ⟨T_, t62_, h62_⟩
    · rw [hs1_]
      exact ⟨by omega, by omega, hs3_, hs4_⟩
    · exact ot62_
    · exact mo62_
    · exact cd62_
    · exact th62_
  · have cx7_ : ¬ (vx6_ ≠ (-1)) := of_decide_eq_false cx7_
    have hIx30_ : gi (sm_pI S0_ 13 0 0 1) := gi_pI hI_ (show 0 ≤ 1 ∧ 1 ≤ 4 from ⟨by omega, by omega⟩)
    have hFx31_ : ai_fr (sx_W vw_367v) S0_ (sm_pI S0_ 13 0 0 1) := ai_fr_tr hF_ (ai_fr_pI rfl)
    refine sm_T_go 7 (c1 := (31, [some (.inr (.inr (some (13, 0)))), some (.inl vx6_), none], [.inl 0], sm_pI S0_ 13 0 0 1)) rfl ?_
    refine sm_T_ri rfl ⟨_, _, rfl, _, rfl, hIx30_, hFx31_, ?_⟩
    left
    refine ⟨rfl, ?_, rfl, fun j_ => rfl, fun t_ _ _ => rfl, rfl⟩
    rcases hsl_ with z_ | z_
    · exact z_.2
    · exfalso; have := z_.1; omega
end
/-! 99.ztJ -/
section
/-! a chip is made: the libraries stay; written by wip/p55/gen/vg -/

/-! a_ chip is_ made: the_ libraries stay -/
def lbs (S_ S'_ : sm_S) : Prop := ∀ i_, i_ < 3 → (∀ k_, S'_.1 5 i_ k_ = S_.1 5 i_ k_) ∧ ∀ t_, 55 ≤ t_ → t_ < 59 → S'_.2.2.1 t_ (0 + i_) = S_.2.2.1 t_ (0 + i_)
theorem cdf_lb {ii_ : Nat} {S_ S'_ : sm_S} (h_ : cdf ii_ S_ S'_) : lbs S_ S'_ := fun i_ hi_ => ⟨fun k_ => (h_ 5 (by decide) i_ (by rw [show cof 5 = 3 from rfl]; omega)).1 k_, fun t_ h1_ h2_ => (h_ t_ (by have q_ : t_ = 55 ∨ t_ = 56 ∨ t_ = 57 ∨ t_ = 58 := (by omega); rcases q_ with rfl | rfl | rfl | rfl <;> rfl) (0 + i_) (by unfold cof; rw [if_pos (Or.inr ⟨h1_, h2_⟩)]; omega)).2⟩

/-! ChipFlow.map -/
end
/-! 99.ztK -/
section
/-! next values and beginning: the class; written by wip/p55/gen/vg -/

/-! next values and beginning -/
abbrev gN : Type := (Nat → Int) × Int
def bho (det_ : Int) (R_ : Nat) : Nat → Int → Int
  | 0, B_ => B_
  | j_ + 1, B_ => i_or (bho det_ R_ j_ B_) (i_shl (i_shr det_ (j_ : Int) % 2) ((R_ + j_ : Nat) : Int))
theorem bho_s {det_ : Int} {R_ j_ : Nat} {B_ : Int} : bho det_ R_ (j_ + 1) B_ = i_or (bho det_ R_ j_ B_) (i_shl (i_shr det_ (j_ : Int) % 2) ((R_ + j_ : Nat) : Int)) := rfl
def nho (I_ R_ w_ : Nat) (N_ : Nat → Int) : Nat → Int := fun i_ => if R_ ≤ i_ ∧ i_ < R_ + w_ then 2 * ((1 + I_ + i_ : Nat) : Int) else N_ i_
def nnx (p_ : Nat) (y_ : List Int) (N_ : Nat → Int) : Nat → Int := fun i_ => if p_ ≤ i_ ∧ i_ < p_ + y_.length then y_.getD (i_ - p_) 0 else N_ i_
/-- what a_ store does to_ them -/
def nst (I_ : Nat) (A_ : pA) (m_ : Nat) (k_ : Int) (a_ : Nat) (s_ : gS) (x_ : gN) : gN :=
  if k_ = 13 then (nho I_ s_.1.2.1 (A_.2.2.2.1 (40 * m_ + a_)).toNat x_.1, bho (A_.2.2.2.2 (40 * m_ + a_)) s_.1.2.1 (A_.2.2.2.1 (40 * m_ + a_)).toNat x_.2)
  else if k_ = 14 then (match s_.2.2.2, s_.2.1 a_ with
    | y_ :: _, z_ :: _ => (nnx (z_ / 2 - 1 - I_).toNat y_ x_.1, x_.2)
    | _, _ => x_)
  else x_
/-- what a_ word does to_ them -/
def nw (I_ : Nat) (A_ : pA) (Y_ : Nat → gQ → gE → gN → gN) (m_ : Nat) (w_ : Int) (s_ : gS) (x_ : gN) : gN :=
  if w_ % 32 = 17 then (match s_.2.2.1 (w_ / 32 % 64).toNat with
    | some o_ => Y_ (w_ / 2048).toNat s_.1 o_ x_
    | none => x_)
  else if w_ % 32 ≤ 11 then x_
  else nst I_ A_ m_ (w_ % 32) (w_ / 32 % 64).toNat s_ x_
def ncd (F_ I_ : Nat) (A_ : pA) (X_ : Nat → gQ → gE → Option (gQ × gE)) (Y_ : Nat → gQ → gE → gN → gN) (m_ : Nat) : List Int → gS → gN → gN
  | [], _, x_ => x_
  | w_ :: c_, s_, x_ => match ew F_ I_ A_ X_ m_ w_ s_ with
    | some s1_ => ncd F_ I_ A_ X_ Y_ m_ c_ s1_ (nw I_ A_ Y_ m_ w_ s_ x_)
    | none => x_
def nxm (F_ I_ : Nat) (A_ : pA) (C_ : Nat → List Int) : Nat → Nat → gQ → gE → gN → gN
  | 0, _, _, _, x_ => x_
  | f_ + 1, d_, q_, e_, x_ => ncd F_ I_ A_ (exm F_ I_ A_ C_ f_) (nxm F_ I_ A_ C_ f_) d_ (C_ d_) (q_, e_, fun _ => none, []) x_
theorem ncd_c {F_ I_ m_ : Nat} {A_ : pA} {X_ : Nat → gQ → gE → Option (gQ × gE)} {Y_ : Nat → gQ → gE → gN → gN} {w_ : Int} {c_ : List Int} {s_ s1_ : gS} {x_ : gN} (h_ : ew F_ I_ A_ X_ m_ w_ s_ = some s1_) : ncd F_ I_ A_ X_ Y_ m_ (w_ :: c_) s_ x_ = ncd F_ I_ A_ X_ Y_ m_ c_ s1_ (nw I_ A_ Y_ m_ w_ s_ x_) := by
  show (match ew F_ I_ A_ X_ m_ w_ s_ with
    | some s1_ => ncd F_ I_ A_ X_ Y_ m_ c_ s1_ (nw I_ A_ Y_ m_ w_ s_ x_)
    | none => x_) = _
  rw [h_]
theorem nst_o {I_ m_ a_ : Nat} {A_ : pA} {k_ : Int} {s_ : gS} {x_ : gN} (h3_ : k_ ≠ 13) (h4_ : k_ ≠ 14) : nst I_ A_ m_ k_ a_ s_ x_ = x_ := by
  unfold nst
  rw [if_neg h3_, if_neg h4_]
theorem nst_h {I_ m_ a_ : Nat} {A_ : pA} {s_ : gS} {x_ : gN} : nst I_ A_ m_ 13 a_ s_ x_ = (nho I_ s_.1.2.1 (A_.2.2.2.1 (40 * m_ + a_)).toNat x_.1, bho (A_.2.2.2.2 (40 * m_ + a_)) s_.1.2.1 (A_.2.2.2.1 (40 * m_ + a_)).toNat x_.2) := by
  unfold nst
  rw [if_pos rfl]
theorem nst_n {I_ m_ a_ : Nat} {A_ : pA} {s_ : gS} {x_ : gN} {y_ y2_ : List Int} {l_ : gV} {z_ : Int} (hV_ : s_.2.2.2 = y_ :: l_) (hE_ : s_.2.1 a_ = z_ :: y2_) : nst I_ A_ m_ 14 a_ s_ x_ = (nnx (z_ / 2 - 1 - I_).toNat y_ x_.1, x_.2) := by
  unfold nst
  rw [if_neg (by decide), if_pos rfl, hV_, hE_]
/-- the_ class holds them -/
def cxn (dd_ R_ : Nat) (x_ : gN) (S_ : sm_S) : Prop := S_.1 3 dd_ 5 = x_.2 ∧ ∀ i_, i_ < R_ → S_.2.2.1 46 (0 + dd_) i_ = x_.1 i_
theorem cxn_fr {w_ : sx_Wl} {dd_ R_ : Nat} {x_ : gN} {S_ S'_ : sm_S} (h_ : cxn dd_ R_ x_ S_) (g_ : ai_fr (sx_W w_) S_ S'_) (h2_ : (sx_W w_).1 3 5 = false := by rfl) (h4_ : (sx_W w_).2.1 46 = false := by rfl) : cxn dd_ R_ x_ S'_ := by
  unfold cxn
  rw [g_.1 3 dd_ 5 h2_, fr_arr (t := 46) g_ h4_]
  exact h_
theorem cxn_cp {dd_ R_ p_ q_ n_ : Nat} {st_ : Nat → Int} {x_ : gN} {S_ S'_ : sm_S} {y_ : List Int} (h_ : cxn dd_ R_ x_ S_) (e5_ : S'_.1 3 dd_ 5 = S_.1 3 dd_ 5) (e46_ : S'_.2.2.1 46 (0 + dd_) = sm_cp st_ (S_.2.2.1 46 (0 + dd_)) p_ q_ n_) (hy_ : rwv st_ p_ y_) (hn_ : n_ = y_.length) : cxn dd_ R_ (nnx q_ y_ x_.1, x_.2) S'_ := by
  refine ⟨e5_.trans h_.1, fun i_ hi_ => ?_⟩
  rw [e46_]
  show sm_cp st_ (S_.2.2.1 46 (0 + dd_)) p_ q_ n_ i_ = nnx q_ y_ x_.1 i_
  unfold sm_cp nnx
  by_cases c_ : q_ ≤ i_ ∧ i_ < q_ + n_
  · have l9_ : i_ - q_ < y_.length := by omega
    have e_ := hy_ (i_ - q_) y_[i_ - q_] (List.getElem?_eq_getElem l9_)
    rw [if_pos c_, if_pos (by omega), List.getD_eq_getElem?_getD, List.getElem?_eq_getElem l9_]
    first | exact e_ | (rw [show p_ + i_ - q_ = p_ + (i_ - q_) by omega]; exact e_)
  · rw [if_neg c_, if_neg (by omega)]
    exact h_.2 i_ hi_

/-! Builder.store -/
def vw_38n : sx_Wl := ([(1, 3), (1, 6), (1, 9), (3, 5)], [26, 46], [])
def vq_38n (k_ : Int) (m_ : Int) (f_ : Int) (a_ : Int) (d_ : Int) (tb_ : Nat → Int) (tn_ : Nat) (A_ : pA) (mm_ : Nat) (ff_ : Nat) (aa_ : Nat) (dd_ : Nat) (F_ : Nat) (I_ : Nat) (s_ : gS) (r_ : gS) (fc0_ : Nat) (x0_ : gN) (S0_ : sm_S) (u_ : Option sm_V) (S1_ : sm_S) : Prop := u_ = none ∧ gi S1_ ∧ ai_fr (sx_W vw_38n) S0_ S1_ ∧ (idf dd_ S0_ S1_ ∧ (cxs dd_ F_ I_ ff_ fc0_ r_ S1_ ∧ fun_ ff_ fc0_ (S0_.2.2.1 26 0) (S1_.2.2.1 26 0) ∧ cxn dd_ r_.1.2.1 (nst I_ A_ mm_ k_ aa_ s_ x0_) S1_))
set_option maxHeartbeats 2000000 in
set_option maxRecDepth 20000 in
theorem vl_38n {sc_ : Nat × (Nat → Int)} (k_ : Int) (m_ : Int) (f_ : Int) (a_ : Int) (d_ : Int) (tb_ : Nat → Int) (tn_ : Nat) (A_ : pA) (mm_ : Nat) (ff_ : Nat) (aa_ : Nat) (dd_ : Nat) (F_ : Nat) (I_ : Nat) (s_ : gS) (r_ : gS) (fc0_ : Nat) (x0_ : gN) (S0_ : sm_S) (hI0_ : gi S0_) (hd_ : S0_.2.1 1 0 1 = some dd_) (hk0_ : 12 ≤ k_ ∧ k_ ≤ 16) (hd0_ : 0 ≤ d_ ∧ d_ ≤ 1048576) (hm1_ : m_ = (mm_ : Int) ∧ mm_ ≤ 15) (hf1_ : f_ = (ff_ : Int)) (ha1_ : a_ = (aa_ : Int) ∧ aa_ ≤ 63) (her_ : ∀ k9_, k9_ ≤ mm_ → er1 tb_ tn_ A_ k9_ S0_) (hA_ : a_ok tb_ tn_ A_ mm_) (hx_ : cxs dd_ F_ I_ ff_ fc0_ s_ S0_) (hok_ : s_.1.1.length ≤ 1000) (he_ : e_st I_ A_ mm_ k_ aa_ d_ s_ = some r_) (hlw_ : lwS F_ s_) (hRF_ : 1 + I_ + r_.1.2.1 ≤ F_) (hn_ : cxn dd_ s_.1.2.1 x0_ S0_) : ∀ nn_ : Nat, (∀ (sy_ : Int) (j_ : Int) (S_ : sm_S), gi S_ → ai_fr (sx_W vw_38n) S0_ S_ → ((k_ = 13) ∧ (0 ≤ j_ ∧ sy_ = 40 * m_ + a_ ∧ j_ ≤ 8) ∧ (rwv (S_.2.2.1 26 0) (8 * (40 * ff_ + aa_)) (r_bt I_ s_.1.2.1 j_.toNat)) ∧ (∀ j9_, j9_ < 8 * (40 * ff_ + aa_) ∨ 8 * (40 * ff_ + aa_) + 8 ≤ j9_ → S_.2.2.1 26 0 j9_ = S0_.2.2.1 26 0 j9_) ∧ ((S_.1 1 0 9) = (s_.1.2.1 : Int) + j_ ∧ j_ ≤ A_.2.2.2.1 (40 * mm_ + aa_)) ∧ ((S_.1 1 0 3) = (s_.1.2.2 : Int)) ∧ ((S_.1 1 0 6) = S0_.1 1 0 6 ∧ (∀ j9_, S_.2.2.1 27 0 j9_ = S0_.2.2.1 27 0 j9_) ∧ (∀ j9_, S_.2.2.1 28 0 j9_ = S0_.2.2.1 28 0 j9_) ∧ S_.1 3 dd_ 1 = (I_ : Int)) ∧ (cgl dd_ F_ s_.1.1 S_) ∧ (cxb dd_ (s_.1.2.1 + j_.toNat) S_) ∧ (cxn dd_ (s_.1.2.1 + j_.toNat) (nho I_ s_.1.2.1 j_.toNat x0_.1, bho (A_.2.2.2.2 (40 * mm_ + aa_)) s_.1.2.1 j_.toNat x0_.2) S_) ∧ (idf dd_ S0_ S_) ∧ True) → ((8 - j_).toNat) < nn_ → sm_T (mt_P sc_) 1 38 (50, [some (.inr (.inr (some (1, 0)))), some (.inl k_), some (.inl m_), some (.inl f_), some (.inl a_), some (.inl d_), some (.inl sy_), some (.inl j_), none], [], S_) (fun ro9_ => ∃ u_ S1_, ro9_ = (.inl u_, S1_, 0) ∧ vq_38n k_ m_ f_ a_ d_ tb_ tn_ A_ mm_ ff_ aa_ dd_ F_ I_ s_ r_ fc0_ x0_ S0_ u_ S1_)) := by
  intro nn_
  induction nn_ with
  | zero => exact fun _ _ _ _ _ _ h_ => absurd h_ (Nat.not_lt_zero _)
  | succ nn_ ih_ =>
    rintro sy_ j_ S_ hI_ hF_ ⟨hk_, h0_, h1_, h2_, h3_, h4_, h5_, h6_, h7_, h8_, hD_, -⟩ hm_
    obtain ⟨x1_, x2_, x3_, x4_, x5_, x6_, x7_, x8_, x9_⟩ := id hx_
    have x9a := x9_.1
    have cb_ := cgl_b x1_
    have c12_ : 0 ≤ S0_.1 3 dd_ 1 ∧ 0 ≤ S0_.1 3 dd_ 2 := ⟨(hI0_.1 3 dd_ 1 rfl).1, (hI0_.1 3 dd_ 2 rfl).1⟩
    have A40_ := (hA_.2 mm_ (Nat.le_refl _)).1
    have tp9_ := x8_.1
    have tq9_ : S0_.1 1 0 6 ≤ 512 := (hI0_.1 1 0 6 rfl).2
    obtain ⟨aM_, hO_, w1_, w8_, r6_, er⟩ := e_st13 (show e_st I_ A_ mm_ 13 aa_ d_ s_ = some r_ by rw [← hk_]; exact he_)
    have w80_ : S_.2.2.1 80 0 sy_.toNat = A_.2.2.2.1 (40 * mm_ + aa_) := by rw [show sy_.toNat = 40 * mm_ + aa_ by omega, fr_arr (t := 80) (i := 0) hF_ rfl]; exact ((her_ mm_ (Nat.le_refl _)).2 aa_ (by omega)).2.2.1
    have w81_ : S_.2.2.1 81 0 sy_.toNat = A_.2.2.2.2 (40 * mm_ + aa_) := by rw [show sy_.toNat = 40 * mm_ + aa_ by omega, fr_arr (t := 81) (i := 0) hF_ rfl]; exact ((her_ mm_ (Nat.le_refl _)).2 aa_ (by omega)).2.2.2
    have h3a := h3_.1
    have h5d := h5_.2.2.2
    have hd2_ : S_.1 3 dd_ 2 = S0_.1 3 dd_ 2 := hF_.1 3 dd_ 2 rfl
    refine sm_T_go 5 (c1 := (61, [some (.inr (.inr (some (1, 0)))), some (.inl k_), some (.inl m_), some (.inl f_), some (.inl a_), some (.inl d_), some (.inl sy_), some (.inl j_), none], [.inl sy_, .inr (.inr (some (80, 0))), .inl j_], S_)) rfl ?_
    refine sm_T_iald (n := 640) rfl rfl (by omega) (by omega) ?_
    have bx1_ : 0 ≤ S_.2.2.1 80 0 sy_.toNat ∧ S_.2.2.1 80 0 sy_.toNat ≤ 8 := hI_.2 80 0 _
    refine sm_T_br (a := 3) (z := 99) rfl (fun cx2_ => ?_) (fun cx2_ => ?_)
    · have cx2_ : (S_.2.2.1 80 0 sy_.toNat) ≤ j_ := of_decide_eq_true cx2_
      refine sm_T_rv rfl ⟨_, _, rfl, rfl, hI_, hF_, ?_⟩
      refine ⟨hD_, ?_⟩
      rw [er]
      have jw_ : j_.toNat = (A_.2.2.2.1 (40 * mm_ + aa_)).toNat := by omega
      rw [jw_] at h1_
      refine ⟨⟨h6_, by rw [h3a]; push_cast; omega, h4_, x4_, x5_, x6_, cfr_st x7_ x5_ (by omega) hO_ (by rw [r_bt_l]; omega) h1_ h2_, ⟨by rw [h5_.1]; exact x8_.1, svl_up x8_.2 (fun z_ => z_) (fun j9_ _ => h5_.2.1 j9_) (fun j9_ _ => h5_.2.2.1 j9_)⟩, ⟨h5_.2.2.2, by rw [jw_] at h7_; exact h7_⟩⟩, fun j9_ q1_ q2_ => h2_ j9_ (by omega), by (rw [jw_] at h8_; rw [hk_, nst_h]; exact h8_)⟩
    · have cx2_ : ¬ ((S_.2.2.1 80 0 sy_.toNat) ≤ j_) := of_decide_eq_false cx2_
      refine sm_T_go 3 (c1 := (68, [some (.inr (.inr (some (1, 0)))), some (.inl k_), some (.inl m_), some (.inl f_), some (.inl a_), some (.inl d_), some (.inl sy_), some (.inl j_), none], [.inr (.inr (some (1, 0))), .inl 1, .inl 2], S_)) rfl ?_
      refine sm_T_gr rfl rfl ((hF_.2.1 1 0 1 rfl).trans hd_) ?_
      have bx3_ : 0 ≤ S_.1 3 dd_ 1 ∧ S_.1 3 dd_ 1 ≤ 320 := hI_.1 3 dd_ 1 rfl
      refine sm_T_go 1 (c1 := (74, [some (.inr (.inr (some (1, 0)))), some (.inl k_), some (.inl m_), some (.inl f_), some (.inl a_), some (.inl d_), some (.inl sy_), some (.inl j_), none], [.inl (S_.1 3 dd_ 1), .inl 1, .inl 2], S_)) rfl ?_
      refine sm_T_bin (w := (S_.1 3 dd_ 1) + 1) rfl (bi_add (by omega) (by omega) (by omega)) ?_
      have bx4_ : 0 ≤ S_.1 1 0 9 ∧ S_.1 1 0 9 ≤ 6 := hI_.1 1 0 9 rfl
      refine sm_T_go 2 (c1 := (79, [some (.inr (.inr (some (1, 0)))), some (.inl k_), some (.inl m_), some (.inl f_), some (.inl a_), some (.inl d_), some (.inl sy_), some (.inl j_), none], [.inl (S_.1 1 0 9), .inl ((S_.1 3 dd_ 1) + 1), .inl 2], S_)) rfl ?_
      refine sm_T_bin (w := (S_.1 3 dd_ 1) + (S_.1 1 0 9) + 1) rfl (bi_add (by omega) (by omega) (by omega)) ?_
      refine sm_T_bin (w := 2 * (S_.1 3 dd_ 1) + 2 * (S_.1 1 0 9) + 2) rfl (bi_mul (by omega) (by omega) (by omega)) ?_
      refine sm_T_go 5 (c1 := (90, [some (.inr (.inr (some (1, 0)))), some (.inl k_), some (.inl m_), some (.inl f_), some (.inl a_), some (.inl d_), some (.inl sy_), some (.inl j_), some (.inl (2 * (S_.1 3 dd_ 1) + 2 * (S_.1 1 0 9) + 2))], [.inl a_, .inl f_, .inr (.inr (some (26, 0)))], S_)) rfl ?_
      refine sm_T_cal (d1 := 0) (Q1 := vq_35 f_ a_ S_) rfl rfl (by decide) (vc_35 f_ a_ S_ hI_ (by omega) (by omega)) (fun u_ Sx5_ px8_ => ?_)
      obtain ⟨rfl, vx10_, rfl, px8_⟩ := px8_
      have e90_ := px8_
      have ec : (vx10_ + j_).toNat = 8 * (40 * ff_ + aa_) + j_.toNat := by omega
      refine sm_T_go 1 (c1 := (95, [some (.inr (.inr (some (1, 0)))), some (.inl k_), some (.inl m_), some (.inl f_), some (.inl a_), some (.inl d_), some (.inl sy_), some (.inl j_), some (.inl (2 * (S_.1 3 dd_ 1) + 2 * (S_.1 1 0 9) + 2))], [.inl j_, .inl vx10_, .inr (.inr (some (26, 0)))], S_)) rfl ?_
      refine sm_T_bin (w := vx10_ + j_) rfl (bi_add (by omega) (by omega) (by omega)) ?_
      refine sm_T_go 1 (c1 := (98, [some (.inr (.inr (some (1, 0)))), some (.inl k_), some (.inl m_), some (.inl f_), some (.inl a_), some (.inl d_), some (.inl sy_), some (.inl j_), some (.inl (2 * (S_.1 3 dd_ 1) + 2 * (S_.1 1 0 9) + 2))], [.inl (2 * (S_.1 3 dd_ 1) + 2 * (S_.1 1 0 9) + 2), .inl (vx10_ + j_), .inr (.inr (some (26, 0)))], S_)) rfl ?_
      refine sm_T_iast (n := 64320) rfl rfl (by omega) (by omega) ?_
      have hIx11_ : gi (sm_aI S_ 26 0 (vx10_ + j_).toNat (2 * (S_.1 3 dd_ 1) + 2 * (S_.1 1 0 9) + 2)) := gi_aI hI_ (show 0 ≤ 2 * (S_.1 3 dd_ 1) + 2 * (S_.1 1 0 9) + 2 ∧ 2 * (S_.1 3 dd_ 1) + 2 * (S_.1 1 0 9) + 2 ≤ 2025 from ⟨by omega, by omega⟩)
      have hFx12_ : ai_fr (sx_W vw_38n) S0_ (sm_aI S_ 26 0 (vx10_ + j_).toNat (2 * (S_.1 3 dd_ 1) + 2 * (S_.1 1 0 9) + 2)) := ai_fr_tr hF_ (ai_fr_aI rfl)
      have hDx13_ : idf dd_ S0_ (sm_aI S_ 26 0 (vx10_ + j_).toNat (2 * (S_.1 3 dd_ 1) + 2 * (S_.1 1 0 9) + 2)) := idf_aI hD_ (Or.inl (by decide))
      refine sm_T_go 1 (c1 := (100, [some (.inr (.inr (some (1, 0)))), some (.inl k_), some (.inl m_), some (.inl f_), some (.inl a_), some (.inl d_), some (.inl sy_), some (.inl j_), some (.inl (2 * (S_.1 3 dd_ 1) + 2 * (S_.1 1 0 9) + 2))], [.inr (.inr (some (1, 0)))], sm_aI S_ 26 0 (vx10_ + j_).toNat (2 * (S_.1 3 dd_ 1) + 2 * (S_.1 1 0 9) + 2))) rfl ?_
      refine sm_T_gr rfl rfl ((hFx12_.2.1 1 0 1 rfl).trans hd_) ?_
      refine sm_T_go 4 (c1 := (112, [some (.inr (.inr (some (1, 0)))), some (.inl k_), some (.inl m_), some (.inl f_), some (.inl a_), some (.inl d_), some (.inl sy_), some (.inl j_), some (.inl (2 * (S_.1 3 dd_ 1) + 2 * (S_.1 1 0 9) + 2))], [.inl (2 * (S_.1 3 dd_ 1) + 2 * (S_.1 1 0 9) + 2), .inl (S_.1 1 0 9), .inr (.inr (some (46, (0 + dd_))))], sm_aI S_ 26 0 (vx10_ + j_).toNat (2 * (S_.1 3 dd_ 1) + 2 * (S_.1 1 0 9) + 2))) rfl ?_
      refine sm_T_iast (n := 6) rfl rfl (by omega) (by omega) ?_
      have hIx14_ : gi (sm_aI (sm_aI S_ 26 0 (vx10_ + j_).toNat (2 * (S_.1 3 dd_ 1) + 2 * (S_.1 1 0 9) + 2)) 46 (0 + dd_) (S_.1 1 0 9).toNat (2 * (S_.1 3 dd_ 1) + 2 * (S_.1 1 0 9) + 2)) := gi_aI hIx11_ (show 0 ≤ 2 * (S_.1 3 dd_ 1) + 2 * (S_.1 1 0 9) + 2 ∧ 2 * (S_.1 3 dd_ 1) + 2 * (S_.1 1 0 9) + 2 ≤ 2025 from ⟨by omega, by omega⟩)
      have hFx15_ : ai_fr (sx_W vw_38n) S0_ (sm_aI (sm_aI S_ 26 0 (vx10_ + j_).toNat (2 * (S_.1 3 dd_ 1) + 2 * (S_.1 1 0 9) + 2)) 46 (0 + dd_) (S_.1 1 0 9).toNat (2 * (S_.1 3 dd_ 1) + 2 * (S_.1 1 0 9) + 2)) := ai_fr_tr hFx12_ (ai_fr_aI rfl)
      have hDx16_ : idf dd_ S0_ (sm_aI (sm_aI S_ 26 0 (vx10_ + j_).toNat (2 * (S_.1 3 dd_ 1) + 2 * (S_.1 1 0 9) + 2)) 46 (0 + dd_) (S_.1 1 0 9).toNat (2 * (S_.1 3 dd_ 1) + 2 * (S_.1 1 0 9) + 2)) := idf_aI hDx13_ (Or.inr rfl)
      refine sm_T_go 1 (c1 := (114, [some (.inr (.inr (some (1, 0)))), some (.inl k_), some (.inl m_), some (.inl f_), some (.inl a_), some (.inl d_), some (.inl sy_), some (.inl j_), some (.inl (2 * (S_.1 3 dd_ 1) + 2 * (S_.1 1 0 9) + 2))], [.inr (.inr (some (1, 0)))], sm_aI (sm_aI S_ 26 0 (vx10_ + j_).toNat (2 * (S_.1 3 dd_ 1) + 2 * (S_.1 1 0 9) + 2)) 46 (0 + dd_) (S_.1 1 0 9).toNat (2 * (S_.1 3 dd_ 1) + 2 * (S_.1 1 0 9) + 2))) rfl ?_
      refine sm_T_gr rfl rfl ((hFx15_.2.1 1 0 1 rfl).trans hd_) ?_
      have bx17_ : 0 ≤ S_.1 3 dd_ 5 ∧ S_.1 3 dd_ 5 ≤ 63 := hI_.1 3 dd_ 5 rfl
      refine sm_T_go 6 (c1 := (130, [some (.inr (.inr (some (1, 0)))), some (.inl k_), some (.inl m_), some (.inl f_), some (.inl a_), some (.inl d_), some (.inl sy_), some (.inl j_), some (.inl (2 * (S_.1 3 dd_ 1) + 2 * (S_.1 1 0 9) + 2))], [.inl sy_, .inr (.inr (some (81, 0))), .inl (S_.1 3 dd_ 5), .inr (.inr (some (3, dd_)))], sm_aI (sm_aI S_ 26 0 (vx10_ + j_).toNat (2 * (S_.1 3 dd_ 1) + 2 * (S_.1 1 0 9) + 2)) 46 (0 + dd_) (S_.1 1 0 9).toNat (2 * (S_.1 3 dd_ 1) + 2 * (S_.1 1 0 9) + 2))) rfl ?_
      refine sm_T_iald (n := 640) rfl rfl (by omega) (by omega) ?_
      have bx18_ : 0 ≤ S_.2.2.1 81 0 sy_.toNat ∧ S_.2.2.1 81 0 sy_.toNat ≤ 255 := hI_.2 81 0 _
      refine sm_T_go 1 (c1 := (133, [some (.inr (.inr (some (1, 0)))), some (.inl k_), some (.inl m_), some (.inl f_), some (.inl a_), some (.inl d_), some (.inl sy_), some (.inl j_), some (.inl (2 * (S_.1 3 dd_ 1) + 2 * (S_.1 1 0 9) + 2))], [.inl j_, .inl (S_.2.2.1 81 0 sy_.toNat), .inl (S_.1 3 dd_ 5), .inr (.inr (some (3, dd_)))], sm_aI (sm_aI S_ 26 0 (vx10_ + j_).toNat (2 * (S_.1 3 dd_ 1) + 2 * (S_.1 1 0 9) + 2)) 46 (0 + dd_) (S_.1 1 0 9).toNat (2 * (S_.1 3 dd_ 1) + 2 * (S_.1 1 0 9) + 2))) rfl ?_
      refine sm_T_bin (w := (i_shr (S_.2.2.1 81 0 sy_.toNat) j_)) rfl rfl ?_
      refine sm_T_go 1 (c1 := (135, [some (.inr (.inr (some (1, 0)))), some (.inl k_), some (.inl m_), some (.inl f_), some (.inl a_), some (.inl d_), some (.inl sy_), some (.inl j_), some (.inl (2 * (S_.1 3 dd_ 1) + 2 * (S_.1 1 0 9) + 2))], [.inl 1, .inl (i_shr (S_.2.2.1 81 0 sy_.toNat) j_), .inl (S_.1 3 dd_ 5), .inr (.inr (some (3, dd_)))], sm_aI (sm_aI S_ 26 0 (vx10_ + j_).toNat (2 * (S_.1 3 dd_ 1) + 2 * (S_.1 1 0 9) + 2)) 46 (0 + dd_) (S_.1 1 0 9).toNat (2 * (S_.1 3 dd_ 1) + 2 * (S_.1 1 0 9) + 2))) rfl ?_
      refine sm_T_bin (w := ((i_shr (S_.2.2.1 81 0 sy_.toNat) j_) % 2)) rfl (bi_msk (k := 1) (by decide)) ?_
      refine sm_T_go 2 (c1 := (140, [some (.inr (.inr (some (1, 0)))), some (.inl k_), some (.inl m_), some (.inl f_), some (.inl a_), some (.inl d_), some (.inl sy_), some (.inl j_), some (.inl (2 * (S_.1 3 dd_ 1) + 2 * (S_.1 1 0 9) + 2))], [.inl (S_.1 1 0 9), .inl ((i_shr (S_.2.2.1 81 0 sy_.toNat) j_) % 2), .inl (S_.1 3 dd_ 5), .inr (.inr (some (3, dd_)))], sm_aI (sm_aI S_ 26 0 (vx10_ + j_).toNat (2 * (S_.1 3 dd_ 1) + 2 * (S_.1 1 0 9) + 2)) 46 (0 + dd_) (S_.1 1 0 9).toNat (2 * (S_.1 3 dd_ 1) + 2 * (S_.1 1 0 9) + 2))) rfl ?_
      refine sm_T_bin (w := (i_shl ((i_shr (S_.2.2.1 81 0 sy_.toNat) j_) % 2) (S_.1 1 0 9))) rfl rfl ?_
      have bx19_ := i_shb (x_ := ((i_shr (S_.2.2.1 81 0 sy_.toNat) j_) % 2)) (y_ := (S_.1 1 0 9)) (by omega) (by omega)
      refine sm_T_bin (w := (i_or (S_.1 3 dd_ 5) (i_shl ((i_shr (S_.2.2.1 81 0 sy_.toNat) j_) % 2) (S_.1 1 0 9)))) rfl rfl ?_
      have bx20_ := i_orb (x_ := (S_.1 3 dd_ 5)) (y_ := (i_shl ((i_shr (S_.2.2.1 81 0 sy_.toNat) j_) % 2) (S_.1 1 0 9))) (by omega) (by omega)
      have hIx21_ : gi (sm_pI (sm_aI (sm_aI S_ 26 0 (vx10_ + j_).toNat (2 * (S_.1 3 dd_ 1) + 2 * (S_.1 1 0 9) + 2)) 46 (0 + dd_) (S_.1 1 0 9).toNat (2 * (S_.1 3 dd_ 1) + 2 * (S_.1 1 0 9) + 2)) 3 dd_ 5 (i_or (S_.1 3 dd_ 5) (i_shl ((i_shr (S_.2.2.1 81 0 sy_.toNat) j_) % 2) (S_.1 1 0 9)))) := gi_pI hIx14_ (show 0 ≤ (i_or (S_.1 3 dd_ 5) (i_shl ((i_shr (S_.2.2.1 81 0 sy_.toNat) j_) % 2) (S_.1 1 0 9))) ∧ (i_or (S_.1 3 dd_ 5) (i_shl ((i_shr (S_.2.2.1 81 0 sy_.toNat) j_) % 2) (S_.1 1 0 9))) ≤ 63 from ⟨by omega, by omega⟩)
      have hFx22_ : ai_fr (sx_W vw_38n) S0_ (sm_pI (sm_aI (sm_aI S_ 26 0 (vx10_ + j_).toNat (2 * (S_.1 3 dd_ 1) + 2 * (S_.1 1 0 9) + 2)) 46 (0 + dd_) (S_.1 1 0 9).toNat (2 * (S_.1 3 dd_ 1) + 2 * (S_.1 1 0 9) + 2)) 3 dd_ 5 (i_or (S_.1 3 dd_ 5) (i_shl ((i_shr (S_.2.2.1 81 0 sy_.toNat) j_) % 2) (S_.1 1 0 9)))) := ai_fr_tr hFx15_ (ai_fr_pI rfl)
      have hDx23_ : idf dd_ S0_ (sm_pI (sm_aI (sm_aI S_ 26 0 (vx10_ + j_).toNat (2 * (S_.1 3 dd_ 1) + 2 * (S_.1 1 0 9) + 2)) 46 (0 + dd_) (S_.1 1 0 9).toNat (2 * (S_.1 3 dd_ 1) + 2 * (S_.1 1 0 9) + 2)) 3 dd_ 5 (i_or (S_.1 3 dd_ 5) (i_shl ((i_shr (S_.2.2.1 81 0 sy_.toNat) j_) % 2) (S_.1 1 0 9)))) := idf_pI hDx16_ (Or.inr rfl)
      refine sm_T_go 5 (c1 := (151, [some (.inr (.inr (some (1, 0)))), some (.inl k_), some (.inl m_), some (.inl f_), some (.inl a_), some (.inl d_), some (.inl sy_), some (.inl j_), some (.inl (2 * (S_.1 3 dd_ 1) + 2 * (S_.1 1 0 9) + 2))], [.inl 1, .inl (S_.1 1 0 9), .inr (.inr (some (1, 0)))], sm_pI (sm_aI (sm_aI S_ 26 0 (vx10_ + j_).toNat (2 * (S_.1 3 dd_ 1) + 2 * (S_.1 1 0 9) + 2)) 46 (0 + dd_) (S_.1 1 0 9).toNat (2 * (S_.1 3 dd_ 1) + 2 * (S_.1 1 0 9) + 2)) 3 dd_ 5 (i_or (S_.1 3 dd_ 5) (i_shl ((i_shr (S_.2.2.1 81 0 sy_.toNat) j_) % 2) (S_.1 1 0 9))))) rfl ?_
      refine sm_T_bin (w := (S_.1 1 0 9) + 1) rfl (bi_add (by omega) (by omega) (by omega)) ?_
      have hIx24_ : gi (sm_pI (sm_pI (sm_aI (sm_aI S_ 26 0 (vx10_ + j_).toNat (2 * (S_.1 3 dd_ 1) + 2 * (S_.1 1 0 9) + 2)) 46 (0 + dd_) (S_.1 1 0 9).toNat (2 * (S_.1 3 dd_ 1) + 2 * (S_.1 1 0 9) + 2)) 3 dd_ 5 (i_or (S_.1 3 dd_ 5) (i_shl ((i_shr (S_.2.2.1 81 0 sy_.toNat) j_) % 2) (S_.1 1 0 9)))) 1 0 9 ((S_.1 1 0 9) + 1)) := gi_pI hIx21_ (show 0 ≤ (S_.1 1 0 9) + 1 ∧ (S_.1 1 0 9) + 1 ≤ 6 from ⟨by omega, by omega⟩)
      have hFx25_ : ai_fr (sx_W vw_38n) S0_ (sm_pI (sm_pI (sm_aI (sm_aI S_ 26 0 (vx10_ + j_).toNat (2 * (S_.1 3 dd_ 1) + 2 * (S_.1 1 0 9) + 2)) 46 (0 + dd_) (S_.1 1 0 9).toNat (2 * (S_.1 3 dd_ 1) + 2 * (S_.1 1 0 9) + 2)) 3 dd_ 5 (i_or (S_.1 3 dd_ 5) (i_shl ((i_shr (S_.2.2.1 81 0 sy_.toNat) j_) % 2) (S_.1 1 0 9)))) 1 0 9 ((S_.1 1 0 9) + 1)) := ai_fr_tr hFx22_ (ai_fr_pI rfl)
      have hDx26_ : idf dd_ S0_ (sm_pI (sm_pI (sm_aI (sm_aI S_ 26 0 (vx10_ + j_).toNat (2 * (S_.1 3 dd_ 1) + 2 * (S_.1 1 0 9) + 2)) 46 (0 + dd_) (S_.1 1 0 9).toNat (2 * (S_.1 3 dd_ 1) + 2 * (S_.1 1 0 9) + 2)) 3 dd_ 5 (i_or (S_.1 3 dd_ 5) (i_shl ((i_shr (S_.2.2.1 81 0 sy_.toNat) j_) % 2) (S_.1 1 0 9)))) 1 0 9 ((S_.1 1 0 9) + 1)) := idf_pI hDx23_ (Or.inl (by decide))
      refine sm_T_go 1 (c1 := (155, [some (.inr (.inr (some (1, 0)))), some (.inl k_), some (.inl m_), some (.inl f_), some (.inl a_), some (.inl d_), some (.inl sy_), some (.inl j_), some (.inl (2 * (S_.1 3 dd_ 1) + 2 * (S_.1 1 0 9) + 2))], [], sm_pI (sm_pI (sm_aI (sm_aI S_ 26 0 (vx10_ + j_).toNat (2 * (S_.1 3 dd_ 1) + 2 * (S_.1 1 0 9) + 2)) 46 (0 + dd_) (S_.1 1 0 9).toNat (2 * (S_.1 3 dd_ 1) + 2 * (S_.1 1 0 9) + 2)) 3 dd_ 5 (i_or (S_.1 3 dd_ 5) (i_shl ((i_shr (S_.2.2.1 81 0 sy_.toNat) j_) % 2) (S_.1 1 0 9)))) 1 0 9 ((S_.1 1 0 9) + 1))) rfl ?_
      refine sm_T_inc (a := 7) (z := 1) (v := j_) (w := j_ + 1) rfl rfl (by omega) (by omega) (by omega) ?_
      refine sm_T_go 1 (c1 := (50, [some (.inr (.inr (some (1, 0)))), some (.inl k_), some (.inl m_), some (.inl f_), some (.inl a_), some (.inl d_), some (.inl sy_), some (.inl (j_ + 1)), some (.inl (2 * (S_.1 3 dd_ 1) + 2 * (S_.1 1 0 9) + 2))], [], sm_pI (sm_pI (sm_aI (sm_aI S_ 26 0 (vx10_ + j_).toNat (2 * (S_.1 3 dd_ 1) + 2 * (S_.1 1 0 9) + 2)) 46 (0 + dd_) (S_.1 1 0 9).toNat (2 * (S_.1 3 dd_ 1) + 2 * (S_.1 1 0 9) + 2)) 3 dd_ 5 (i_or (S_.1 3 dd_ 5) (i_shl ((i_shr (S_.2.2.1 81 0 sy_.toNat) j_) % 2) (S_.1 1 0 9)))) 1 0 9 ((S_.1 1 0 9) + 1))) rfl ?_
      refine sm_T_wk [some (.inr (.inr (some (1, 0)))), some (.inl k_), some (.inl m_), some (.inl f_), some (.inl a_), some (.inl d_), some (.inl sy_), some (.inl (j_ + 1)), none] (by exact ⟨rfl, rfl, rfl, rfl, rfl, rfl, rfl, rfl, trivial⟩) ?_
      refine ih_ sy_ (j_ + 1) (sm_pI (sm_pI (sm_aI (sm_aI S_ 26 0 (vx10_ + j_).toNat (2 * (S_.1 3 dd_ 1) + 2 * (S_.1 1 0 9) + 2)) 46 (0 + dd_) (S_.1 1 0 9).toNat (2 * (S_.1 3 dd_ 1) + 2 * (S_.1 1 0 9) + 2)) 3 dd_ 5 (i_or (S_.1 3 dd_ 5) (i_shl ((i_shr (S_.2.2.1 81 0 sy_.toNat) j_) % 2) (S_.1 1 0 9)))) 1 0 9 ((S_.1 1 0 9) + 1)) hIx24_ hFx25_ ⟨?_, ?_, ?_, ?_, ?_, ?_, ?_, ?_, ?_, ?_, ?_, trivial⟩ ?_
      · exact hk_
      · omega
      · rw [show (j_ + 1).toNat = j_.toNat + 1 by omega, r_bt_s]
        refine rwv_ap (q_ := 8 * (40 * ff_ + aa_) + j_.toNat) h1_ (by rw [r_bt_l]) (fun j9_ => ?_)
        (try simp only [rd_eq, rd_ne, rf_eq, rf_nk, rf_nt, rd_fa, rd_af, rd_fl, rd_al, rd_lf, rd_la, rd_leq, rd_lne, rd_fr, rd_ar, ne_eq, Nat.reduceEqDiff, not_false_eq_true])
        rw [ec]
        by_cases q9_ : j9_ = 8 * (40 * ff_ + aa_) + j_.toNat
        · rw [if_pos q9_, if_pos q9_]; push_cast; omega
        · rw [if_neg q9_, if_neg q9_]
      · intro j9_ q_
        (try simp only [rd_eq, rd_ne, rf_eq, rf_nk, rf_nt, rd_fa, rd_af, rd_fl, rd_al, rd_lf, rd_la, rd_leq, rd_lne, rd_fr, rd_ar, ne_eq, Nat.reduceEqDiff, not_false_eq_true])
        rw [ec, if_neg (by omega)]
        exact h2_ j9_ q_
      · (try simp only [rd_eq, rd_ne, rf_eq, rf_nk, rf_nt, rd_fa, rd_af, rd_fl, rd_al, rd_lf, rd_la, rd_leq, rd_lne, rd_fr, rd_ar, ne_eq, Nat.reduceEqDiff, not_false_eq_true]); omega
      · (show S_.1 1 0 3 = _; exact h4_)
      · refine ⟨h5_.1, fun j9_ => ?_, fun j9_ => ?_, ?_⟩
        · (try simp only [rd_eq, rd_ne, rf_eq, rf_nk, rf_nt, rd_fa, rd_af, rd_fl, rd_al, rd_lf, rd_la, rd_leq, rd_lne, rd_fr, rd_ar, ne_eq, Nat.reduceEqDiff, not_false_eq_true]); exact h5_.2.1 j9_
        · (try simp only [rd_eq, rd_ne, rf_eq, rf_nk, rf_nt, rd_fa, rd_af, rd_fl, rd_al, rd_lf, rd_la, rd_leq, rd_lne, rd_fr, rd_ar, ne_eq, Nat.reduceEqDiff, not_false_eq_true]); exact h5_.2.2.1 j9_
        · (try simp only [rd_eq, rd_ne, rf_eq, rf_nk, rf_nt, rd_fa, rd_af, rd_fl, rd_al, rd_lf, rd_la, rd_leq, rd_lne, rd_fr, rd_ar, ne_eq, Nat.reduceEqDiff, not_false_eq_true]); exact h5d
      · exact cgl_fr (w_ := ([(1, 9), (3, 5)], [26, 46], [])) h6_ (ai_fr_tr (ai_fr_tr (ai_fr_tr (ai_fr_aI rfl) (ai_fr_aI rfl)) (ai_fr_pI rfl)) (ai_fr_pI rfl)) rfl rfl rfl rfl rfl rfl rfl rfl
      · refine ⟨?_, ?_⟩
        (try simp only [rd_eq, rd_ne, rf_eq, rf_nk, rf_nt, rd_fa, rd_af, rd_fl, rd_al, rd_lf, rd_la, rd_leq, rd_lne, rd_fr, rd_ar, ne_eq, Nat.reduceEqDiff, not_false_eq_true])
        rw [show (j_ + 1).toNat = j_.toNat + 1 by omega, ← Nat.add_assoc, show S_.1 1 0 9 = ((s_.1.2.1 + j_.toNat : Nat) : Int) by omega]
        exact bg_up h7_.1.1 h7_.1.2 (by omega) (by omega)
        intro k9_ hk9_
        have nn_ := cgl_n h6_ hok_
        have q7_ := h7_.2 k9_
        have rF_ : 1 + I_ + (s_.1.2.1 + (A_.2.2.2.1 (40 * mm_ + aa_)).toNat) ≤ F_ := by rw [er] at hRF_; exact hRF_
        (try simp only [rd_eq, rd_ne, rf_eq, rf_nk, rf_nt, rd_fa, rd_af, rd_fl, rd_al, rd_lf, rd_la, rd_leq, rd_lne, rd_fr, rd_ar, ne_eq, Nat.reduceEqDiff, not_false_eq_true])
        by_cases q9_ : k9_ = (S_.1 1 0 9).toNat
        · rw [if_pos q9_, nn_]; push_cast; omega
        · rw [if_neg q9_]; exact q7_ (by omega)
      · have r9_ : (S_.1 1 0 9) = ((s_.1.2.1 + j_.toNat : Nat) : Int) := by omega
        have d9_ := h8_.1
        refine ⟨?_, fun i9_ hi9_ => ?_⟩
        · rw [show (j_ + 1).toNat = j_.toNat + 1 by omega]; show _ = bho (A_.2.2.2.2 (40 * mm_ + aa_)) s_.1.2.1 (j_.toNat + 1) x0_.2; rw [bho_s, show ((j_.toNat : Nat) : Int) = j_ by omega]; have d8_ : S_.1 3 dd_ 5 = bho (A_.2.2.2.2 (40 * mm_ + aa_)) s_.1.2.1 j_.toNat x0_.2 := d9_; (try simp only [rd_eq, rd_ne, rf_eq, rf_nk, rf_nt, rd_fa, rd_af, rd_fl, rd_al, rd_lf, rd_la, rd_leq, rd_lne, rd_fr, rd_ar, ne_eq, Nat.reduceEqDiff, not_false_eq_true]); rw [r9_, w81_, d8_]
        · have q8_ := h8_.2 i9_; show _ = nho I_ s_.1.2.1 (j_ + 1).toNat x0_.1 i9_; rw [show (j_ + 1).toNat = j_.toNat + 1 by omega]; (try simp only [rd_eq, rd_ne, rf_eq, rf_nk, rf_nt, rd_fa, rd_af, rd_fl, rd_al, rd_lf, rd_la, rd_leq, rd_lne, rd_fr, rd_ar, ne_eq, Nat.reduceEqDiff, not_false_eq_true]); by_cases q9_ : i9_ = (S_.1 1 0 9).toNat; (rw [if_pos q9_]; unfold nho; rw [if_pos (by omega)]; push_cast; omega); (rw [if_neg q9_]; refine (q8_ (by omega)).trans ?_; show nho I_ s_.1.2.1 j_.toNat x0_.1 i9_ = _; unfold nho; by_cases q7_ : s_.1.2.1 ≤ i9_ ∧ i9_ < s_.1.2.1 + j_.toNat; (rw [if_pos q7_, if_pos (by omega)]); (rw [if_neg q7_, if_neg (by omega)]))
      · exact hDx26_
      · omega
set_option maxHeartbeats 2000000 in
set_option maxRecDepth 20000 in
theorem vc_38n {sc_ : Nat × (Nat → Int)} (k_ : Int) (m_ : Int) (f_ : Int) (a_ : Int) (d_ : Int) (tb_ : Nat → Int) (tn_ : Nat) (A_ : pA) (mm_ : Nat) (ff_ : Nat) (aa_ : Nat) (dd_ : Nat) (F_ : Nat) (I_ : Nat) (s_ : gS) (r_ : gS) (fc0_ : Nat) (x0_ : gN) (S0_ : sm_S) (hI_ : gi S0_) (hI0_ : gi S0_) (hd_ : S0_.2.1 1 0 1 = some dd_) (hk0_ : 12 ≤ k_ ∧ k_ ≤ 16) (hd0_ : 0 ≤ d_ ∧ d_ ≤ 1048576) (hm1_ : m_ = (mm_ : Int) ∧ mm_ ≤ 15) (hf1_ : f_ = (ff_ : Int)) (ha1_ : a_ = (aa_ : Int) ∧ aa_ ≤ 63) (her_ : ∀ k9_, k9_ ≤ mm_ → er1 tb_ tn_ A_ k9_ S0_) (hA_ : a_ok tb_ tn_ A_ mm_) (hx_ : cxs dd_ F_ I_ ff_ fc0_ s_ S0_) (hok_ : s_.1.1.length ≤ 1000) (he_ : e_st I_ A_ mm_ k_ aa_ d_ s_ = some r_) (hlw_ : lwS F_ s_) (hRF_ : 1 + I_ + r_.1.2.1 ≤ F_) (hn_ : cxn dd_ s_.1.2.1 x0_ S0_) : sm_T (mt_P sc_) 1 38 (0, [some (.inr (.inr (some (1, 0)))), some (.inl k_), some (.inl m_), some (.inl f_), some (.inl a_), some (.inl d_), none, none, none], [], S0_) (fun ro9_ => ∃ u_ S1_, ro9_ = (.inl u_, S1_, 0) ∧ vq_38n k_ m_ f_ a_ d_ tb_ tn_ A_ mm_ ff_ aa_ dd_ F_ I_ s_ r_ fc0_ x0_ S0_ u_ S1_) := by
  have hF_ : ai_fr (sx_W vw_38n) S0_ S0_ := ai_fr_rf
  have hD_ : idf dd_ S0_ S0_ := idf_rf
  obtain ⟨x1_, x2_, x3_, x4_, x5_, x6_, x7_, x8_, x9_⟩ := id hx_
  have x9a := x9_.1
  have cb_ := cgl_b x1_
  have c12_ : 0 ≤ S0_.1 3 dd_ 1 ∧ 0 ≤ S0_.1 3 dd_ 2 := ⟨(hI0_.1 3 dd_ 1 rfl).1, (hI0_.1 3 dd_ 2 rfl).1⟩
  have A40_ := (hA_.2 mm_ (Nat.le_refl _)).1
  have tp9_ := x8_.1
  have tq9_ : S0_.1 1 0 6 ≤ 512 := (hI0_.1 1 0 6 rfl).2
  refine sm_T_go 2 (c1 := (3, [some (.inr (.inr (some (1, 0)))), some (.inl k_), some (.inl m_), some (.inl f_), some (.inl a_), some (.inl d_), none, none, none], [.inl 40, .inl m_], S0_)) rfl ?_
  refine sm_T_bin (w := 40 * m_) rfl (bi_mul (by omega) (by omega) (by omega)) ?_
  refine sm_T_go 1 (c1 := (6, [some (.inr (.inr (some (1, 0)))), some (.inl k_), some (.inl m_), some (.inl f_), some (.inl a_), some (.inl d_), none, none, none], [.inl a_, .inl (40 * m_)], S0_)) rfl ?_
  refine sm_T_bin (w := 40 * m_ + a_) rfl (bi_add (by omega) (by omega) (by omega)) ?_
  refine sm_T_go 3 (c1 := (12, [some (.inr (.inr (some (1, 0)))), some (.inl k_), some (.inl m_), some (.inl f_), some (.inl a_), some (.inl d_), some (.inl (40 * m_ + a_)), none, none], [.inl 15, .inl k_], S0_)) rfl ?_
  refine sm_T_br (a := 1) (z := 29) rfl (fun cx1_ => ?_) (fun cx1_ => ?_)
  · have cx1_ : k_ ≠ 15 := of_decide_eq_true cx1_
    refine sm_T_go 2 (c1 := (44, [some (.inr (.inr (some (1, 0)))), some (.inl k_), some (.inl m_), some (.inl f_), some (.inl a_), some (.inl d_), some (.inl (40 * m_ + a_)), none, none], [.inl 13, .inl k_], S0_)) rfl ?_
    refine sm_T_br (a := 1) (z := 118) rfl (fun cx2_ => ?_) (fun cx2_ => ?_)
    · have cx2_ : k_ ≠ 13 := of_decide_eq_true cx2_
      obtain ⟨aM_, x_, l_, hsV_, hcs_⟩ := e_stp he_ (by omega) (by omega)
      rw [hsV_] at x8_
      have hxl_ : lwl (F_ + s_.1.1.length) x_ := by have q9_ := hlw_.2.2.2; rw [hsV_] at q9_; exact (lwV_c.mp q9_).1
      have x8b : x_.length ≤ 8 := x8_.2.2.1.2
      have tp_ : S0_.1 1 0 6 = (l_.length : Int) + 1 := by rw [x8_.1]; simp only [List.length_cons]; push_cast; omega
      have bx3_ : 0 ≤ S0_.1 1 0 6 ∧ S0_.1 1 0 6 ≤ 512 := hI_.1 1 0 6 rfl
      refine sm_T_go 4 (c1 := (168, [some (.inr (.inr (some (1, 0)))), some (.inl k_), some (.inl m_), some (.inl f_), some (.inl a_), some (.inl d_), some (.inl (40 * m_ + a_)), none, none], [.inl 1, .inl (S0_.1 1 0 6), .inr (.inr (some (1, 0)))], S0_)) rfl ?_
      refine sm_T_bin (w := (S0_.1 1 0 6) - 1) rfl (bi_sub (by omega) (by omega) (by omega)) ?_
      have hIx4_ : gi (sm_pI S0_ 1 0 6 ((S0_.1 1 0 6) - 1)) := gi_pI hI_ (show 0 ≤ (S0_.1 1 0 6) - 1 ∧ (S0_.1 1 0 6) - 1 ≤ 512 from ⟨by omega, by omega⟩)
      have hFx5_ : ai_fr (sx_W vw_38n) S0_ (sm_pI S0_ 1 0 6 ((S0_.1 1 0 6) - 1)) := ai_fr_tr hF_ (ai_fr_pI rfl)
      have hDx6_ : idf dd_ S0_ (sm_pI S0_ 1 0 6 ((S0_.1 1 0 6) - 1)) := idf_pI hD_ (Or.inl (by decide))
      refine sm_T_go 3 (c1 := (175, [some (.inr (.inr (some (1, 0)))), some (.inl k_), some (.inl m_), some (.inl f_), some (.inl a_), some (.inl d_), some (.inl (40 * m_ + a_)), none, none], [.inl 14, .inl k_], sm_pI S0_ 1 0 6 ((S0_.1 1 0 6) - 1))) rfl ?_
      refine sm_T_br (a := 1) (z := 63) rfl (fun cx7_ => ?_) (fun cx7_ => ?_)
      · have cx7_ : k_ ≠ 14 := of_decide_eq_true cx7_
        refine sm_T_go 2 (c1 := (241, [some (.inr (.inr (some (1, 0)))), some (.inl k_), some (.inl m_), some (.inl f_), some (.inl a_), some (.inl d_), some (.inl (40 * m_ + a_)), none, none], [.inl 12, .inl k_], sm_pI S0_ 1 0 6 ((S0_.1 1 0 6) - 1))) rfl ?_
        refine sm_T_br (a := 1) (z := 12) rfl (fun cx8_ => ?_) (fun cx8_ => ?_)
        · have cx8_ : k_ ≠ 12 := of_decide_eq_true cx8_
          obtain ⟨hk_, o_, hO_, d40_, xl_, er⟩ : k_ = 16 ∧ ∃ o_, s_.2.2.1 aa_ = some o_ ∧ (0 ≤ d_ ∧ d_ < 40) ∧ x_.length ≤ 8 ∧ r_ = (s_.1, s_.2.1, up1 s_.2.2.1 aa_ (some (up1 o_ d_.toNat x_)), l_) := by rcases hcs_ with q_ | q_ | q_; (exact absurd q_.1 (by omega)); (exact absurd q_.1 (by omega)); (exact q_)
          obtain ⟨xE_, P_, xP_⟩ := id x7_
          have yP_ := xP_ aa_ (by omega) o_ hO_
          have y2_ := yP_.2.1
          have pt_ : S0_.2.2.1 26 0 (8 * (40 * f_ + a_)).toNat = (P_ aa_ : Int) := by rw [show (8 * (40 * f_ + a_)).toNat = 8 * (40 * ff_ + aa_) by omega]; exact yP_.1
          refine sm_T_go 4 (c1 := (260, [some (.inr (.inr (some (1, 0)))), some (.inl k_), some (.inl m_), some (.inl f_), some (.inl a_), some (.inl d_), some (.inl (40 * m_ + a_)), none, none], [.inl a_, .inl f_, .inr (.inr (some (26, 0)))], sm_pI S0_ 1 0 6 ((S0_.1 1 0 6) - 1))) rfl ?_
          refine sm_T_cal (d1 := 0) (Q1 := vq_35 f_ a_ (sm_pI S0_ 1 0 6 ((S0_.1 1 0 6) - 1))) rfl rfl (by decide) (vc_35 f_ a_ (sm_pI S0_ 1 0 6 ((S0_.1 1 0 6) - 1)) hIx4_ (by omega) (by omega)) (fun u_ Sx9_ px12_ => ?_)
          obtain ⟨rfl, vx14_, rfl, px12_⟩ := px12_
          have e260_ := px12_
          have pt2_ : S0_.2.2.1 26 0 vx14_.toNat = (P_ aa_ : Int) := by rw [e260_]; exact pt_
          refine sm_T_iald (n := 64320) rfl rfl (by omega) (by omega) ?_
          have bx15_ : 0 ≤ S0_.2.2.1 26 0 vx14_.toNat ∧ S0_.2.2.1 26 0 vx14_.toNat ≤ 2025 := hI_.2 26 0 _
          refine sm_T_go 1 (c1 := (266, [some (.inr (.inr (some (1, 0)))), some (.inl k_), some (.inl m_), some (.inl f_), some (.inl a_), some (.inl d_), some (.inl (40 * m_ + a_)), none, none], [.inl d_, .inl (S0_.2.2.1 26 0 vx14_.toNat)], sm_pI S0_ 1 0 6 ((S0_.1 1 0 6) - 1))) rfl ?_
          refine sm_T_cal (d1 := 0) (Q1 := vq_35 (S0_.2.2.1 26 0 vx14_.toNat) d_ (sm_pI S0_ 1 0 6 ((S0_.1 1 0 6) - 1))) rfl rfl (by decide) (vc_35 (S0_.2.2.1 26 0 vx14_.toNat) d_ (sm_pI S0_ 1 0 6 ((S0_.1 1 0 6) - 1)) hIx4_ (by omega) (by omega)) (fun u_ Sx16_ px19_ => ?_)
          obtain ⟨rfl, vx21_, rfl, px19_⟩ := px19_
          have e266_ := px19_
          have ec : vx21_.toNat = 8 * (40 * P_ aa_ + d_.toNat) := by rw [e266_, pt2_]; omega
          refine sm_T_go 6 (c1 := (281, [some (.inr (.inr (some (1, 0)))), some (.inl k_), some (.inl m_), some (.inl f_), some (.inl a_), some (.inl d_), some (.inl (40 * m_ + a_)), some (.inl vx21_), none], [.inl 8, .inl ((S0_.1 1 0 6) - 1), .inr (.inr (some (27, 0)))], sm_pI S0_ 1 0 6 ((S0_.1 1 0 6) - 1))) rfl ?_
          refine sm_T_bin (w := 8 * (S0_.1 1 0 6) - 8) rfl (bi_mul (by omega) (by omega) (by omega)) ?_
          refine sm_T_go 4 (c1 := (290, [some (.inr (.inr (some (1, 0)))), some (.inl k_), some (.inl m_), some (.inl f_), some (.inl a_), some (.inl d_), some (.inl (40 * m_ + a_)), some (.inl vx21_), none], [.inl 8, .inl vx21_, .inr (.inr (some (26, 0))), .inl (8 * (S0_.1 1 0 6) - 8), .inr (.inr (some (27, 0)))], sm_pI S0_ 1 0 6 ((S0_.1 1 0 6) - 1))) rfl ?_
          refine sm_T_nt (u := none) (S1 := sm_acI (sm_pI S0_ 1 0 6 ((S0_.1 1 0 6) - 1)) 27 0 26 0 (8 * (S0_.1 1 0 6) - 8).toNat vx21_.toNat (8 : Int).toNat) rfl rfl (nt_acI (sc := sc_) (t := 27) (i := 0) (t' := 26) (i' := 0) (x := 8 * (S0_.1 1 0 6) - 8) (y := vx21_) (m := 8) (n := 4096) (n1 := 64320) rfl rfl (by omega) (by omega) (by omega) (by omega) (by omega)) ?_
          have hIx22_ : gi (sm_acI (sm_pI S0_ 1 0 6 ((S0_.1 1 0 6) - 1)) 27 0 26 0 (8 * (S0_.1 1 0 6) - 8).toNat vx21_.toNat (8 : Int).toNat) := gi_ac hIx4_ (by decide) (by decide)
          have hFx23_ : ai_fr (sx_W vw_38n) S0_ (sm_acI (sm_pI S0_ 1 0 6 ((S0_.1 1 0 6) - 1)) 27 0 26 0 (8 * (S0_.1 1 0 6) - 8).toNat vx21_.toNat (8 : Int).toNat) := ai_fr_tr hFx5_ (fr_ac rfl)
          have hDx24_ : idf dd_ S0_ (sm_acI (sm_pI S0_ 1 0 6 ((S0_.1 1 0 6) - 1)) 27 0 26 0 (8 * (S0_.1 1 0 6) - 8).toNat vx21_.toNat (8 : Int).toNat) := idf_ac hDx6_ (Or.inl (by decide))
          refine sm_T_rv rfl ⟨_, _, rfl, rfl, hIx22_, hFx23_, ?_⟩
          refine ⟨hDx24_, ?_⟩
          rw [er]
          first | (have f26_ : ((sm_acI (sm_pI S0_ 1 0 6 ((S0_.1 1 0 6) - 1)) 27 0 26 0 (8 * (S0_.1 1 0 6) - 8).toNat vx21_.toNat (8 : Int).toNat)).2.2.1 26 0 = sm_cp (S0_.2.2.1 27 0) (S0_.2.2.1 26 0) (8 * l_.length) (8 * (40 * ff_ + aa_)) 8 := (by rw [← ec, show 8 * l_.length = (8 * S0_.1 1 0 6 - 8).toNat by omega]; exact sm_acI_at); have hl1_ : rwv (S0_.2.2.1 27 0) (8 * l_.length) x_ := x8_.2.2.2.1 hok_; refine ⟨⟨cgl_fr (w_ := ([(1, 6)], [26], [])) x1_ (ai_fr_tr (ai_fr_pI rfl) (fr_ac rfl)) rfl rfl rfl rfl rfl rfl rfl rfl, x2_, x3_, x4_, x5_, x6_, cfr_st x7_ x5_ (by omega) hO_ xl_ (by rw [f26_]; exact rwv_cp hl1_ xl_) (fun j_ q1_ => by rw [f26_, sm_cp_o q1_]), ⟨by show S0_.1 1 0 6 - 1 = (l_.length : Int); omega, svl_pop x8_.2 (fun j_ => congrFun (sm_acI_ne (by omega)) j_) (fun j_ => congrFun (sm_acI_ne (by omega)) j_)⟩, cxe_fr (w_ := ([(1, 6)], [26], [])) x9_ (ai_fr_tr (ai_fr_pI rfl) (fr_ac rfl)) rfl rfl rfl rfl⟩, fun j_ q1_ q2_ => by rw [f26_, sm_cp_o (by omega)], by (rw [hk_, nst_o (by decide) (by decide)]; exact cxn_fr (w_ := ([(1, 6)], [26], [])) hn_ (ai_fr_tr (ai_fr_pI rfl) (fr_ac rfl)))⟩) | (have f26_ : ((sm_acI (sm_pI S0_ 1 0 6 ((S0_.1 1 0 6) - 1)) 27 0 26 0 (8 * (S0_.1 1 0 6) - 8).toNat vx21_.toNat (8 : Int).toNat)).2.2.1 26 0 = sm_cp (S0_.2.2.1 27 0) (S0_.2.2.1 26 0) (8 * l_.length) (8 * (40 * P_ aa_ + d_.toNat)) 8 := (by rw [← ec, show 8 * l_.length = (8 * S0_.1 1 0 6 - 8).toNat by omega]; exact sm_acI_at); have hl1_ : rwv (S0_.2.2.1 27 0) (8 * l_.length) x_ := x8_.2.2.2.1 hok_; refine ⟨⟨cgl_fr (w_ := ([(1, 6)], [26], [])) x1_ (ai_fr_tr (ai_fr_pI rfl) (fr_ac rfl)) rfl rfl rfl rfl rfl rfl rfl rfl, x2_, x3_, x4_, x5_, x6_, cfr_ag (p_ := P_ aa_) x7_ x5_ (by omega) hO_ (by omega) xl_ yP_.1 (by rw [f26_]; exact rwv_cp hl1_ xl_) (fun j_ q1_ => by rw [f26_, sm_cp_o q1_]), ⟨by show S0_.1 1 0 6 - 1 = (l_.length : Int); omega, svl_pop x8_.2 (fun j_ => congrFun (sm_acI_ne (by omega)) j_) (fun j_ => congrFun (sm_acI_ne (by omega)) j_)⟩, cxe_fr (w_ := ([(1, 6)], [26], [])) x9_ (ai_fr_tr (ai_fr_pI rfl) (fr_ac rfl)) rfl rfl rfl rfl⟩, fun j_ q1_ q2_ => by rw [f26_, sm_cp_o (by omega)], by (rw [hk_, nst_o (by decide) (by decide)]; exact cxn_fr (w_ := ([(1, 6)], [26], [])) hn_ (ai_fr_tr (ai_fr_pI rfl) (fr_ac rfl)))⟩) | (have f26_ : ∀ j_, ((sm_acI (sm_pI S0_ 1 0 6 ((S0_.1 1 0 6) - 1)) 27 0 26 0 (8 * (S0_.1 1 0 6) - 8).toNat vx21_.toNat (8 : Int).toNat)).2.2.1 26 0 j_ = S0_.2.2.1 26 0 j_ := (fun j_ => congrFun (sm_acI_ne (by omega)) j_); exact ⟨⟨cgl_fr (w_ := ([(1, 6)], [46], [])) x1_ (ai_fr_tr (ai_fr_pI rfl) (fr_ac rfl)) rfl rfl rfl rfl rfl rfl rfl rfl, x2_, x3_, x4_, x5_, x6_, cfr_cg x7_ f26_, ⟨by show S0_.1 1 0 6 - 1 = (l_.length : Int); omega, svl_pop x8_.2 (fun j_ => congrFun (sm_acI_ne (by omega)) j_) (fun j_ => congrFun (sm_acI_ne (by omega)) j_)⟩, ⟨x9_.1, x9_.2.1, nxb_cp x9_.2.2 rfl sm_acI_at (x_ := x_) (by rw [show (8 * S0_.1 1 0 6 - 8).toNat = 8 * l_.length by omega]; exact x8_.2.2.2.1 hok_) (by omega) (fun z9_ hz9_ => by have q9_ := hxl_ z9_ hz9_; unfold lz at q9_; rw [cgl_n x1_ hok_]; exact q9_)⟩⟩, fun j_ q1_ q2_ => f26_ j_, by (rw [hk_, nst_n hsV_ hz_]; exact cxn_cp hn_ rfl (by rw [fq9_]; exact sm_acI_at) (by rw [show (8 * S0_.1 1 0 6 - 8).toNat = 8 * l_.length by omega]; exact x8_.2.2.2.1 hok_) (by omega))⟩)
        · have cx8_ : ¬ (k_ ≠ 12) := of_decide_eq_false cx8_
          have hk_ : k_ = 12 := by omega
          obtain ⟨hO_, xl_, er⟩ : s_.2.2.1 aa_ = none ∧ x_.length ≤ 8 ∧ r_ = (s_.1, up1 s_.2.1 aa_ x_, s_.2.2.1, l_) := by rcases hcs_ with q_ | q_ | q_; (exact q_.2); (exact absurd q_.1 (by omega)); (exact absurd q_.1 (by omega))
          refine sm_T_go 2 (c1 := (247, [some (.inr (.inr (some (1, 0)))), some (.inl k_), some (.inl m_), some (.inl f_), some (.inl a_), some (.inl d_), some (.inl (40 * m_ + a_)), none, none], [.inl a_, .inl f_], sm_pI S0_ 1 0 6 ((S0_.1 1 0 6) - 1))) rfl ?_
          refine sm_T_cal (d1 := 0) (Q1 := vq_35 f_ a_ (sm_pI S0_ 1 0 6 ((S0_.1 1 0 6) - 1))) rfl rfl (by decide) (vc_35 f_ a_ (sm_pI S0_ 1 0 6 ((S0_.1 1 0 6) - 1)) hIx4_ (by omega) (by omega)) (fun u_ Sx25_ px28_ => ?_)
          obtain ⟨rfl, vx30_, rfl, px28_⟩ := px28_
          have e247_ := px28_
          have ec : vx30_.toNat = 8 * (40 * ff_ + aa_) := by omega
          refine sm_T_go 7 (c1 := (281, [some (.inr (.inr (some (1, 0)))), some (.inl k_), some (.inl m_), some (.inl f_), some (.inl a_), some (.inl d_), some (.inl (40 * m_ + a_)), some (.inl vx30_), none], [.inl 8, .inl ((S0_.1 1 0 6) - 1), .inr (.inr (some (27, 0)))], sm_pI S0_ 1 0 6 ((S0_.1 1 0 6) - 1))) rfl ?_
          refine sm_T_bin (w := 8 * (S0_.1 1 0 6) - 8) rfl (bi_mul (by omega) (by omega) (by omega)) ?_
          refine sm_T_go 4 (c1 := (290, [some (.inr (.inr (some (1, 0)))), some (.inl k_), some (.inl m_), some (.inl f_), some (.inl a_), some (.inl d_), some (.inl (40 * m_ + a_)), some (.inl vx30_), none], [.inl 8, .inl vx30_, .inr (.inr (some (26, 0))), .inl (8 * (S0_.1 1 0 6) - 8), .inr (.inr (some (27, 0)))], sm_pI S0_ 1 0 6 ((S0_.1 1 0 6) - 1))) rfl ?_
          refine sm_T_nt (u := none) (S1 := sm_acI (sm_pI S0_ 1 0 6 ((S0_.1 1 0 6) - 1)) 27 0 26 0 (8 * (S0_.1 1 0 6) - 8).toNat vx30_.toNat (8 : Int).toNat) rfl rfl (nt_acI (sc := sc_) (t := 27) (i := 0) (t' := 26) (i' := 0) (x := 8 * (S0_.1 1 0 6) - 8) (y := vx30_) (m := 8) (n := 4096) (n1 := 64320) rfl rfl (by omega) (by omega) (by omega) (by omega) (by omega)) ?_
          have hIx31_ : gi (sm_acI (sm_pI S0_ 1 0 6 ((S0_.1 1 0 6) - 1)) 27 0 26 0 (8 * (S0_.1 1 0 6) - 8).toNat vx30_.toNat (8 : Int).toNat) := gi_ac hIx4_ (by decide) (by decide)
          have hFx32_ : ai_fr (sx_W vw_38n) S0_ (sm_acI (sm_pI S0_ 1 0 6 ((S0_.1 1 0 6) - 1)) 27 0 26 0 (8 * (S0_.1 1 0 6) - 8).toNat vx30_.toNat (8 : Int).toNat) := ai_fr_tr hFx5_ (fr_ac rfl)
          have hDx33_ : idf dd_ S0_ (sm_acI (sm_pI S0_ 1 0 6 ((S0_.1 1 0 6) - 1)) 27 0 26 0 (8 * (S0_.1 1 0 6) - 8).toNat vx30_.toNat (8 : Int).toNat) := idf_ac hDx6_ (Or.inl (by decide))
          refine sm_T_rv rfl ⟨_, _, rfl, rfl, hIx31_, hFx32_, ?_⟩
          refine ⟨hDx33_, ?_⟩
          rw [er]
          first | (have f26_ : ((sm_acI (sm_pI S0_ 1 0 6 ((S0_.1 1 0 6) - 1)) 27 0 26 0 (8 * (S0_.1 1 0 6) - 8).toNat vx30_.toNat (8 : Int).toNat)).2.2.1 26 0 = sm_cp (S0_.2.2.1 27 0) (S0_.2.2.1 26 0) (8 * l_.length) (8 * (40 * ff_ + aa_)) 8 := (by rw [← ec, show 8 * l_.length = (8 * S0_.1 1 0 6 - 8).toNat by omega]; exact sm_acI_at); have hl1_ : rwv (S0_.2.2.1 27 0) (8 * l_.length) x_ := x8_.2.2.2.1 hok_; refine ⟨⟨cgl_fr (w_ := ([(1, 6)], [26], [])) x1_ (ai_fr_tr (ai_fr_pI rfl) (fr_ac rfl)) rfl rfl rfl rfl rfl rfl rfl rfl, x2_, x3_, x4_, x5_, x6_, cfr_st x7_ x5_ (by omega) hO_ xl_ (by rw [f26_]; exact rwv_cp hl1_ xl_) (fun j_ q1_ => by rw [f26_, sm_cp_o q1_]), ⟨by show S0_.1 1 0 6 - 1 = (l_.length : Int); omega, svl_pop x8_.2 (fun j_ => congrFun (sm_acI_ne (by omega)) j_) (fun j_ => congrFun (sm_acI_ne (by omega)) j_)⟩, cxe_fr (w_ := ([(1, 6)], [26], [])) x9_ (ai_fr_tr (ai_fr_pI rfl) (fr_ac rfl)) rfl rfl rfl rfl⟩, fun j_ q1_ q2_ => by rw [f26_, sm_cp_o (by omega)], by (rw [hk_, nst_o (by decide) (by decide)]; exact cxn_fr (w_ := ([(1, 6)], [26], [])) hn_ (ai_fr_tr (ai_fr_pI rfl) (fr_ac rfl)))⟩) | (have f26_ : ((sm_acI (sm_pI S0_ 1 0 6 ((S0_.1 1 0 6) - 1)) 27 0 26 0 (8 * (S0_.1 1 0 6) - 8).toNat vx30_.toNat (8 : Int).toNat)).2.2.1 26 0 = sm_cp (S0_.2.2.1 27 0) (S0_.2.2.1 26 0) (8 * l_.length) (8 * (40 * P_ aa_ + d_.toNat)) 8 := (by rw [← ec, show 8 * l_.length = (8 * S0_.1 1 0 6 - 8).toNat by omega]; exact sm_acI_at); have hl1_ : rwv (S0_.2.2.1 27 0) (8 * l_.length) x_ := x8_.2.2.2.1 hok_; refine ⟨⟨cgl_fr (w_ := ([(1, 6)], [26], [])) x1_ (ai_fr_tr (ai_fr_pI rfl) (fr_ac rfl)) rfl rfl rfl rfl rfl rfl rfl rfl, x2_, x3_, x4_, x5_, x6_, cfr_ag (p_ := P_ aa_) x7_ x5_ (by omega) hO_ (by omega) xl_ yP_.1 (by rw [f26_]; exact rwv_cp hl1_ xl_) (fun j_ q1_ => by rw [f26_, sm_cp_o q1_]), ⟨by show S0_.1 1 0 6 - 1 = (l_.length : Int); omega, svl_pop x8_.2 (fun j_ => congrFun (sm_acI_ne (by omega)) j_) (fun j_ => congrFun (sm_acI_ne (by omega)) j_)⟩, cxe_fr (w_ := ([(1, 6)], [26], [])) x9_ (ai_fr_tr (ai_fr_pI rfl) (fr_ac rfl)) rfl rfl rfl rfl⟩, fun j_ q1_ q2_ => by rw [f26_, sm_cp_o (by omega)], by (rw [hk_, nst_o (by decide) (by decide)]; exact cxn_fr (w_ := ([(1, 6)], [26], [])) hn_ (ai_fr_tr (ai_fr_pI rfl) (fr_ac rfl)))⟩) | (have f26_ : ∀ j_, ((sm_acI (sm_pI S0_ 1 0 6 ((S0_.1 1 0 6) - 1)) 27 0 26 0 (8 * (S0_.1 1 0 6) - 8).toNat vx30_.toNat (8 : Int).toNat)).2.2.1 26 0 j_ = S0_.2.2.1 26 0 j_ := (fun j_ => congrFun (sm_acI_ne (by omega)) j_); exact ⟨⟨cgl_fr (w_ := ([(1, 6)], [46], [])) x1_ (ai_fr_tr (ai_fr_pI rfl) (fr_ac rfl)) rfl rfl rfl rfl rfl rfl rfl rfl, x2_, x3_, x4_, x5_, x6_, cfr_cg x7_ f26_, ⟨by show S0_.1 1 0 6 - 1 = (l_.length : Int); omega, svl_pop x8_.2 (fun j_ => congrFun (sm_acI_ne (by omega)) j_) (fun j_ => congrFun (sm_acI_ne (by omega)) j_)⟩, ⟨x9_.1, x9_.2.1, nxb_cp x9_.2.2 rfl sm_acI_at (x_ := x_) (by rw [show (8 * S0_.1 1 0 6 - 8).toNat = 8 * l_.length by omega]; exact x8_.2.2.2.1 hok_) (by omega) (fun z9_ hz9_ => by have q9_ := hxl_ z9_ hz9_; unfold lz at q9_; rw [cgl_n x1_ hok_]; exact q9_)⟩⟩, fun j_ q1_ q2_ => f26_ j_, by (rw [hk_, nst_n hsV_ hz_]; exact cxn_cp hn_ rfl (by rw [fq9_]; exact sm_acI_at) (by rw [show (8 * S0_.1 1 0 6 - 8).toNat = 8 * l_.length by omega]; exact x8_.2.2.2.1 hok_) (by omega))⟩)
      · have cx7_ : ¬ (k_ ≠ 14) := of_decide_eq_false cx7_
        have hk_ : k_ = 14 := by omega
        obtain ⟨z_, y_, hz_, z1_, z2_, er⟩ : ∃ z_ y_, s_.2.1 aa_ = z_ :: y_ ∧ 2 * (1 + (I_ : Int)) ≤ z_ ∧ z_ / 2 - 1 - I_ + x_.length ≤ 6 ∧ r_ = (s_.1, s_.2.1, s_.2.2.1, l_) := by rcases hcs_ with q_ | q_ | q_; (exact absurd q_.1 (by omega)); (exact q_.2); (exact absurd q_.1 (by omega))
        have pz_ : S0_.2.2.1 26 0 (8 * (40 * f_ + a_)).toNat = z_ := by rw [show (8 * (40 * f_ + a_)).toNat = 8 * (40 * ff_ + aa_) + 0 by omega]; exact (x7_.1 aa_ (by omega)).1 0 z_ (by rw [hz_]; rfl)
        have wt : S0_.2.2.1 28 0 (S0_.1 1 0 6 - 1).toNat = (x_.length : Int) := by rw [show (S0_.1 1 0 6 - 1).toNat = l_.length by omega]; exact x8_.2.1
        refine sm_T_go 4 (c1 := (185, [some (.inr (.inr (some (1, 0)))), some (.inl k_), some (.inl m_), some (.inl f_), some (.inl a_), some (.inl d_), some (.inl (40 * m_ + a_)), none, none], [.inl a_, .inl f_, .inr (.inr (some (26, 0)))], sm_pI S0_ 1 0 6 ((S0_.1 1 0 6) - 1))) rfl ?_
        refine sm_T_cal (d1 := 0) (Q1 := vq_35 f_ a_ (sm_pI S0_ 1 0 6 ((S0_.1 1 0 6) - 1))) rfl rfl (by decide) (vc_35 f_ a_ (sm_pI S0_ 1 0 6 ((S0_.1 1 0 6) - 1)) hIx4_ (by omega) (by omega)) (fun u_ Sx34_ px37_ => ?_)
        obtain ⟨rfl, vx39_, rfl, px37_⟩ := px37_
        have e185_ := px37_
        have pz2_ : S0_.2.2.1 26 0 vx39_.toNat = z_ := by rw [e185_]; exact pz_
        have fq9_ : (z_ / 2 - 1 - I_).toNat = (S0_.2.2.1 26 0 vx39_.toNat / 2 - S0_.1 3 dd_ 1 - 1).toNat := by rw [pz2_]; omega
        refine sm_T_iald (n := 64320) rfl rfl (by omega) (by omega) ?_
        have bx40_ : 0 ≤ S0_.2.2.1 26 0 vx39_.toNat ∧ S0_.2.2.1 26 0 vx39_.toNat ≤ 2025 := hI_.2 26 0 _
        refine sm_T_go 1 (c1 := (190, [some (.inr (.inr (some (1, 0)))), some (.inl k_), some (.inl m_), some (.inl f_), some (.inl a_), some (.inl d_), some (.inl (40 * m_ + a_)), none, none], [.inl 1, .inl (S0_.2.2.1 26 0 vx39_.toNat)], sm_pI S0_ 1 0 6 ((S0_.1 1 0 6) - 1))) rfl ?_
        refine sm_T_bin (w := ((S0_.2.2.1 26 0 vx39_.toNat) / 2)) rfl (bi_shr (k := 1) (by decide) (by omega) (by omega)) ?_
        refine sm_T_go 1 (c1 := (192, [some (.inr (.inr (some (1, 0)))), some (.inl k_), some (.inl m_), some (.inl f_), some (.inl a_), some (.inl d_), some (.inl (40 * m_ + a_)), none, none], [.inl 1, .inl ((S0_.2.2.1 26 0 vx39_.toNat) / 2)], sm_pI S0_ 1 0 6 ((S0_.1 1 0 6) - 1))) rfl ?_
        refine sm_T_bin (w := ((S0_.2.2.1 26 0 vx39_.toNat) / 2) - 1) rfl (bi_sub (by omega) (by omega) (by omega)) ?_
        refine sm_T_go 1 (c1 := (194, [some (.inr (.inr (some (1, 0)))), some (.inl k_), some (.inl m_), some (.inl f_), some (.inl a_), some (.inl d_), some (.inl (40 * m_ + a_)), none, none], [.inr (.inr (some (1, 0))), .inl (((S0_.2.2.1 26 0 vx39_.toNat) / 2) - 1)], sm_pI S0_ 1 0 6 ((S0_.1 1 0 6) - 1))) rfl ?_
        refine sm_T_gr rfl rfl ((hFx5_.2.1 1 0 1 rfl).trans hd_) ?_
        have bx41_ : 0 ≤ S0_.1 3 dd_ 1 ∧ S0_.1 3 dd_ 1 ≤ 320 := hI_.1 3 dd_ 1 rfl
        refine sm_T_go 1 (c1 := (200, [some (.inr (.inr (some (1, 0)))), some (.inl k_), some (.inl m_), some (.inl f_), some (.inl a_), some (.inl d_), some (.inl (40 * m_ + a_)), none, none], [.inl (S0_.1 3 dd_ 1), .inl (((S0_.2.2.1 26 0 vx39_.toNat) / 2) - 1)], sm_pI S0_ 1 0 6 ((S0_.1 1 0 6) - 1))) rfl ?_
        refine sm_T_bin (w := ((S0_.2.2.1 26 0 vx39_.toNat) / 2) - (S0_.1 3 dd_ 1) - 1) rfl (bi_sub (by omega) (by omega) (by omega)) ?_
        refine sm_T_go 6 (c1 := (213, [some (.inr (.inr (some (1, 0)))), some (.inl k_), some (.inl m_), some (.inl f_), some (.inl a_), some (.inl d_), some (.inl (40 * m_ + a_)), some (.inl (((S0_.2.2.1 26 0 vx39_.toNat) / 2) - (S0_.1 3 dd_ 1) - 1)), none], [.inl 8, .inl ((S0_.1 1 0 6) - 1), .inr (.inr (some (27, 0)))], sm_pI S0_ 1 0 6 ((S0_.1 1 0 6) - 1))) rfl ?_
        refine sm_T_bin (w := 8 * (S0_.1 1 0 6) - 8) rfl (bi_mul (by omega) (by omega) (by omega)) ?_
        refine sm_T_go 1 (c1 := (215, [some (.inr (.inr (some (1, 0)))), some (.inl k_), some (.inl m_), some (.inl f_), some (.inl a_), some (.inl d_), some (.inl (40 * m_ + a_)), some (.inl (((S0_.2.2.1 26 0 vx39_.toNat) / 2) - (S0_.1 3 dd_ 1) - 1)), none], [.inr (.inr (some (1, 0))), .inl (8 * (S0_.1 1 0 6) - 8), .inr (.inr (some (27, 0)))], sm_pI S0_ 1 0 6 ((S0_.1 1 0 6) - 1))) rfl ?_
        refine sm_T_gr rfl rfl ((hFx5_.2.1 1 0 1 rfl).trans hd_) ?_
        refine sm_T_go 6 (c1 := (231, [some (.inr (.inr (some (1, 0)))), some (.inl k_), some (.inl m_), some (.inl f_), some (.inl a_), some (.inl d_), some (.inl (40 * m_ + a_)), some (.inl (((S0_.2.2.1 26 0 vx39_.toNat) / 2) - (S0_.1 3 dd_ 1) - 1)), none], [.inl ((S0_.1 1 0 6) - 1), .inr (.inr (some (28, 0))), .inl (((S0_.2.2.1 26 0 vx39_.toNat) / 2) - (S0_.1 3 dd_ 1) - 1), .inr (.inr (some (46, (0 + dd_)))), .inl (8 * (S0_.1 1 0 6) - 8), .inr (.inr (some (27, 0)))], sm_pI S0_ 1 0 6 ((S0_.1 1 0 6) - 1))) rfl ?_
        refine sm_T_iald (n := 512) rfl rfl (by omega) (by omega) ?_
        have bx42_ : 0 ≤ S0_.2.2.1 28 0 ((S0_.1 1 0 6) - 1).toNat ∧ S0_.2.2.1 28 0 ((S0_.1 1 0 6) - 1).toNat ≤ 8 := hI_.2 28 0 _
        refine sm_T_go 0 (c1 := (232, [some (.inr (.inr (some (1, 0)))), some (.inl k_), some (.inl m_), some (.inl f_), some (.inl a_), some (.inl d_), some (.inl (40 * m_ + a_)), some (.inl (((S0_.2.2.1 26 0 vx39_.toNat) / 2) - (S0_.1 3 dd_ 1) - 1)), none], [.inl (S0_.2.2.1 28 0 ((S0_.1 1 0 6) - 1).toNat), .inl (((S0_.2.2.1 26 0 vx39_.toNat) / 2) - (S0_.1 3 dd_ 1) - 1), .inr (.inr (some (46, (0 + dd_)))), .inl (8 * (S0_.1 1 0 6) - 8), .inr (.inr (some (27, 0)))], sm_pI S0_ 1 0 6 ((S0_.1 1 0 6) - 1))) rfl ?_
        refine sm_T_nt (u := none) (S1 := sm_acI (sm_pI S0_ 1 0 6 ((S0_.1 1 0 6) - 1)) 27 0 46 (0 + dd_) (8 * (S0_.1 1 0 6) - 8).toNat (((S0_.2.2.1 26 0 vx39_.toNat) / 2) - (S0_.1 3 dd_ 1) - 1).toNat (S0_.2.2.1 28 0 ((S0_.1 1 0 6) - 1).toNat).toNat) rfl rfl (nt_acI (sc := sc_) (t := 27) (i := 0) (t' := 46) (i' := (0 + dd_)) (x := 8 * (S0_.1 1 0 6) - 8) (y := ((S0_.2.2.1 26 0 vx39_.toNat) / 2) - (S0_.1 3 dd_ 1) - 1) (m := (S0_.2.2.1 28 0 ((S0_.1 1 0 6) - 1).toNat)) (n := 4096) (n1 := 6) rfl rfl (by omega) (by omega) (by omega) (by omega) (by omega)) ?_
        have hIx43_ : gi (sm_acI (sm_pI S0_ 1 0 6 ((S0_.1 1 0 6) - 1)) 27 0 46 (0 + dd_) (8 * (S0_.1 1 0 6) - 8).toNat (((S0_.2.2.1 26 0 vx39_.toNat) / 2) - (S0_.1 3 dd_ 1) - 1).toNat (S0_.2.2.1 28 0 ((S0_.1 1 0 6) - 1).toNat).toNat) := gi_ac hIx4_ (by decide) (by decide)
        have hFx44_ : ai_fr (sx_W vw_38n) S0_ (sm_acI (sm_pI S0_ 1 0 6 ((S0_.1 1 0 6) - 1)) 27 0 46 (0 + dd_) (8 * (S0_.1 1 0 6) - 8).toNat (((S0_.2.2.1 26 0 vx39_.toNat) / 2) - (S0_.1 3 dd_ 1) - 1).toNat (S0_.2.2.1 28 0 ((S0_.1 1 0 6) - 1).toNat).toNat) := ai_fr_tr hFx5_ (fr_ac rfl)
        have hDx45_ : idf dd_ S0_ (sm_acI (sm_pI S0_ 1 0 6 ((S0_.1 1 0 6) - 1)) 27 0 46 (0 + dd_) (8 * (S0_.1 1 0 6) - 8).toNat (((S0_.2.2.1 26 0 vx39_.toNat) / 2) - (S0_.1 3 dd_ 1) - 1).toNat (S0_.2.2.1 28 0 ((S0_.1 1 0 6) - 1).toNat).toNat) := idf_ac hDx6_ (Or.inr rfl)
        refine sm_T_go 1 (c1 := (293, [some (.inr (.inr (some (1, 0)))), some (.inl k_), some (.inl m_), some (.inl f_), some (.inl a_), some (.inl d_), some (.inl (40 * m_ + a_)), some (.inl (((S0_.2.2.1 26 0 vx39_.toNat) / 2) - (S0_.1 3 dd_ 1) - 1)), none], [], sm_acI (sm_pI S0_ 1 0 6 ((S0_.1 1 0 6) - 1)) 27 0 46 (0 + dd_) (8 * (S0_.1 1 0 6) - 8).toNat (((S0_.2.2.1 26 0 vx39_.toNat) / 2) - (S0_.1 3 dd_ 1) - 1).toNat (S0_.2.2.1 28 0 ((S0_.1 1 0 6) - 1).toNat).toNat)) rfl ?_
        refine sm_T_rv rfl ⟨_, _, rfl, rfl, hIx43_, hFx44_, ?_⟩
        refine ⟨hDx45_, ?_⟩
        rw [er]
        first | (have f26_ : ((sm_acI (sm_pI S0_ 1 0 6 ((S0_.1 1 0 6) - 1)) 27 0 46 (0 + dd_) (8 * (S0_.1 1 0 6) - 8).toNat (((S0_.2.2.1 26 0 vx39_.toNat) / 2) - (S0_.1 3 dd_ 1) - 1).toNat (S0_.2.2.1 28 0 ((S0_.1 1 0 6) - 1).toNat).toNat)).2.2.1 26 0 = sm_cp (S0_.2.2.1 27 0) (S0_.2.2.1 26 0) (8 * l_.length) (8 * (40 * ff_ + aa_)) 8 := (by rw [← ec, show 8 * l_.length = (8 * S0_.1 1 0 6 - 8).toNat by omega]; exact sm_acI_at); have hl1_ : rwv (S0_.2.2.1 27 0) (8 * l_.length) x_ := x8_.2.2.2.1 hok_; refine ⟨⟨cgl_fr (w_ := ([(1, 6)], [26], [])) x1_ (ai_fr_tr (ai_fr_pI rfl) (fr_ac rfl)) rfl rfl rfl rfl rfl rfl rfl rfl, x2_, x3_, x4_, x5_, x6_, cfr_st x7_ x5_ (by omega) hO_ xl_ (by rw [f26_]; exact rwv_cp hl1_ xl_) (fun j_ q1_ => by rw [f26_, sm_cp_o q1_]), ⟨by show S0_.1 1 0 6 - 1 = (l_.length : Int); omega, svl_pop x8_.2 (fun j_ => congrFun (sm_acI_ne (by omega)) j_) (fun j_ => congrFun (sm_acI_ne (by omega)) j_)⟩, cxe_fr (w_ := ([(1, 6)], [26], [])) x9_ (ai_fr_tr (ai_fr_pI rfl) (fr_ac rfl)) rfl rfl rfl rfl⟩, fun j_ q1_ q2_ => by rw [f26_, sm_cp_o (by omega)], by (rw [hk_, nst_o (by decide) (by decide)]; exact cxn_fr (w_ := ([(1, 6)], [26], [])) hn_ (ai_fr_tr (ai_fr_pI rfl) (fr_ac rfl)))⟩) | (have f26_ : ((sm_acI (sm_pI S0_ 1 0 6 ((S0_.1 1 0 6) - 1)) 27 0 46 (0 + dd_) (8 * (S0_.1 1 0 6) - 8).toNat (((S0_.2.2.1 26 0 vx39_.toNat) / 2) - (S0_.1 3 dd_ 1) - 1).toNat (S0_.2.2.1 28 0 ((S0_.1 1 0 6) - 1).toNat).toNat)).2.2.1 26 0 = sm_cp (S0_.2.2.1 27 0) (S0_.2.2.1 26 0) (8 * l_.length) (8 * (40 * P_ aa_ + d_.toNat)) 8 := (by rw [← ec, show 8 * l_.length = (8 * S0_.1 1 0 6 - 8).toNat by omega]; exact sm_acI_at); have hl1_ : rwv (S0_.2.2.1 27 0) (8 * l_.length) x_ := x8_.2.2.2.1 hok_; refine ⟨⟨cgl_fr (w_ := ([(1, 6)], [26], [])) x1_ (ai_fr_tr (ai_fr_pI rfl) (fr_ac rfl)) rfl rfl rfl rfl rfl rfl rfl rfl, x2_, x3_, x4_, x5_, x6_, cfr_ag (p_ := P_ aa_) x7_ x5_ (by omega) hO_ (by omega) xl_ yP_.1 (by rw [f26_]; exact rwv_cp hl1_ xl_) (fun j_ q1_ => by rw [f26_, sm_cp_o q1_]), ⟨by show S0_.1 1 0 6 - 1 = (l_.length : Int); omega, svl_pop x8_.2 (fun j_ => congrFun (sm_acI_ne (by omega)) j_) (fun j_ => congrFun (sm_acI_ne (by omega)) j_)⟩, cxe_fr (w_ := ([(1, 6)], [26], [])) x9_ (ai_fr_tr (ai_fr_pI rfl) (fr_ac rfl)) rfl rfl rfl rfl⟩, fun j_ q1_ q2_ => by rw [f26_, sm_cp_o (by omega)], by (rw [hk_, nst_o (by decide) (by decide)]; exact cxn_fr (w_ := ([(1, 6)], [26], [])) hn_ (ai_fr_tr (ai_fr_pI rfl) (fr_ac rfl)))⟩) | (have f26_ : ∀ j_, ((sm_acI (sm_pI S0_ 1 0 6 ((S0_.1 1 0 6) - 1)) 27 0 46 (0 + dd_) (8 * (S0_.1 1 0 6) - 8).toNat (((S0_.2.2.1 26 0 vx39_.toNat) / 2) - (S0_.1 3 dd_ 1) - 1).toNat (S0_.2.2.1 28 0 ((S0_.1 1 0 6) - 1).toNat).toNat)).2.2.1 26 0 j_ = S0_.2.2.1 26 0 j_ := (fun j_ => congrFun (sm_acI_ne (by omega)) j_); exact ⟨⟨cgl_fr (w_ := ([(1, 6)], [46], [])) x1_ (ai_fr_tr (ai_fr_pI rfl) (fr_ac rfl)) rfl rfl rfl rfl rfl rfl rfl rfl, x2_, x3_, x4_, x5_, x6_, cfr_cg x7_ f26_, ⟨by show S0_.1 1 0 6 - 1 = (l_.length : Int); omega, svl_pop x8_.2 (fun j_ => congrFun (sm_acI_ne (by omega)) j_) (fun j_ => congrFun (sm_acI_ne (by omega)) j_)⟩, ⟨x9_.1, x9_.2.1, nxb_cp x9_.2.2 rfl sm_acI_at (x_ := x_) (by rw [show (8 * S0_.1 1 0 6 - 8).toNat = 8 * l_.length by omega]; exact x8_.2.2.2.1 hok_) (by omega) (fun z9_ hz9_ => by have q9_ := hxl_ z9_ hz9_; unfold lz at q9_; rw [cgl_n x1_ hok_]; exact q9_)⟩⟩, fun j_ q1_ q2_ => f26_ j_, by (rw [hk_, nst_n hsV_ hz_]; exact cxn_cp hn_ rfl (by rw [fq9_]; exact sm_acI_at) (by rw [show (8 * S0_.1 1 0 6 - 8).toNat = 8 * l_.length by omega]; exact x8_.2.2.2.1 hok_) (by omega))⟩)
    · have cx2_ : ¬ (k_ ≠ 13) := of_decide_eq_false cx2_
      have hk_ : k_ = 13 := by omega
      obtain ⟨aM_, hO_, w1_, w8_, r6_, er⟩ := e_st13 (show e_st I_ A_ mm_ 13 aa_ d_ s_ = some r_ by rw [← hk_]; exact he_)
      refine sm_T_go 2 (c1 := (50, [some (.inr (.inr (some (1, 0)))), some (.inl k_), some (.inl m_), some (.inl f_), some (.inl a_), some (.inl d_), some (.inl (40 * m_ + a_)), some (.inl 0), none], [], S0_)) rfl ?_
      refine (vl_38n k_ m_ f_ a_ d_ tb_ tn_ A_ mm_ ff_ aa_ dd_ F_ I_ s_ r_ fc0_ x0_ S0_ hI0_ hd_ hk0_ hd0_ hm1_ hf1_ ha1_ her_ hA_ hx_ hok_ he_ hlw_ hRF_ hn_ _) (40 * m_ + a_) 0 S0_ hI_ hF_ ⟨?_, ?_, ?_, ?_, ?_, ?_, ?_, ?_, ?_, ?_, ?_, trivial⟩ (Nat.lt_succ_self _)
      · exact hk_
      · omega
      · (intro k9_ z9_ e9_; simp [r_bt] at e9_)
      · (intro j9_ q_; rfl)
      · omega
      · exact x3_
      · exact ⟨rfl, fun j9_ => rfl, fun j9_ => rfl, x9_.1⟩
      · exact x1_
      · exact x9_.2
      · refine ⟨hn_.1, fun i9_ hi9_ => ?_⟩
        show S0_.2.2.1 46 (0 + dd_) i9_ = nho I_ s_.1.2.1 0 x0_.1 i9_
        unfold nho
        rw [if_neg (by omega)]
        exact hn_.2 i9_ (by omega)
      · exact hD_
  · have cx1_ : ¬ (k_ ≠ 15) := of_decide_eq_false cx1_
    have hk_ : k_ = 15 := by omega
    obtain ⟨aM_, c200_, hE_, hO_, er⟩ := e_st15 (show e_st I_ A_ mm_ 15 aa_ d_ s_ = some r_ by rw [← hk_]; exact he_)
    refine sm_T_go 4 (c1 := (22, [some (.inr (.inr (some (1, 0)))), some (.inl k_), some (.inl m_), some (.inl f_), some (.inl a_), some (.inl d_), some (.inl (40 * m_ + a_)), none, none], [.inl a_, .inl f_, .inr (.inr (some (26, 0)))], S0_)) rfl ?_
    refine sm_T_cal (d1 := 0) (Q1 := vq_35 f_ a_ S0_) rfl rfl (by decide) (vc_35 f_ a_ S0_ hI_ (by omega) (by omega)) (fun u_ Sx46_ px49_ => ?_)
    obtain ⟨rfl, vx51_, rfl, px49_⟩ := px49_
    have e22_ := px49_
    have ec : vx51_.toNat = 8 * (40 * ff_ + aa_) := by omega
    have bx52_ : 0 ≤ S0_.1 1 0 3 ∧ S0_.1 1 0 3 ≤ 201 := hI_.1 1 0 3 rfl
    refine sm_T_go 2 (c1 := (29, [some (.inr (.inr (some (1, 0)))), some (.inl k_), some (.inl m_), some (.inl f_), some (.inl a_), some (.inl d_), some (.inl (40 * m_ + a_)), none, none], [.inl (S0_.1 1 0 3), .inl vx51_, .inr (.inr (some (26, 0)))], S0_)) rfl ?_
    refine sm_T_iast (n := 64320) rfl rfl (by omega) (by omega) ?_
    have hIx53_ : gi (sm_aI S0_ 26 0 vx51_.toNat (S0_.1 1 0 3)) := gi_aI hI_ (show 0 ≤ (S0_.1 1 0 3) ∧ (S0_.1 1 0 3) ≤ 2025 from ⟨by omega, by omega⟩)
    have hFx54_ : ai_fr (sx_W vw_38n) S0_ (sm_aI S0_ 26 0 vx51_.toNat (S0_.1 1 0 3)) := ai_fr_tr hF_ (ai_fr_aI rfl)
    have hDx55_ : idf dd_ S0_ (sm_aI S0_ 26 0 vx51_.toNat (S0_.1 1 0 3)) := idf_aI hD_ (Or.inl (by decide))
    refine sm_T_go 4 (c1 := (36, [some (.inr (.inr (some (1, 0)))), some (.inl k_), some (.inl m_), some (.inl f_), some (.inl a_), some (.inl d_), some (.inl (40 * m_ + a_)), none, none], [.inl 1, .inl (S0_.1 1 0 3), .inr (.inr (some (1, 0)))], sm_aI S0_ 26 0 vx51_.toNat (S0_.1 1 0 3))) rfl ?_
    refine sm_T_bin (w := (S0_.1 1 0 3) + 1) rfl (bi_add (by omega) (by omega) (by omega)) ?_
    have hIx56_ : gi (sm_pI (sm_aI S0_ 26 0 vx51_.toNat (S0_.1 1 0 3)) 1 0 3 ((S0_.1 1 0 3) + 1)) := gi_pI hIx53_ (show 0 ≤ (S0_.1 1 0 3) + 1 ∧ (S0_.1 1 0 3) + 1 ≤ 201 from ⟨by omega, by omega⟩)
    have hFx57_ : ai_fr (sx_W vw_38n) S0_ (sm_pI (sm_aI S0_ 26 0 vx51_.toNat (S0_.1 1 0 3)) 1 0 3 ((S0_.1 1 0 3) + 1)) := ai_fr_tr hFx54_ (ai_fr_pI rfl)
    have hDx58_ : idf dd_ S0_ (sm_pI (sm_aI S0_ 26 0 vx51_.toNat (S0_.1 1 0 3)) 1 0 3 ((S0_.1 1 0 3) + 1)) := idf_pI hDx55_ (Or.inl (by decide))
    refine sm_T_go 1 (c1 := (40, [some (.inr (.inr (some (1, 0)))), some (.inl k_), some (.inl m_), some (.inl f_), some (.inl a_), some (.inl d_), some (.inl (40 * m_ + a_)), none, none], [], sm_pI (sm_aI S0_ 26 0 vx51_.toNat (S0_.1 1 0 3)) 1 0 3 ((S0_.1 1 0 3) + 1))) rfl ?_
    refine sm_T_rv rfl ⟨_, _, rfl, rfl, hIx56_, hFx57_, ?_⟩
    refine ⟨hDx58_, ?_⟩
    rw [er]
    have g26_ : ∀ j_, ((sm_pI (sm_aI S0_ 26 0 vx51_.toNat (S0_.1 1 0 3)) 1 0 3 ((S0_.1 1 0 3) + 1))).2.2.1 26 0 j_ = if j_ = 8 * (40 * ff_ + aa_) then (s_.1.2.2 : Int) else S0_.2.2.1 26 0 j_ := fun j_ => by (try simp only [rd_eq, rd_ne, rf_eq, rf_nk, rf_nt, rd_fa, rd_af, rd_fl, rd_al, rd_lf, rd_la, rd_leq, rd_lne, rd_fr, rd_ar, ne_eq, Nat.reduceEqDiff, not_false_eq_true]); rw [ec, x3_]
    refine ⟨⟨cgl_fr (w_ := ([(1, 3)], [26], [])) x1_ (ai_fr_tr (ai_fr_aI rfl) (ai_fr_pI rfl)) rfl rfl rfl rfl rfl rfl rfl rfl, x2_, ?_, by show s_.1.2.2 + 1 ≤ 201; omega, x5_, by show fc0_ ≤ s_.1.2.2 + 1; omega, cfr_bg x7_ x5_ x6_ (by omega) hE_ hO_ g26_, x8_, cxe_fr (w_ := ([(1, 3)], [26], [])) x9_ (ai_fr_tr (ai_fr_aI rfl) (ai_fr_pI rfl)) rfl rfl rfl rfl⟩, fun j_ h1_ h2_ => ?_, by (rw [hk_, nst_o (by decide) (by decide)]; exact cxn_fr (w_ := ([(1, 3)], [26], [])) hn_ (ai_fr_tr (ai_fr_aI rfl) (ai_fr_pI rfl)))⟩
    · rw [rf_eq, x3_]; push_cast; rfl
    · rw [g26_, if_neg (by omega)]

theorem nw_17 {I_ m_ : Nat} {A_ : pA} {Y_ : Nat → gQ → gE → gN → gN} {w_ : Int} {s_ : gS} {x_ : gN} {o_ : Nat → List Int} (h_ : w_ % 32 = 17) (hO_ : s_.2.2.1 (w_ / 32 % 64).toNat = some o_) : nw I_ A_ Y_ m_ w_ s_ x_ = Y_ (w_ / 2048).toNat s_.1 o_ x_ := by
  unfold nw
  rw [if_pos h_, hO_]
theorem nw_o {I_ m_ : Nat} {A_ : pA} {Y_ : Nat → gQ → gE → gN → gN} {w_ : Int} {s_ : gS} {x_ : gN} (h_ : w_ % 32 ≠ 17) (h2_ : w_ % 32 ≤ 11) : nw I_ A_ Y_ m_ w_ s_ x_ = x_ := by
  unfold nw
  rw [if_neg h_, if_pos h2_]
theorem nw_s {I_ m_ : Nat} {A_ : pA} {Y_ : Nat → gQ → gE → gN → gN} {w_ : Int} {s_ : gS} {x_ : gN} (h_ : w_ % 32 ≠ 17) (h2_ : ¬ w_ % 32 ≤ 11) : nw I_ A_ Y_ m_ w_ s_ x_ = nst I_ A_ m_ (w_ % 32) (w_ / 32 % 64).toNat s_ x_ := by
  unfold nw
  rw [if_neg h_, if_neg h2_]

/-! Builder.execute -/
def vw_36n : sx_Wl := ([(1, 3), (1, 6), (1, 8), (1, 9), (3, 4), (3, 5)], [26, 27, 28, 29, 42, 43, 46], [])
def vq_36n (m_ : Int) (f_ : Int) (dp_ : Int) (tb_ : Nat → Int) (tn_ : Nat) (A_ : pA) (C_ : Nat → List Int) (mm_ : Nat) (ff_ : Nat) (dd_ : Nat) (F_ : Nat) (I_ : Nat) (q_ : gQ) (e_ : gE) (r_ : gQ × gE) (x0_ : gN) (xr : gN) (nf_ : Nat) (S0_ : sm_S) (u_ : Option sm_V) (S1_ : sm_S) : Prop := u_ = none ∧ gi S1_ ∧ ai_fr (sx_W vw_36n) S0_ S1_ ∧ (idf dd_ S0_ S1_ ∧ (cgl dd_ F_ r_.1.1 S1_ ∧ (imq (r_.1.1.length ≤ 1000) (cxo dd_ ff_ q_ r_ S1_ ∧ fun_ ff_ q_.2.2 (S0_.2.2.1 26 0) (S1_.2.2.1 26 0) ∧ cxn dd_ r_.1.2.1 xr S1_))))
set_option maxHeartbeats 2000000 in
theorem vl_36n {sc_ : Nat × (Nat → Int)} (m_ : Int) (f_ : Int) (dp_ : Int) (tb_ : Nat → Int) (tn_ : Nat) (A_ : pA) (C_ : Nat → List Int) (mm_ : Nat) (ff_ : Nat) (dd_ : Nat) (F_ : Nat) (I_ : Nat) (q_ : gQ) (e_ : gE) (r_ : gQ × gE) (x0_ : gN) (xr : gN) (nf_ : Nat) (S0_ : sm_S) (hI0_ : gi S0_) (hd_ : S0_.2.1 1 0 1 = some dd_) (hm1_ : m_ = (mm_ : Int) ∧ mm_ ≤ 15) (hf1_ : f_ = (ff_ : Int)) (hdp_ : 0 ≤ dp_ ∧ dp_ + mm_ ≤ 15) (her_ : ∀ k9_, k9_ ≤ mm_ → er1 tb_ tn_ A_ k9_ S0_) (hA_ : a_ok tb_ tn_ A_ mm_) (hC_ : ccd C_ mm_ S0_) (hx_ : cxs dd_ F_ I_ ff_ q_.2.2 (q_, e_, fun _ => none, []) S0_) (hok_ : q_.1.length ≤ 1000) (hRF_ : 1 + I_ + r_.1.2.1 ≤ F_) (hG_ : gwf F_ q_.1) (hlw_ : ∀ a9_, lwl (F_ + q_.1.length) (e_ a9_)) (hn_ : cxn dd_ q_.2.1 x0_ S0_) (he_ : exm F_ I_ A_ C_ (nf_ + 1) mm_ q_ e_ = some r_) (hxr_ : nxm F_ I_ A_ C_ (nf_ + 1) mm_ q_ e_ x0_ = xr) (ihx_ : ∀ (m_ f_ dp_ : Int) (tb_ : Nat → Int) (tn_ : Nat) (A_ : pA) (C_ : Nat → List Int) (mm_ : Nat) (ff_ : Nat) (dd_ : Nat) (F_ : Nat) (I_ : Nat) (q_ : gQ) (e_ : gE) (r_ : gQ × gE) (x0_ : gN) (xr : gN) (nz : Nat) (S0_ : sm_S) (hI_ : gi S0_) (hI0_ : gi S0_) (hd_ : S0_.2.1 1 0 1 = some dd_) (hm1_ : m_ = (mm_ : Int) ∧ mm_ ≤ 15) (hf1_ : f_ = (ff_ : Int)) (hdp_ : 0 ≤ dp_ ∧ dp_ + mm_ ≤ 15) (her_ : ∀ k9_, k9_ ≤ mm_ → er1 tb_ tn_ A_ k9_ S0_) (hA_ : a_ok tb_ tn_ A_ mm_) (hC_ : ccd C_ mm_ S0_) (hx_ : cxs dd_ F_ I_ ff_ q_.2.2 (q_, e_, fun _ => none, []) S0_) (hok_ : q_.1.length ≤ 1000) (hRF_ : 1 + I_ + r_.1.2.1 ≤ F_) (hG_ : gwf F_ q_.1) (hlw_ : ∀ a9_, lwl (F_ + q_.1.length) (e_ a9_)) (hn_ : cxn dd_ q_.2.1 x0_ S0_) (he_ : exm F_ I_ A_ C_ nf_ mm_ q_ e_ = some r_) (hxr_ : nxm F_ I_ A_ C_ nf_ mm_ q_ e_ x0_ = xr), sm_T (mt_P sc_) (nf_ + 10) 36 (0, [some (.inr (.inr (some (1, 0)))), some (.inl m_), some (.inl f_), some (.inl dp_), none, none, none, none, none, none], [], S0_) (fun r9_ => ∃ u_ S1_, r9_ = (.inl u_, S1_, 0) ∧ vq_36n m_ f_ dp_ tb_ tn_ A_ C_ mm_ ff_ dd_ F_ I_ q_ e_ r_ x0_ xr nz S0_ u_ S1_)) : ∀ nn_ : Nat, (∀ (to_ : Int) (pc_ : Int) (S_ : sm_S), gi S_ → ai_fr (sx_W vw_36n) S0_ S_ → ((0 ≤ pc_ ∧ pc_ ≤ to_ ∧ to_ ≤ 65536) ∧ (∃ (s_ s9_ : gS) (c_ : List Int) (xs : gN), ncd F_ I_ A_ (exm F_ I_ A_ C_ nf_) (nxm F_ I_ A_ C_ nf_) mm_ c_ s_ xs = xr ∧ ec F_ I_ A_ (exm F_ I_ A_ C_ nf_) mm_ c_ s_ = some s9_ ∧ s9_.2.2.2 = [] ∧ r_ = (s9_.1, s9_.2.1) ∧ pc_ + c_.length = to_ ∧ rwv (S0_.2.2.1 74 0) pc_.toNat c_ ∧ cgl dd_ F_ s_.1.1 S_ ∧ (imq (s_.1.1.length ≤ 1000) (cxs dd_ F_ I_ ff_ q_.2.2 s_ S_ ∧ fun_ ff_ q_.2.2 (S0_.2.2.1 26 0) (S_.2.2.1 26 0) ∧ lwS F_ s_ ∧ cxn dd_ s_.1.2.1 xs S_))) ∧ (idf dd_ S0_ S_) ∧ True) → ((to_ - pc_).toNat) < nn_ → sm_T (mt_P sc_) (nf_ + 1 + 10) 36 (24, [some (.inr (.inr (some (1, 0)))), some (.inl m_), some (.inl f_), some (.inl dp_), some (.inl to_), some (.inl pc_), none, none, none, none], [], S_) (fun ro9_ => ∃ u_ S1_, ro9_ = (.inl u_, S1_, 0) ∧ vq_36n m_ f_ dp_ tb_ tn_ A_ C_ mm_ ff_ dd_ F_ I_ q_ e_ r_ x0_ xr nf_ S0_ u_ S1_)) := by
  intro nn_
  induction nn_ with
  | zero => exact fun _ _ _ _ _ _ h_ => absurd h_ (Nat.not_lt_zero _)
  | succ nn_ ih_ =>
    rintro to_ pc_ S_ hI_ hF_ ⟨h0_, h1_, hD_, -⟩ hm_
    obtain ⟨s_, s9_, c_, xs, z8_, z1_, z2_, z3_, z4_, z5_, z6_, z7_⟩ := h1_
    refine sm_T_go 2 (c1 := (28, [some (.inr (.inr (some (1, 0)))), some (.inl m_), some (.inl f_), some (.inl dp_), some (.inl to_), some (.inl pc_), none, none, none, none], [.inl to_, .inl pc_], S_)) rfl ?_
    refine sm_T_br (a := 3) (z := 137) rfl (fun cx1_ => ?_) (fun cx1_ => ?_)
    · have cx1_ : to_ ≤ pc_ := of_decide_eq_true cx1_
      refine sm_T_rv rfl ⟨_, _, rfl, rfl, hI_, hF_, ?_⟩
      refine ⟨hD_, ?_⟩
      first | (have c0_ : c_ = [] := List.eq_nil_of_length_eq_zero (by omega); subst c0_; have es9_ : s_ = s9_ := Option.some.inj z1_; subst es9_; rw [z3_]; refine ⟨z6_, fun z9_ => ?_⟩; obtain ⟨cx_, cf_, -, cn_⟩ := z7_ z9_; refine ⟨⟨cx_.2.2.2.2.2.2.2.2.2, cx_.2.1, cx_.2.2.1, cx_.2.2.2.1, cx_.2.2.2.2.2.1, ?_, cx_.2.2.2.2.2.2.1.1⟩, cf_, by (have z8b : xs = xr := z8_; rw [← z8b]; exact cn_)⟩; have q9_ := cx_.2.2.2.2.2.2.2.1.1; rw [z2_] at q9_; exact q9_) | (have nok : 1000 < s_.1.1.length := (by by_cases z9_ : s_.1.1.length ≤ 1000; (exact absurd ((cgl_f z6_).1.mpr z9_) (by omega)); omega); have le9_ := ec_le (fun d9_ q9_ e9_ x9_ => exm_le nf_ d9_ q9_ e9_ x9_) c_ s_ s9_ z1_; rw [z3_]; refine ⟨cgl_big z6_ nok (by show 1000 < s9_.1.1.length; omega), fun z9_ => absurd z9_ (by show ¬ s9_.1.1.length ≤ 1000; omega)⟩)
    · have cx1_ : ¬ (to_ ≤ pc_) := of_decide_eq_false cx1_
      have bx2_ : 0 ≤ S_.1 1 0 8 ∧ S_.1 1 0 8 ≤ 1 := hI_.1 1 0 8 rfl
      refine sm_T_go 2 (c1 := (35, [some (.inr (.inr (some (1, 0)))), some (.inl m_), some (.inl f_), some (.inl dp_), some (.inl to_), some (.inl pc_), none, none, none, none], [.inl (S_.1 1 0 8)], S_)) rfl ?_
      refine sm_T_b0 (a := 1) (z := 130) rfl (fun cx3_ => ?_) (fun cx3_ => ?_)
      · have cx3_ : (S_.1 1 0 8) ≠ 0 := of_decide_eq_true cx3_
        refine sm_T_rv rfl ⟨_, _, rfl, rfl, hI_, hF_, ?_⟩
        refine ⟨hD_, ?_⟩
        first | (have c0_ : c_ = [] := List.eq_nil_of_length_eq_zero (by omega); subst c0_; have es9_ : s_ = s9_ := Option.some.inj z1_; subst es9_; rw [z3_]; refine ⟨z6_, fun z9_ => ?_⟩; obtain ⟨cx_, cf_, -, cn_⟩ := z7_ z9_; refine ⟨⟨cx_.2.2.2.2.2.2.2.2.2, cx_.2.1, cx_.2.2.1, cx_.2.2.2.1, cx_.2.2.2.2.2.1, ?_, cx_.2.2.2.2.2.2.1.1⟩, cf_, by (have z8b : xs = xr := z8_; rw [← z8b]; exact cn_)⟩; have q9_ := cx_.2.2.2.2.2.2.2.1.1; rw [z2_] at q9_; exact q9_) | (have nok : 1000 < s_.1.1.length := (by by_cases z9_ : s_.1.1.length ≤ 1000; (exact absurd ((cgl_f z6_).1.mpr z9_) (by omega)); omega); have le9_ := ec_le (fun d9_ q9_ e9_ x9_ => exm_le nf_ d9_ q9_ e9_ x9_) c_ s_ s9_ z1_; rw [z3_]; refine ⟨cgl_big z6_ nok (by show 1000 < s9_.1.1.length; omega), fun z9_ => absurd z9_ (by show ¬ s9_.1.1.length ≤ 1000; omega)⟩)
      · have cx3_ : ¬ ((S_.1 1 0 8) ≠ 0) := of_decide_eq_false cx3_
        obtain ⟨w_, c_, rfl⟩ : ∃ w_ c1_, c_ = w_ :: c1_ := by cases c_ with | nil => (simp only [List.length_nil] at z4_; omega) | cons p9_ q9_ => exact ⟨p9_, q9_, rfl⟩
        have hw_ : S_.2.2.1 74 0 pc_.toNat = w_ := by rw [fr_arr (t := 74) (i := 0) hF_ rfl]; exact z5_ 0 w_ rfl
        have sok_ : s_.1.1.length ≤ 1000 := (cgl_f z6_).1.mp (by omega)
        obtain ⟨cx_, cf_, cl_, cn_⟩ := z7_ sok_
        obtain ⟨s1_, hew_, hec_⟩ : ∃ s1_, ew F_ I_ A_ (exm F_ I_ A_ C_ nf_) mm_ w_ s_ = some s1_ ∧ ec F_ I_ A_ (exm F_ I_ A_ C_ nf_) mm_ c_ s1_ = some s9_ := by rw [ec] at z1_; (split at z1_); (rename_i s1_ q1_; exact ⟨s1_, q1_, z1_⟩); (cases z1_)
        have z9c : ncd F_ I_ A_ (exm F_ I_ A_ C_ nf_) (nxm F_ I_ A_ C_ nf_) mm_ c_ s1_ (nw I_ A_ (nxm F_ I_ A_ C_ nf_) mm_ (S_.2.2.1 74 0 pc_.toNat) s_ xs) = xr := by rw [hw_]; exact (ncd_c hew_).symm.trans z8_
        rw [← hw_] at hew_
        have F13_ := (cgl_b z6_).2
        have R9_ := ec_R (exm_w nf_) c_ s1_ s9_ hec_
        have R8_ : 1 + I_ + s9_.1.2.1 ≤ F_ := by rw [z3_] at hRF_; exact hRF_
        have lw1_ : s1_.1.1.length ≤ 1000 → lwS F_ s1_ := fun q9_ => ew_w (exm_w nf_) hew_ (by omega) (by omega) cl_
        have z4b : pc_ + 1 + c_.length = to_ := by simp only [List.length_cons] at z4_; push_cast at z4_; omega
        have cx8_ := cx_.2.2.2.2.2.2.2.1
        have A40_ := (hA_.2 mm_ (Nat.le_refl _)).1
        have her1_ : ∀ k9_, k9_ ≤ mm_ → er1 tb_ tn_ A_ k9_ S_ := fun k9_ h9_ => er1_fr (her_ k9_ h9_) hF_ rfl rfl rfl rfl rfl
        refine sm_T_go 4 (c1 := (47, [some (.inr (.inr (some (1, 0)))), some (.inl m_), some (.inl f_), some (.inl dp_), some (.inl to_), some (.inl pc_), none, none, none, none], [.inl pc_, .inr (.inr (some (74, 0)))], S_)) rfl ?_
        refine sm_T_iald (n := 65536) rfl rfl (by omega) (by omega) ?_
        have bx4_ : 0 ≤ S_.2.2.1 74 0 pc_.toNat ∧ S_.2.2.1 74 0 pc_.toNat ≤ 2147483647 := hI_.2 74 0 _
        refine sm_T_go 3 (c1 := (54, [some (.inr (.inr (some (1, 0)))), some (.inl m_), some (.inl f_), some (.inl dp_), some (.inl to_), some (.inl pc_), some (.inl (S_.2.2.1 74 0 pc_.toNat)), none, none, none], [.inl 31, .inl (S_.2.2.1 74 0 pc_.toNat)], S_)) rfl ?_
        refine sm_T_bin (w := ((S_.2.2.1 74 0 pc_.toNat) % 32)) rfl (bi_msk (k := 5) (by decide)) ?_
        refine sm_T_go 3 (c1 := (60, [some (.inr (.inr (some (1, 0)))), some (.inl m_), some (.inl f_), some (.inl dp_), some (.inl to_), some (.inl pc_), some (.inl (S_.2.2.1 74 0 pc_.toNat)), some (.inl ((S_.2.2.1 74 0 pc_.toNat) % 32)), none, none], [.inl 5, .inl (S_.2.2.1 74 0 pc_.toNat)], S_)) rfl ?_
        refine sm_T_bin (w := ((S_.2.2.1 74 0 pc_.toNat) / 32)) rfl (bi_shr (k := 5) (by decide) (by omega) (by omega)) ?_
        refine sm_T_go 1 (c1 := (63, [some (.inr (.inr (some (1, 0)))), some (.inl m_), some (.inl f_), some (.inl dp_), some (.inl to_), some (.inl pc_), some (.inl (S_.2.2.1 74 0 pc_.toNat)), some (.inl ((S_.2.2.1 74 0 pc_.toNat) % 32)), none, none], [.inl 63, .inl ((S_.2.2.1 74 0 pc_.toNat) / 32)], S_)) rfl ?_
        refine sm_T_bin (w := (((S_.2.2.1 74 0 pc_.toNat) / 32) % 64)) rfl (bi_msk (k := 6) (by decide)) ?_
        refine sm_T_go 3 (c1 := (70, [some (.inr (.inr (some (1, 0)))), some (.inl m_), some (.inl f_), some (.inl dp_), some (.inl to_), some (.inl pc_), some (.inl (S_.2.2.1 74 0 pc_.toNat)), some (.inl ((S_.2.2.1 74 0 pc_.toNat) % 32)), some (.inl (((S_.2.2.1 74 0 pc_.toNat) / 32) % 64)), none], [.inl 11, .inl (S_.2.2.1 74 0 pc_.toNat)], S_)) rfl ?_
        refine sm_T_bin (w := ((S_.2.2.1 74 0 pc_.toNat) / 2048)) rfl (bi_shr (k := 11) (by decide) (by omega) (by omega)) ?_
        refine sm_T_go 3 (c1 := (77, [some (.inr (.inr (some (1, 0)))), some (.inl m_), some (.inl f_), some (.inl dp_), some (.inl to_), some (.inl pc_), some (.inl (S_.2.2.1 74 0 pc_.toNat)), some (.inl ((S_.2.2.1 74 0 pc_.toNat) % 32)), some (.inl (((S_.2.2.1 74 0 pc_.toNat) / 32) % 64)), some (.inl ((S_.2.2.1 74 0 pc_.toNat) / 2048))], [.inl 17, .inl ((S_.2.2.1 74 0 pc_.toNat) % 32)], S_)) rfl ?_
        refine sm_T_br (a := 1) (z := 32) rfl (fun cx5_ => ?_) (fun cx5_ => ?_)
        · have cx5_ : ((S_.2.2.1 74 0 pc_.toNat) % 32) ≠ 17 := of_decide_eq_true cx5_
          refine sm_T_go 2 (c1 := (113, [some (.inr (.inr (some (1, 0)))), some (.inl m_), some (.inl f_), some (.inl dp_), some (.inl to_), some (.inl pc_), some (.inl (S_.2.2.1 74 0 pc_.toNat)), some (.inl ((S_.2.2.1 74 0 pc_.toNat) % 32)), some (.inl (((S_.2.2.1 74 0 pc_.toNat) / 32) % 64)), some (.inl ((S_.2.2.1 74 0 pc_.toNat) / 2048))], [.inl 7, .inl ((S_.2.2.1 74 0 pc_.toNat) % 32)], S_)) rfl ?_
          refine sm_T_br (a := 4) (z := 12) rfl (fun cx6_ => ?_) (fun cx6_ => ?_)
          · have cx6_ : 7 < ((S_.2.2.1 74 0 pc_.toNat) % 32) := of_decide_eq_true cx6_
            refine sm_T_go 2 (c1 := (129, [some (.inr (.inr (some (1, 0)))), some (.inl m_), some (.inl f_), some (.inl dp_), some (.inl to_), some (.inl pc_), some (.inl (S_.2.2.1 74 0 pc_.toNat)), some (.inl ((S_.2.2.1 74 0 pc_.toNat) % 32)), some (.inl (((S_.2.2.1 74 0 pc_.toNat) / 32) % 64)), some (.inl ((S_.2.2.1 74 0 pc_.toNat) / 2048))], [.inl 11, .inl ((S_.2.2.1 74 0 pc_.toNat) % 32)], S_)) rfl ?_
            refine sm_T_br (a := 4) (z := 18) rfl (fun cx7_ => ?_) (fun cx7_ => ?_)
            · have cx7_ : 11 < ((S_.2.2.1 74 0 pc_.toNat) % 32) := of_decide_eq_true cx7_
              have ho_ := ew_s hew_ (by omega) (by omega)
              have hk16_ := e_st_k ho_
              refine sm_T_go 6 (c1 := (156, [some (.inr (.inr (some (1, 0)))), some (.inl m_), some (.inl f_), some (.inl dp_), some (.inl to_), some (.inl pc_), some (.inl (S_.2.2.1 74 0 pc_.toNat)), some (.inl ((S_.2.2.1 74 0 pc_.toNat) % 32)), some (.inl (((S_.2.2.1 74 0 pc_.toNat) / 32) % 64)), some (.inl ((S_.2.2.1 74 0 pc_.toNat) / 2048))], [.inl ((S_.2.2.1 74 0 pc_.toNat) / 2048), .inl (((S_.2.2.1 74 0 pc_.toNat) / 32) % 64), .inl f_, .inl m_, .inl ((S_.2.2.1 74 0 pc_.toNat) % 32), .inr (.inr (some (1, 0)))], S_)) rfl ?_
              refine sm_T_cal (d1 := 1) (Q1 := vq_38n ((S_.2.2.1 74 0 pc_.toNat) % 32) m_ f_ (((S_.2.2.1 74 0 pc_.toNat) / 32) % 64) ((S_.2.2.1 74 0 pc_.toNat) / 2048) tb_ tn_ A_ mm_ ff_ (S_.2.2.1 74 0 pc_.toNat / 32 % 64).toNat dd_ F_ I_ s_ s1_ q_.2.2 xs S_) rfl rfl (by omega) (vc_38n ((S_.2.2.1 74 0 pc_.toNat) % 32) m_ f_ (((S_.2.2.1 74 0 pc_.toNat) / 32) % 64) ((S_.2.2.1 74 0 pc_.toNat) / 2048) tb_ tn_ A_ mm_ ff_ (S_.2.2.1 74 0 pc_.toNat / 32 % 64).toNat dd_ F_ I_ s_ s1_ q_.2.2 xs S_ hI_ (by exact hI_) (by exact cgl_d z6_) (by omega) (by omega) (by exact hm1_) (by exact hf1_) (by omega) (by exact her1_) (by exact hA_) (by exact cx_) (by exact sok_) (by exact ho_) (by exact cl_) (by omega) (by exact cn_)) (fun u_ Sx8_ px11_ => ?_)
              obtain ⟨rfl, hIx9_, hFx10_, px11_⟩ := px11_
              have hFx12_ : ai_fr (sx_W vw_36n) S0_ Sx8_ := ai_fr_tr hF_ (fr_le hFx10_ rfl)
              obtain ⟨dx14_, px11_⟩ := px11_
              have hDx13_ : idf dd_ S0_ Sx8_ := idf_tr hD_ dx14_
              have ex15_ : Sx8_.1 1 0 8 = S_.1 1 0 8 := hFx10_.1 1 0 8 rfl
              have e156_ := px11_
              have new_ : cgl dd_ F_ s1_.1.1 Sx8_ ∧ (imq (s1_.1.1.length ≤ 1000) (cxs dd_ F_ I_ ff_ q_.2.2 s1_ Sx8_ ∧ fun_ ff_ q_.2.2 (S0_.2.2.1 26 0) (Sx8_.2.2.1 26 0) ∧ lwS F_ s1_ ∧ cxn dd_ s1_.1.2.1 (nw I_ A_ (nxm F_ I_ A_ C_ nf_) mm_ (S_.2.2.1 74 0 pc_.toNat) s_ xs) Sx8_)) := ⟨e156_.1.1, fun z9_ => ⟨e156_.1, fun_tr cf_ e156_.2.1, lw1_ z9_, by rw [nw_s (by omega) (by omega)]; exact e156_.2.2⟩⟩
              refine sm_T_inc (a := 5) (z := 1) (v := pc_) (w := pc_ + 1) rfl rfl (by omega) (by omega) (by omega) ?_
              refine sm_T_go 1 (c1 := (24, [some (.inr (.inr (some (1, 0)))), some (.inl m_), some (.inl f_), some (.inl dp_), some (.inl to_), some (.inl (pc_ + 1)), some (.inl (S_.2.2.1 74 0 pc_.toNat)), some (.inl ((S_.2.2.1 74 0 pc_.toNat) % 32)), some (.inl (((S_.2.2.1 74 0 pc_.toNat) / 32) % 64)), some (.inl ((S_.2.2.1 74 0 pc_.toNat) / 2048))], [], Sx8_)) rfl ?_
              refine sm_T_wk [some (.inr (.inr (some (1, 0)))), some (.inl m_), some (.inl f_), some (.inl dp_), some (.inl to_), some (.inl (pc_ + 1)), none, none, none, none] (by exact ⟨rfl, rfl, rfl, rfl, rfl, rfl, trivial⟩) ?_
              refine ih_ to_ (pc_ + 1) Sx8_ hIx9_ hFx12_ ⟨?_, ?_, ?_, trivial⟩ ?_
              · omega
              · exact ⟨s1_, s9_, c_, _, z9c, hec_, z2_, z3_, z4b, by rw [show (pc_ + 1).toNat = pc_.toNat + 1 by omega]; exact rwv_tl z5_, new_.1, new_.2⟩
              · exact hDx13_
              · omega
            · have cx7_ : ¬ (11 < ((S_.2.2.1 74 0 pc_.toNat) % 32)) := of_decide_eq_false cx7_
              obtain ⟨z_, ho_, es_⟩ := ew_l hew_ (by omega) (by omega) (by omega)
              refine sm_T_go 6 (c1 := (141, [some (.inr (.inr (some (1, 0)))), some (.inl m_), some (.inl f_), some (.inl dp_), some (.inl to_), some (.inl pc_), some (.inl (S_.2.2.1 74 0 pc_.toNat)), some (.inl ((S_.2.2.1 74 0 pc_.toNat) % 32)), some (.inl (((S_.2.2.1 74 0 pc_.toNat) / 32) % 64)), some (.inl ((S_.2.2.1 74 0 pc_.toNat) / 2048))], [.inl ((S_.2.2.1 74 0 pc_.toNat) / 2048), .inl (((S_.2.2.1 74 0 pc_.toNat) / 32) % 64), .inl f_, .inl m_, .inl ((S_.2.2.1 74 0 pc_.toNat) % 32), .inr (.inr (some (1, 0)))], S_)) rfl ?_
              refine sm_T_cal (d1 := 1) (Q1 := vq_37 ((S_.2.2.1 74 0 pc_.toNat) % 32) m_ f_ (((S_.2.2.1 74 0 pc_.toNat) / 32) % 64) ((S_.2.2.1 74 0 pc_.toNat) / 2048) tb_ tn_ A_ mm_ ff_ (S_.2.2.1 74 0 pc_.toNat / 32 % 64).toNat s_.1.1 s_.2.1 s_.2.2.1 s_.2.2.2 z_ q_.2.2 s_.1.2.2 S_) rfl rfl (by omega) (vc_37 ((S_.2.2.1 74 0 pc_.toNat) % 32) m_ f_ (((S_.2.2.1 74 0 pc_.toNat) / 32) % 64) ((S_.2.2.1 74 0 pc_.toNat) / 2048) tb_ tn_ A_ mm_ ff_ (S_.2.2.1 74 0 pc_.toNat / 32 % 64).toNat s_.1.1 s_.2.1 s_.2.2.1 s_.2.2.2 z_ q_.2.2 s_.1.2.2 S_ hI_ (by exact hI_) (by omega) (by omega) (by exact hm1_) (by (have c4_ := cx_.2.2.2.1); (have c5_ := cx_.2.2.2.2.1); (have c6_ := cx_.2.2.2.2.2.1); omega) (by omega) (by exact her1_) (by exact hA_) (by exact cx_.2.2.2.2.2.2.1) (by exact cx8_) (by exact sok_) (by exact ho_)) (fun u_ Sx16_ px19_ => ?_)
              obtain ⟨rfl, hIx17_, hFx18_, px19_⟩ := px19_
              have hFx20_ : ai_fr (sx_W vw_36n) S0_ Sx16_ := ai_fr_tr hF_ (fr_le hFx18_ rfl)
              have hDx21_ : idf dd_ S0_ Sx16_ := idf_tr hD_ (idf_fr hFx18_ (by decide) (by decide))
              have ex22_ : Sx16_.1 1 0 8 = S_.1 1 0 8 := hFx18_.1 1 0 8 rfl
              have e141_ := px19_
              have g141_ := cgl_fr z6_ hFx18_ rfl rfl rfl rfl rfl rfl rfl rfl
              have new_ : cgl dd_ F_ s1_.1.1 Sx16_ ∧ (imq (s1_.1.1.length ≤ 1000) (cxs dd_ F_ I_ ff_ q_.2.2 s1_ Sx16_ ∧ fun_ ff_ q_.2.2 (S0_.2.2.1 26 0) (Sx16_.2.2.1 26 0) ∧ lwS F_ s1_ ∧ cxn dd_ s1_.1.2.1 (nw I_ A_ (nxm F_ I_ A_ C_ nf_) mm_ (S_.2.2.1 74 0 pc_.toNat) s_ xs) Sx16_)) := by rw [es_]; refine ⟨g141_, fun z9_ => ⟨⟨g141_, (hFx18_.1 1 0 9 rfl).trans cx_.2.1, (hFx18_.1 1 0 3 rfl).trans cx_.2.2.1, cx_.2.2.2.1, cx_.2.2.2.2.1, cx_.2.2.2.2.2.1, by rw [fr_arr (t := 26) (i := 0) hFx18_ rfl]; exact cx_.2.2.2.2.2.2.1, e141_, cxe_fr cx_.2.2.2.2.2.2.2.2 hFx18_ rfl rfl rfl rfl⟩, by rw [fr_arr (t := 26) (i := 0) hFx18_ rfl]; exact cf_, by rw [← es_]; exact lw1_ (by rw [es_]; exact z9_), by rw [nw_o (by omega) (by omega)]; exact cxn_fr cn_ hFx18_⟩⟩
              refine sm_T_go 1 (c1 := (159, [some (.inr (.inr (some (1, 0)))), some (.inl m_), some (.inl f_), some (.inl dp_), some (.inl to_), some (.inl pc_), some (.inl (S_.2.2.1 74 0 pc_.toNat)), some (.inl ((S_.2.2.1 74 0 pc_.toNat) % 32)), some (.inl (((S_.2.2.1 74 0 pc_.toNat) / 32) % 64)), some (.inl ((S_.2.2.1 74 0 pc_.toNat) / 2048))], [], Sx16_)) rfl ?_
              refine sm_T_inc (a := 5) (z := 1) (v := pc_) (w := pc_ + 1) rfl rfl (by omega) (by omega) (by omega) ?_
              refine sm_T_go 1 (c1 := (24, [some (.inr (.inr (some (1, 0)))), some (.inl m_), some (.inl f_), some (.inl dp_), some (.inl to_), some (.inl (pc_ + 1)), some (.inl (S_.2.2.1 74 0 pc_.toNat)), some (.inl ((S_.2.2.1 74 0 pc_.toNat) % 32)), some (.inl (((S_.2.2.1 74 0 pc_.toNat) / 32) % 64)), some (.inl ((S_.2.2.1 74 0 pc_.toNat) / 2048))], [], Sx16_)) rfl ?_
              refine sm_T_wk [some (.inr (.inr (some (1, 0)))), some (.inl m_), some (.inl f_), some (.inl dp_), some (.inl to_), some (.inl (pc_ + 1)), none, none, none, none] (by exact ⟨rfl, rfl, rfl, rfl, rfl, rfl, trivial⟩) ?_
              refine ih_ to_ (pc_ + 1) Sx16_ hIx17_ hFx20_ ⟨?_, ?_, ?_, trivial⟩ ?_
              · omega
              · exact ⟨s1_, s9_, c_, _, z9c, hec_, z2_, z3_, z4b, by rw [show (pc_ + 1).toNat = pc_.toNat + 1 by omega]; exact rwv_tl z5_, new_.1, new_.2⟩
              · exact hDx21_
              · omega
          · have cx6_ : ¬ (7 < ((S_.2.2.1 74 0 pc_.toNat) % 32)) := of_decide_eq_false cx6_
            obtain ⟨z_, ho_, es_⟩ := ew_o hew_ (by omega) (by omega)
            refine sm_T_go 2 (c1 := (119, [some (.inr (.inr (some (1, 0)))), some (.inl m_), some (.inl f_), some (.inl dp_), some (.inl to_), some (.inl pc_), some (.inl (S_.2.2.1 74 0 pc_.toNat)), some (.inl ((S_.2.2.1 74 0 pc_.toNat) % 32)), some (.inl (((S_.2.2.1 74 0 pc_.toNat) / 32) % 64)), some (.inl ((S_.2.2.1 74 0 pc_.toNat) / 2048))], [.inl ((S_.2.2.1 74 0 pc_.toNat) % 32), .inr (.inr (some (1, 0)))], S_)) rfl ?_
            refine sm_T_cal (d1 := 4) (Q1 := vq_39 ((S_.2.2.1 74 0 pc_.toNat) % 32) dd_ F_ s_.1.1 s_.2.2.2 z_ S_) rfl rfl (by omega) (vc_39 ((S_.2.2.1 74 0 pc_.toNat) % 32) dd_ F_ s_.1.1 s_.2.2.2 z_ S_ hI_ (by exact hI_) (by exact cgl_d z6_) (by exact z6_) (by exact cx8_) (by exact ho_)) (fun u_ Sx23_ px26_ => ?_)
            obtain ⟨rfl, hIx24_, hFx25_, px26_⟩ := px26_
            have hFx27_ : ai_fr (sx_W vw_36n) S0_ Sx23_ := ai_fr_tr hF_ (fr_le hFx25_ rfl)
            obtain ⟨dx29_, px26_⟩ := px26_
            have hDx28_ : idf dd_ S0_ Sx23_ := idf_tr hD_ dx29_
            have e119_ := px26_
            have new_ : cgl dd_ F_ s1_.1.1 Sx23_ ∧ (imq (s1_.1.1.length ≤ 1000) (cxs dd_ F_ I_ ff_ q_.2.2 s1_ Sx23_ ∧ fun_ ff_ q_.2.2 (S0_.2.2.1 26 0) (Sx23_.2.2.1 26 0) ∧ lwS F_ s1_ ∧ cxn dd_ s1_.1.2.1 (nw I_ A_ (nxm F_ I_ A_ C_ nf_) mm_ (S_.2.2.1 74 0 pc_.toNat) s_ xs) Sx23_)) := by rw [es_]; refine ⟨e119_.1, fun z9_ => ⟨⟨e119_.1, (hFx25_.1 1 0 9 rfl).trans cx_.2.1, (hFx25_.1 1 0 3 rfl).trans cx_.2.2.1, cx_.2.2.2.1, cx_.2.2.2.2.1, cx_.2.2.2.2.2.1, by rw [fr_arr (t := 26) (i := 0) hFx25_ rfl]; exact cx_.2.2.2.2.2.2.1, e119_.2, ⟨(hFx25_.1 3 dd_ 1 rfl).trans cx_.2.2.2.2.2.2.2.2.1, by rw [hFx25_.1 3 dd_ 5 rfl]; exact cx_.2.2.2.2.2.2.2.2.2.1, nxb_up cx_.2.2.2.2.2.2.2.2.2.2 (fr_arr hFx25_ rfl) (by have n9_ := cgl_n z6_ sok_; have n8_ := cgl_n e119_.1 z9_; have n7_ := e_op_le ho_; omega)⟩⟩, by rw [fr_arr (t := 26) (i := 0) hFx25_ rfl]; exact cf_, by rw [← es_]; exact lw1_ (by rw [es_]; exact z9_), by rw [nw_o (by omega) (by omega)]; exact cxn_fr cn_ hFx25_⟩⟩
            refine sm_T_go 1 (c1 := (159, [some (.inr (.inr (some (1, 0)))), some (.inl m_), some (.inl f_), some (.inl dp_), some (.inl to_), some (.inl pc_), some (.inl (S_.2.2.1 74 0 pc_.toNat)), some (.inl ((S_.2.2.1 74 0 pc_.toNat) % 32)), some (.inl (((S_.2.2.1 74 0 pc_.toNat) / 32) % 64)), some (.inl ((S_.2.2.1 74 0 pc_.toNat) / 2048))], [], Sx23_)) rfl ?_
            refine sm_T_inc (a := 5) (z := 1) (v := pc_) (w := pc_ + 1) rfl rfl (by omega) (by omega) (by omega) ?_
            refine sm_T_go 1 (c1 := (24, [some (.inr (.inr (some (1, 0)))), some (.inl m_), some (.inl f_), some (.inl dp_), some (.inl to_), some (.inl (pc_ + 1)), some (.inl (S_.2.2.1 74 0 pc_.toNat)), some (.inl ((S_.2.2.1 74 0 pc_.toNat) % 32)), some (.inl (((S_.2.2.1 74 0 pc_.toNat) / 32) % 64)), some (.inl ((S_.2.2.1 74 0 pc_.toNat) / 2048))], [], Sx23_)) rfl ?_
            refine sm_T_wk [some (.inr (.inr (some (1, 0)))), some (.inl m_), some (.inl f_), some (.inl dp_), some (.inl to_), some (.inl (pc_ + 1)), none, none, none, none] (by exact ⟨rfl, rfl, rfl, rfl, rfl, rfl, trivial⟩) ?_
            refine ih_ to_ (pc_ + 1) Sx23_ hIx24_ hFx27_ ⟨?_, ?_, ?_, trivial⟩ ?_
            · omega
            · exact ⟨s1_, s9_, c_, _, z9c, hec_, z2_, z3_, z4b, by rw [show (pc_ + 1).toNat = pc_.toNat + 1 by omega]; exact rwv_tl z5_, new_.1, new_.2⟩
            · exact hDx28_
            · omega
        · have cx5_ : ¬ (((S_.2.2.1 74 0 pc_.toNat) % 32) ≠ 17) := of_decide_eq_false cx5_
          obtain ⟨o_, z_, hO_, hV_, aM_, d0_, dM_, hX_, es_⟩ := ew17 hew_ (by omega)
          obtain ⟨xE_, P_, xP_⟩ := id cx_.2.2.2.2.2.2.1
          have yP_ := xP_ (S_.2.2.1 74 0 pc_.toNat / 32 % 64).toNat (by omega) o_ hO_
          have y2_ := yP_.2.1
          have c201_ := cx_.2.2.2.1
          have ccl_ := cxs_cl cx_ hV_ (by omega) hO_ yP_.1
          have c6_ := cx_.2.2.2.2.2.1
          have c5_ := cx_.2.2.2.2.1
          refine sm_T_go 2 (c1 := (83, [some (.inr (.inr (some (1, 0)))), some (.inl m_), some (.inl f_), some (.inl dp_), some (.inl to_), some (.inl pc_), some (.inl (S_.2.2.1 74 0 pc_.toNat)), some (.inl ((S_.2.2.1 74 0 pc_.toNat) % 32)), some (.inl (((S_.2.2.1 74 0 pc_.toNat) / 32) % 64)), some (.inl ((S_.2.2.1 74 0 pc_.toNat) / 2048))], [.inl 16, .inl dp_], S_)) rfl ?_
          refine sm_T_br (a := 3) (z := 76) rfl (fun cx30_ => ?_) (fun cx30_ => ?_)
          · have cx30_ : 16 ≤ dp_ := of_decide_eq_true cx30_
            exfalso; omega
          · have cx30_ : ¬ (16 ≤ dp_) := of_decide_eq_false cx30_
            refine sm_T_go 6 (c1 := (96, [some (.inr (.inr (some (1, 0)))), some (.inl m_), some (.inl f_), some (.inl dp_), some (.inl to_), some (.inl pc_), some (.inl (S_.2.2.1 74 0 pc_.toNat)), some (.inl ((S_.2.2.1 74 0 pc_.toNat) % 32)), some (.inl (((S_.2.2.1 74 0 pc_.toNat) / 32) % 64)), some (.inl ((S_.2.2.1 74 0 pc_.toNat) / 2048))], [.inl (((S_.2.2.1 74 0 pc_.toNat) / 32) % 64), .inl f_, .inr (.inr (some (26, 0))), .inl ((S_.2.2.1 74 0 pc_.toNat) / 2048), .inr (.inr (some (1, 0)))], S_)) rfl ?_
            refine sm_T_cal (d1 := 0) (Q1 := vq_35 f_ (((S_.2.2.1 74 0 pc_.toNat) / 32) % 64) S_) rfl rfl (by omega) (vc_35 f_ (((S_.2.2.1 74 0 pc_.toNat) / 32) % 64) S_ hI_ (by omega) (by omega)) (fun u_ Sx31_ px34_ => ?_)
            obtain ⟨rfl, vx36_, rfl, px34_⟩ := px34_
            have e96_ := px34_
            have pt_ : S_.2.2.1 26 0 vx36_.toNat = (P_ (S_.2.2.1 74 0 pc_.toNat / 32 % 64).toNat : Int) := by rw [e96_, show (8 * (40 * f_ + S_.2.2.1 74 0 pc_.toNat / 32 % 64)).toNat = 8 * (40 * ff_ + (S_.2.2.1 74 0 pc_.toNat / 32 % 64).toNat) by omega]; exact yP_.1
            refine sm_T_iald (n := 64320) rfl rfl (by omega) (by omega) ?_
            have bx37_ : 0 ≤ S_.2.2.1 26 0 vx36_.toNat ∧ S_.2.2.1 26 0 vx36_.toNat ≤ 2025 := hI_.2 26 0 _
            refine sm_T_go 2 (c1 := (102, [some (.inr (.inr (some (1, 0)))), some (.inl m_), some (.inl f_), some (.inl dp_), some (.inl to_), some (.inl pc_), some (.inl (S_.2.2.1 74 0 pc_.toNat)), some (.inl ((S_.2.2.1 74 0 pc_.toNat) % 32)), some (.inl (((S_.2.2.1 74 0 pc_.toNat) / 32) % 64)), some (.inl ((S_.2.2.1 74 0 pc_.toNat) / 2048))], [.inl 1, .inl dp_, .inl (S_.2.2.1 26 0 vx36_.toNat), .inl ((S_.2.2.1 74 0 pc_.toNat) / 2048), .inr (.inr (some (1, 0)))], S_)) rfl ?_
            refine sm_T_bin (w := dp_ + 1) rfl (bi_add (by omega) (by omega) (by omega)) ?_
            refine sm_T_cal (d1 := (nf_ + 10)) (Q1 := vq_36n ((S_.2.2.1 74 0 pc_.toNat) / 2048) (S_.2.2.1 26 0 vx36_.toNat) (dp_ + 1) tb_ tn_ A_ C_ (S_.2.2.1 74 0 pc_.toNat / 2048).toNat (P_ (S_.2.2.1 74 0 pc_.toNat / 32 % 64).toNat) dd_ F_ I_ s_.1 o_ z_ xs (nxm F_ I_ A_ C_ nf_ (S_.2.2.1 74 0 pc_.toNat / 2048).toNat s_.1 o_ xs) nf_ S_) rfl rfl (by omega) (ihx_ ((S_.2.2.1 74 0 pc_.toNat) / 2048) (S_.2.2.1 26 0 vx36_.toNat) (dp_ + 1) tb_ tn_ A_ C_ (S_.2.2.1 74 0 pc_.toNat / 2048).toNat (P_ (S_.2.2.1 74 0 pc_.toNat / 32 % 64).toNat) dd_ F_ I_ s_.1 o_ z_ xs (nxm F_ I_ A_ C_ nf_ (S_.2.2.1 74 0 pc_.toNat / 2048).toNat s_.1 o_ xs) nf_ S_ hI_ (by exact hI_) (by exact cgl_d z6_) (by omega) (by exact pt_) (by omega) (by (intro k9_ h9_; exact her1_ k9_ (by omega))) (by exact a_ok_le hA_ (by omega)) (by exact ccd_fr hC_ (by omega) hF_ rfl rfl) (by exact ccl_.1) (by exact sok_) (by (have q9_ : s1_.1.2.1 = z_.1.2.1 := by rw [es_]); omega) (by exact cl_.1) (by exact cl_.2.2.1 _ o_ hO_) (by exact cn_) (by exact hX_) (by rfl)) (fun u_ Sx38_ px41_ => ?_)
            obtain ⟨rfl, hIx39_, hFx40_, px41_⟩ := px41_
            have hFx42_ : ai_fr (sx_W vw_36n) S0_ Sx38_ := ai_fr_tr hF_ (fr_le hFx40_ rfl)
            obtain ⟨dx44_, px41_⟩ := px41_
            have hDx43_ : idf dd_ S0_ Sx38_ := idf_tr hD_ dx44_
            have e103_ := px41_
            have new_ : cgl dd_ F_ s1_.1.1 Sx38_ ∧ (imq (s1_.1.1.length ≤ 1000) (cxs dd_ F_ I_ ff_ q_.2.2 s1_ Sx38_ ∧ fun_ ff_ q_.2.2 (S0_.2.2.1 26 0) (Sx38_.2.2.1 26 0) ∧ lwS F_ s1_ ∧ cxn dd_ s1_.1.2.1 (nw I_ A_ (nxm F_ I_ A_ C_ nf_) mm_ (S_.2.2.1 74 0 pc_.toNat) s_ xs) Sx38_)) := by rw [es_]; refine ⟨e103_.1, fun z9_ => ?_⟩; obtain ⟨o1_, o2_, o3_⟩ := e103_.2 z9_; exact ⟨cxs_ba cx_ (by omega) hO_ yP_.1 e103_.1 o1_ o2_ (hFx40_.1 3 dd_ 1 rfl), fun_tr cf_ (fun j_ q1_ q2_ => o2_ j_ (by omega) (by omega)), by rw [← es_]; exact lw1_ (by rw [es_]; exact z9_), by rw [nw_17 (by omega) hO_]; exact o3_⟩
            refine sm_T_go 1 (c1 := (159, [some (.inr (.inr (some (1, 0)))), some (.inl m_), some (.inl f_), some (.inl dp_), some (.inl to_), some (.inl pc_), some (.inl (S_.2.2.1 74 0 pc_.toNat)), some (.inl ((S_.2.2.1 74 0 pc_.toNat) % 32)), some (.inl (((S_.2.2.1 74 0 pc_.toNat) / 32) % 64)), some (.inl ((S_.2.2.1 74 0 pc_.toNat) / 2048))], [], Sx38_)) rfl ?_
            refine sm_T_inc (a := 5) (z := 1) (v := pc_) (w := pc_ + 1) rfl rfl (by omega) (by omega) (by omega) ?_
            refine sm_T_go 1 (c1 := (24, [some (.inr (.inr (some (1, 0)))), some (.inl m_), some (.inl f_), some (.inl dp_), some (.inl to_), some (.inl (pc_ + 1)), some (.inl (S_.2.2.1 74 0 pc_.toNat)), some (.inl ((S_.2.2.1 74 0 pc_.toNat) % 32)), some (.inl (((S_.2.2.1 74 0 pc_.toNat) / 32) % 64)), some (.inl ((S_.2.2.1 74 0 pc_.toNat) / 2048))], [], Sx38_)) rfl ?_
            refine sm_T_wk [some (.inr (.inr (some (1, 0)))), some (.inl m_), some (.inl f_), some (.inl dp_), some (.inl to_), some (.inl (pc_ + 1)), none, none, none, none] (by exact ⟨rfl, rfl, rfl, rfl, rfl, rfl, trivial⟩) ?_
            refine ih_ to_ (pc_ + 1) Sx38_ hIx39_ hFx42_ ⟨?_, ?_, ?_, trivial⟩ ?_
            · omega
            · exact ⟨s1_, s9_, c_, _, z9c, hec_, z2_, z3_, z4b, by rw [show (pc_ + 1).toNat = pc_.toNat + 1 by omega]; exact rwv_tl z5_, new_.1, new_.2⟩
            · exact hDx43_
            · omega
set_option maxHeartbeats 2000000 in
theorem vc_36n {sc_ : Nat × (Nat → Int)} (m_ : Int) (f_ : Int) (dp_ : Int) (tb_ : Nat → Int) (tn_ : Nat) (A_ : pA) (C_ : Nat → List Int) (mm_ : Nat) (ff_ : Nat) (dd_ : Nat) (F_ : Nat) (I_ : Nat) (q_ : gQ) (e_ : gE) (r_ : gQ × gE) (x0_ : gN) (xr : gN) (nf_ : Nat) (S0_ : sm_S) (hI_ : gi S0_) (hI0_ : gi S0_) (hd_ : S0_.2.1 1 0 1 = some dd_) (hm1_ : m_ = (mm_ : Int) ∧ mm_ ≤ 15) (hf1_ : f_ = (ff_ : Int)) (hdp_ : 0 ≤ dp_ ∧ dp_ + mm_ ≤ 15) (her_ : ∀ k9_, k9_ ≤ mm_ → er1 tb_ tn_ A_ k9_ S0_) (hA_ : a_ok tb_ tn_ A_ mm_) (hC_ : ccd C_ mm_ S0_) (hx_ : cxs dd_ F_ I_ ff_ q_.2.2 (q_, e_, fun _ => none, []) S0_) (hok_ : q_.1.length ≤ 1000) (hRF_ : 1 + I_ + r_.1.2.1 ≤ F_) (hG_ : gwf F_ q_.1) (hlw_ : ∀ a9_, lwl (F_ + q_.1.length) (e_ a9_)) (hn_ : cxn dd_ q_.2.1 x0_ S0_) (he_ : exm F_ I_ A_ C_ (nf_ + 1) mm_ q_ e_ = some r_) (hxr_ : nxm F_ I_ A_ C_ (nf_ + 1) mm_ q_ e_ x0_ = xr) (ihx_ : ∀ (m_ f_ dp_ : Int) (tb_ : Nat → Int) (tn_ : Nat) (A_ : pA) (C_ : Nat → List Int) (mm_ : Nat) (ff_ : Nat) (dd_ : Nat) (F_ : Nat) (I_ : Nat) (q_ : gQ) (e_ : gE) (r_ : gQ × gE) (x0_ : gN) (xr : gN) (nz : Nat) (S0_ : sm_S) (hI_ : gi S0_) (hI0_ : gi S0_) (hd_ : S0_.2.1 1 0 1 = some dd_) (hm1_ : m_ = (mm_ : Int) ∧ mm_ ≤ 15) (hf1_ : f_ = (ff_ : Int)) (hdp_ : 0 ≤ dp_ ∧ dp_ + mm_ ≤ 15) (her_ : ∀ k9_, k9_ ≤ mm_ → er1 tb_ tn_ A_ k9_ S0_) (hA_ : a_ok tb_ tn_ A_ mm_) (hC_ : ccd C_ mm_ S0_) (hx_ : cxs dd_ F_ I_ ff_ q_.2.2 (q_, e_, fun _ => none, []) S0_) (hok_ : q_.1.length ≤ 1000) (hRF_ : 1 + I_ + r_.1.2.1 ≤ F_) (hG_ : gwf F_ q_.1) (hlw_ : ∀ a9_, lwl (F_ + q_.1.length) (e_ a9_)) (hn_ : cxn dd_ q_.2.1 x0_ S0_) (he_ : exm F_ I_ A_ C_ nf_ mm_ q_ e_ = some r_) (hxr_ : nxm F_ I_ A_ C_ nf_ mm_ q_ e_ x0_ = xr), sm_T (mt_P sc_) (nf_ + 10) 36 (0, [some (.inr (.inr (some (1, 0)))), some (.inl m_), some (.inl f_), some (.inl dp_), none, none, none, none, none, none], [], S0_) (fun r9_ => ∃ u_ S1_, r9_ = (.inl u_, S1_, 0) ∧ vq_36n m_ f_ dp_ tb_ tn_ A_ C_ mm_ ff_ dd_ F_ I_ q_ e_ r_ x0_ xr nz S0_ u_ S1_)) : sm_T (mt_P sc_) (nf_ + 1 + 10) 36 (0, [some (.inr (.inr (some (1, 0)))), some (.inl m_), some (.inl f_), some (.inl dp_), none, none, none, none, none, none], [], S0_) (fun ro9_ => ∃ u_ S1_, ro9_ = (.inl u_, S1_, 0) ∧ vq_36n m_ f_ dp_ tb_ tn_ A_ C_ mm_ ff_ dd_ F_ I_ q_ e_ r_ x0_ xr nf_ S0_ u_ S1_) := by
  have hF_ : ai_fr (sx_W vw_36n) S0_ S0_ := ai_fr_rf
  have hD_ : idf dd_ S0_ S0_ := idf_rf
  obtain ⟨p0_, hp1_, hp2_, hp3_, hp4_⟩ := hC_ mm_ (Nat.le_refl _)
  have c0_ : S0_.2.2.1 76 0 m_.toNat = (p0_ : Int) := by rw [show m_.toNat = mm_ by omega]; exact hp1_
  have c1_ : S0_.2.2.1 76 0 (m_ + 1).toNat = ((p0_ + (C_ mm_).length : Nat) : Int) := by rw [show (m_ + 1).toNat = mm_ + 1 by omega]; exact hp2_
  obtain ⟨s9_, hec_, hs9_, hr9_⟩ : ∃ s9_, ec F_ I_ A_ (exm F_ I_ A_ C_ nf_) mm_ (C_ mm_) (q_, e_, fun _ => none, []) = some s9_ ∧ s9_.2.2.2 = [] ∧ r_ = (s9_.1, s9_.2.1) := by rw [exm] at he_; (split at he_); (rename_i s9_ q9_; (split at he_); (rename_i v9_; cases he_; exact ⟨s9_, q9_, v9_, rfl⟩); (cases he_)); (cases he_)
  refine sm_T_go 5 (c1 := (9, [some (.inr (.inr (some (1, 0)))), some (.inl m_), some (.inl f_), some (.inl dp_), none, none, none, none, none, none], [.inl 1, .inl m_, .inr (.inr (some (76, 0)))], S0_)) rfl ?_
  refine sm_T_bin (w := m_ + 1) rfl (bi_add (by omega) (by omega) (by omega)) ?_
  refine sm_T_iald (n := 17) rfl rfl (by omega) (by omega) ?_
  have bx1_ : 0 ≤ S0_.2.2.1 76 0 (m_ + 1).toNat ∧ S0_.2.2.1 76 0 (m_ + 1).toNat ≤ 65536 := hI_.2 76 0 _
  refine sm_T_go 5 (c1 := (21, [some (.inr (.inr (some (1, 0)))), some (.inl m_), some (.inl f_), some (.inl dp_), some (.inl (S0_.2.2.1 76 0 (m_ + 1).toNat)), none, none, none, none, none], [.inl m_, .inr (.inr (some (76, 0)))], S0_)) rfl ?_
  refine sm_T_iald (n := 17) rfl rfl (by omega) (by omega) ?_
  have bx2_ : 0 ≤ S0_.2.2.1 76 0 m_.toNat ∧ S0_.2.2.1 76 0 m_.toNat ≤ 65536 := hI_.2 76 0 _
  refine sm_T_go 1 (c1 := (24, [some (.inr (.inr (some (1, 0)))), some (.inl m_), some (.inl f_), some (.inl dp_), some (.inl (S0_.2.2.1 76 0 (m_ + 1).toNat)), some (.inl (S0_.2.2.1 76 0 m_.toNat)), none, none, none, none], [], S0_)) rfl ?_
  refine (vl_36n m_ f_ dp_ tb_ tn_ A_ C_ mm_ ff_ dd_ F_ I_ q_ e_ r_ x0_ xr nf_ S0_ hI0_ hd_ hm1_ hf1_ hdp_ her_ hA_ hC_ hx_ hok_ hRF_ hG_ hlw_ hn_ he_ hxr_ ihx_ _) (S0_.2.2.1 76 0 (m_ + 1).toNat) (S0_.2.2.1 76 0 m_.toNat) S0_ hI_ hF_ ⟨?_, ?_, ?_, trivial⟩ (Nat.lt_succ_self _)
  · omega
  · refine ⟨(q_, e_, fun _ => none, []), s9_, C_ mm_, x0_, hxr_, hec_, hs9_, hr9_, by omega, ?_, hx_.1, fun _ => ⟨hx_, fun j_ _ _ => rfl, ⟨hG_, hlw_, (fun a9_ o9_ h9_ => by cases h9_), (fun v9_ h9_ => by cases h9_)⟩, hn_⟩⟩
    rw [c0_]
    exact hp4_
  · exact hD_
theorem vc_36nx {sc_ : Nat × (Nat → Int)} : ∀ nf_ : Nat, ∀ (m_ f_ dp_ : Int) (tb_ : Nat → Int) (tn_ : Nat) (A_ : pA) (C_ : Nat → List Int) (mm_ : Nat) (ff_ : Nat) (dd_ : Nat) (F_ : Nat) (I_ : Nat) (q_ : gQ) (e_ : gE) (r_ : gQ × gE) (x0_ : gN) (xr : gN) (nz : Nat) (S0_ : sm_S) (hI_ : gi S0_) (hI0_ : gi S0_) (hd_ : S0_.2.1 1 0 1 = some dd_) (hm1_ : m_ = (mm_ : Int) ∧ mm_ ≤ 15) (hf1_ : f_ = (ff_ : Int)) (hdp_ : 0 ≤ dp_ ∧ dp_ + mm_ ≤ 15) (her_ : ∀ k9_, k9_ ≤ mm_ → er1 tb_ tn_ A_ k9_ S0_) (hA_ : a_ok tb_ tn_ A_ mm_) (hC_ : ccd C_ mm_ S0_) (hx_ : cxs dd_ F_ I_ ff_ q_.2.2 (q_, e_, fun _ => none, []) S0_) (hok_ : q_.1.length ≤ 1000) (hRF_ : 1 + I_ + r_.1.2.1 ≤ F_) (hG_ : gwf F_ q_.1) (hlw_ : ∀ a9_, lwl (F_ + q_.1.length) (e_ a9_)) (hn_ : cxn dd_ q_.2.1 x0_ S0_) (he_ : exm F_ I_ A_ C_ nf_ mm_ q_ e_ = some r_) (hxr_ : nxm F_ I_ A_ C_ nf_ mm_ q_ e_ x0_ = xr), sm_T (mt_P sc_) (nf_ + 10) 36 (0, [some (.inr (.inr (some (1, 0)))), some (.inl m_), some (.inl f_), some (.inl dp_), none, none, none, none, none, none], [], S0_) (fun r9_ => ∃ u_ S1_, r9_ = (.inl u_, S1_, 0) ∧ vq_36n m_ f_ dp_ tb_ tn_ A_ C_ mm_ ff_ dd_ F_ I_ q_ e_ r_ x0_ xr nz S0_ u_ S1_)
  | 0, m_, f_, dp_, tb_, tn_, A_, C_, mm_, ff_, dd_, F_, I_, q_, e_, r_, x0_, xr, nz, S0_, hI_, hI0_, hd_, hm1_, hf1_, hdp_, her_, hA_, hC_, hx_, hok_, hRF_, hG_, hlw_, hn_, he_, hxr_ => by cases he_
  | nf_ + 1, m_, f_, dp_, tb_, tn_, A_, C_, mm_, ff_, dd_, F_, I_, q_, e_, r_, x0_, xr, nz, S0_, hI_, hI0_, hd_, hm1_, hf1_, hdp_, her_, hA_, hC_, hx_, hok_, hRF_, hG_, hlw_, hn_, he_, hxr_ => vc_36n m_ f_ dp_ tb_ tn_ A_ C_ mm_ ff_ dd_ F_ I_ q_ e_ r_ x0_ xr nf_ S0_ hI_ hI0_ hd_ hm1_ hf1_ hdp_ her_ hA_ hC_ hx_ hok_ hRF_ hG_ hlw_ hn_ he_ hxr_ (vc_36nx nf_)
end
