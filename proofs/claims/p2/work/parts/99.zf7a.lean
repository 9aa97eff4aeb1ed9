/-! the reference: the graph; written by wip/p55/gen/vg -/

/-! the_ graph of_ the_ reference -/
theorem rgl_0 {F_ : Nat} {S_ : sm_S} (h1_ : S_.1 13 0 38 = (F_ : Int)) (h2_ : S_.1 13 0 37 = (F_ : Int)) (hF_ : 1 ≤ F_ ∧ F_ ≤ 13) (h3_ : ∀ c_, c_ < 4096 → S_.2.2.1 142 0 c_ = 0) : rgl F_ [] S_ := by
  refine ⟨[], ⟨h1_, hF_, by rw [h2_]; rfl, by simp, fun k_ x_ y_ e_ => by simp at e_, fun i_ j_ p_ e_ => by simp at e_, fun c_ hc_ => Or.inl (h3_ c_ hc_), fun k_ hk_ => absurd hk_ (Nat.not_lt_zero _), fun k_ x_ y_ e_ => by simp at e_⟩, Or.inl ⟨by simp, rfl⟩⟩
def gq0 (tp_ F_ : Nat) (S0_ S_ : sm_S) : Prop := S_.1 13 0 9 = S0_.2.2.1 125 0 tp_ ∧ S_.1 13 0 28 = (tp_ : Int) ∧ S_.1 13 0 29 = 0 ∧ S_.1 13 0 27 = 1 ∧ S_.1 13 0 53 = 0 ∧ S_.1 13 0 10 = 0 ∧ S_.1 13 0 37 = (F_ : Int) ∧ S_.1 13 0 38 = (F_ : Int) ∧ S_.2.2.1 146 0 0 = (tp_ : Int) ∧ S_.2.2.1 149 0 0 = 0 ∧ ∀ c_, c_ < 4096 → S_.2.2.1 142 0 c_ = 0
theorem gq0_fr {w_ : sx_Wl} {tp_ F_ : Nat} {S0_ S_ S'_ : sm_S} (h_ : gq0 tp_ F_ S0_ S_) (g_ : ai_fr (sx_W w_) S_ S'_) (h0_ : (sx_W w_).1 13 9 = false) (h1_ : (sx_W w_).1 13 28 = false) (h2_ : (sx_W w_).1 13 29 = false) (h3_ : (sx_W w_).1 13 27 = false) (h4_ : (sx_W w_).1 13 53 = false) (h5_ : (sx_W w_).1 13 10 = false) (h6_ : (sx_W w_).1 13 37 = false) (h7_ : (sx_W w_).1 13 38 = false) (h8_ : (sx_W w_).2.1 146 = false) (h9_ : (sx_W w_).2.1 149 = false) (h10_ : (sx_W w_).2.1 142 = false) : gq0 tp_ F_ S0_ S'_ := by
  unfold gq0 at h_ ⊢
  rw [g_.1 13 0 9 h0_, g_.1 13 0 28 h1_, g_.1 13 0 29 h2_, g_.1 13 0 27 h3_, g_.1 13 0 53 h4_, g_.1 13 0 10 h5_, g_.1 13 0 37 h6_, g_.1 13 0 38 h7_, fr_arr g_ h8_, fr_arr g_ h9_, fr_arr g_ h10_]
  exact h_
theorem gmd_fr {w_ : sx_Wl} {b_ : Nat → Int} {n_ T_ m_ : Nat} {B_ : pA} {N_ : Nat → Nat} {C_ : Nat → List Int} {S_ S'_ : sm_S} (h_ : gmd b_ n_ T_ B_ N_ C_ m_ S_) (g_ : ai_fr (sx_W w_) S_ S'_) (h0_ : (sx_W w_).2.1 125 = false) : gmd b_ n_ T_ B_ N_ C_ m_ S'_ := by
  obtain ⟨f_, A_, c0_, u_, ce_, i_, h1_, h2_, h3_, h4_, h5_⟩ := h_
  exact ⟨f_, A_, c0_, u_, ce_, i_, h1_, h2_, h3_, h4_, by rw [fr_arr g_ h0_]; exact h5_⟩
theorem ein_8 {b_ : Nat → Int} {n_ m_ : Nat} {A_ : pA} (hA_ : a_ok b_ n_ A_ m_) : (∀ s_, s_ < 40 → (ein A_ m_ s_).length ≤ 8) ∧ ∀ s_, A_.1 m_ ≤ s_ → ein A_ m_ s_ = [] := by
  refine ⟨fun s_ _ => ?_, fun s_ hs_ => ?_⟩
  · unfold ein
    split
    · rename_i h_
      rw [r_bt_l]
      have := ((hA_.2 m_ (Nat.le_refl _)).2 s_ h_.1).2.2.1
      omega
    · simp
  · unfold ein
    rw [if_neg (by omega)]
theorem ein_w {b_ : Nat → Int} {n_ m_ F_ : Nat} {A_ : pA} (hA_ : a_ok b_ n_ A_ m_) (hF_ : 1 + su (t_in A_ 0 m_) (A_.1 m_) ≤ (F_ : Int)) {N_ : Nat} (hN_ : F_ ≤ N_) (s_ : Nat) : lwl N_ (ein A_ m_ s_) := by
  unfold ein
  split
  · rename_i q_
    have cb_ := su_el (f_ := t_in A_ 0 m_) (k_ := A_.1 m_) (fun j_ hj_ => by
      have z_ := ((hA_.2 m_ (Nat.le_refl _)).2 j_ hj_).2.2.1
      unfold t_in
      split <;> omega)
    have b1_ := cb_.2.2 (s_ + 1) (by omega)
    have b2_ := cb_.2.2 s_ (by omega)
    have e_ : su (t_in A_ 0 m_) (s_ + 1) = su (t_in A_ 0 m_) s_ + t_in A_ 0 m_ s_ := rfl
    have e2_ : t_in A_ 0 m_ s_ = A_.2.2.2.1 (40 * m_ + s_) := by unfold t_in; rw [if_pos q_.2]
    refine rbt_w (F_ := F_) (by omega) hN_
  · exact lwl_n
theorem gin_0 {b_ : Nat → Int} {n_ T_ F_ I_ tp_ : Nat} {B_ : pA} {N_ : Nat → Nat} {C_ : Nat → List Int} {z_ : gQ × gE} {S0_ S_ : sm_S} (hq_ : gq0 tp_ F_ S0_ S_) (hF_ : 1 ≤ F_ ∧ F_ ≤ 13) (hA_ : a_ok b_ n_ B_ tp_) (hg_ : gmd b_ n_ T_ B_ N_ C_ tp_ S0_) (hz_ : exm F_ I_ B_ C_ 16 tp_ ([], 0, 1) (ein B_ tp_) = some z_) (hsu_ : 1 + su (t_in B_ 0 tp_) (B_.1 tp_) ≤ (F_ : Int)) (hr_ : ∀ s_, s_ < 40 → rwv (S_.2.2.1 144 0) (8 * s_) (ein B_ tp_ s_)) : ∃ mu_, mu_ < 900000 ∧ gim b_ n_ T_ F_ I_ tp_ B_ N_ (exm F_ I_ B_ C_ 16) z_ mu_ S_ := by
  obtain ⟨q1_, q2_, q3_, q4_, q5_, q6_, q7_, q8_, q9_, qa_, qb_⟩ := hq_
  obtain ⟨f_, A_, c0_, u_, ce_, i_, h1_, h2_, h3_, h4_, h5_⟩ := hg_
  obtain ⟨O'_, x1_⟩ := exm_ev hz_
  have LW_ : lwG F_ ([], 0, 1) (ein B_ tp_) (fun _ => none) := fun _ => ⟨⟨hF_.1, fun k_ x_ y_ e_ => by simp at e_⟩, (fun a_ => ein_w hA_ hsu_ (Nat.le_add_right _ _) a_), (fun a_ o_ e_ => by cases e_), (fun v_ hv_ => by cases hv_)⟩
  refine ⟨(300 - 1) * 3000 + (1301 - u_) + 0, by omega, 0, tp_, f_, A_, c0_, u_, ce_, (C_ tp_).reverse, ein B_ tp_, fun _ => none, ([], 0, 1), z_.1, z_.2, O'_, 0, ⟨q3_, q2_, q5_, q9_, by rw [h2_]; exact qa_⟩, ⟨q6_, i_, q1_.trans h5_, h4_⟩, h1_, h3_, by omega, ?_, (ein_8 hA_).1, (ein_8 hA_).2, fun _ _ => rfl, (fun s_ o_ e_ => by cases e_), ⟨?_, LW_⟩, rgl_0 q8_ q7_ hF_ qb_, by show (1 : Nat) ≤ 201; decide, x1_, ⟨rfl, rfl⟩, rfl⟩
  · rw [h2_]; exact tst_0 (ein_o hA_)
  · rw [h2_]
    exact fun _ => ⟨fun s_ hs_ => by rw [show 8 * (40 * 0 + s_) = 8 * s_ by omega]; exact hr_ s_ hs_, fun s_ o_ hs_ => absurd hs_ (Nat.not_lt_zero _)⟩
/-! M_.makeGraph -/
def vw_349 : sx_Wl := ([(13, 9), (13, 10), (13, 11), (13, 27), (13, 28), (13, 29), (13, 32), (13, 33), (13, 34), (13, 37), (13, 38), (13, 52), (13, 53)], [136, 137, 138, 139, 140, 141, 142, 143, 144, 145, 146, 147, 148, 149, 150, 151, 152], [])
def vq_349 (b_ : Nat → Int) (n_ : Nat) (T_ : Nat) (F_ : Nat) (I_ : Nat) (Rg_ : Nat) (tp_ : Nat) (B_ : pA) (N_ : Nat → Nat) (C_ : Nat → List Int) (z_ : gQ × gE) (S0_ : sm_S) (u_ : Option sm_V) (S1_ : sm_S) : Prop := u_ = none ∧ gi S1_ ∧ ai_fr (sx_W vw_349) S0_ S1_ ∧ (imq (z_.1.1.length ≤ 1000) (S1_.1 13 0 10 = 0 ∧ rgl F_ z_.1.1 S1_ ∧ (rnS S1_ ∧ S1_.1 13 0 53 = (z_.1.2.1 : Int) ∧ ∀ s9_, s9_ < 40 → rwv (S1_.2.2.1 144 0) (8 * s9_) (z_.2 s9_))) ∧ imq (1000 < z_.1.1.length) (S1_.1 13 0 10 = 23 ∧ S1_.1 13 0 11 = S0_.2.2.1 120 0 (S0_.2.2.1 124 0 tp_).toNat))
set_option maxHeartbeats 3000000 in
set_option maxRecDepth 20000 in
theorem vl_349 {sc_ : Nat × (Nat → Int)} (b_ : Nat → Int) (n_ : Nat) (T_ : Nat) (F_ : Nat) (I_ : Nat) (Rg_ : Nat) (tp_ : Nat) (B_ : pA) (N_ : Nat → Nat) (C_ : Nat → List Int) (z_ : gQ × gE) (S0_ : sm_S) (ht_ : rtab b_ n_ T_ S0_) (hf_ : (S0_.1 13 0 10) = 0) (hmo_ : (S0_.1 13 0 12) = (tp_ : Int) + 1 ∧ tp_ ≤ 15) (hre_ : ∀ m_, m_ ≤ tp_ → re1 b_ n_ T_ B_ m_ S0_ ∧ a_ok b_ n_ B_ m_) (hgm_ : ∀ m_, m_ ≤ tp_ → gmd b_ n_ T_ B_ N_ C_ m_ S0_) (hI1_ : S0_.2.2.1 132 0 tp_ = (I_ : Int)) (hR1_ : S0_.2.2.1 134 0 tp_ = (Rg_ : Int)) (hFn_ : F_ = 1 + I_ + Rg_ ∧ I_ + Rg_ ≤ 12) (hsu_ : su (t_in B_ 0 tp_) (B_.1 tp_) = (I_ : Int)) (hz_ : exm F_ I_ B_ C_ 16 tp_ ([], 0, 1) (ein B_ tp_) = some z_) (hzR_ : z_.1.2.1 = Rg_) : ∀ nn_ : Nat, (∀ (top_ : Int) (i_ : Int) (S_ : sm_S), gi S_ → ai_fr (sx_W vw_349) S0_ S_ → ((0 ≤ i_ ∧ i_ ≤ 4096 ∧ top_ = (tp_ : Int)) ∧ (∀ j_, j_ < i_.toNat → S_.2.2.1 142 0 j_ = 0) ∧ (S_.1 13 0 27 = 1 ∧ S_.1 13 0 29 = 0 ∧ S_.1 13 0 37 = (F_ : Int) ∧ S_.1 13 0 38 = (F_ : Int) ∧ S_.1 13 0 10 = 0) ∧ True) → ((2000000 - i_).toNat) < nn_ → sm_T (mt_P sc_) 11 349 (46, [some (.inr (.inr (some (13, 0)))), some (.inl top_), some (.inl i_), none, none], [], S_) (fun ro9_ => ∃ u_ S1_, ro9_ = (.inl u_, S1_, 0) ∧ vq_349 b_ n_ T_ F_ I_ Rg_ tp_ B_ N_ C_ z_ S0_ u_ S1_)) ∧ (∀ (top_ : Int) (nd_ : Int) (k_ : Int) (S_ : sm_S), gi S_ → ai_fr (sx_W vw_349) S0_ S_ → ((0 ≤ k_ ∧ k_ ≤ (B_.1 tp_ : Int) ∧ top_ = (tp_ : Int) ∧ nd_ = 1 + su (t_in B_ 0 tp_) k_.toNat) ∧ (∀ s9_ : Nat, s9_ < k_.toNat → rwv (S_.2.2.1 144 0) (8 * s9_) (ein B_ tp_ s9_) ∧ (ein B_ tp_ s9_).length ≤ 8) ∧ (gq0 tp_ F_ S0_ S_) ∧ (S_.1 13 0 52 = 0) ∧ True) → ((1000000 + 20 * (50 - k_) + 10).toNat) < nn_ → sm_T (mt_P sc_) 11 349 (87, [some (.inr (.inr (some (13, 0)))), some (.inl top_), some (.inl nd_), some (.inl k_), none], [], S_) (fun ro9_ => ∃ u_ S1_, ro9_ = (.inl u_, S1_, 0) ∧ vq_349 b_ n_ T_ F_ I_ Rg_ tp_ B_ N_ C_ z_ S0_ u_ S1_)) ∧ (∀ (top_ : Int) (nd_ : Int) (k_ : Int) (j_ : Int) (S_ : sm_S), gi S_ → ai_fr (sx_W vw_349) S0_ S_ → ((0 ≤ k_ ∧ k_ < (B_.1 tp_ : Int) ∧ top_ = (tp_ : Int) ∧ nd_ = 1 + su (t_in B_ 0 tp_) k_.toNat + j_ ∧ 0 ≤ j_ ∧ j_ ≤ B_.2.2.2.1 (40 * tp_ + k_.toNat) ∧ (0 < j_ → B_.2.2.1 (40 * tp_ + k_.toNat) = 0)) ∧ (∀ s9_ : Nat, s9_ < k_.toNat → rwv (S_.2.2.1 144 0) (8 * s9_) (ein B_ tp_ s9_) ∧ (ein B_ tp_ s9_).length ≤ 8) ∧ (rwv (S_.2.2.1 144 0) (8 * k_.toNat) (r_bt 0 (su (t_in B_ 0 tp_) k_.toNat).toNat j_.toNat)) ∧ (gq0 tp_ F_ S0_ S_) ∧ (S_.1 13 0 52 = 0) ∧ True) → ((1000000 + 20 * (50 - k_) + 9 - j_).toNat) < nn_ → sm_T (mt_P sc_) 11 349 (100, [some (.inr (.inr (some (13, 0)))), some (.inl top_), some (.inl nd_), some (.inl k_), some (.inl j_)], [], S_) (fun ro9_ => ∃ u_ S1_, ro9_ = (.inl u_, S1_, 0) ∧ vq_349 b_ n_ T_ F_ I_ Rg_ tp_ B_ N_ C_ z_ S0_ u_ S1_)) ∧ (∀ (top_ : Int) (dn_ : Int) (mu_ : Int) (S_ : sm_S), gi S_ → ai_fr (sx_W vw_349) S0_ S_ → (((dn_ = 0 ∧ 0 ≤ mu_ ∧ gim b_ n_ T_ F_ I_ tp_ B_ N_ (exm F_ I_ B_ C_ 16) z_ mu_.toNat S_) ∨ (dn_ = 1 ∧ mu_ = -1 ∧ rgl F_ z_.1.1 S_ ∧ z_.1.1.length ≤ 1000 ∧ S_.1 13 0 10 = 0 ∧ (rnS S_ ∧ S_.1 13 0 53 = (z_.1.2.1 : Int) ∧ ∀ s9_, s9_ < 40 → rwv (S_.2.2.1 144 0) (8 * s9_) (z_.2 s9_)))) ∧ (S_.1 13 0 27 = 1) ∧ (top_ = (tp_ : Int)) ∧ (imq (S_.1 13 0 37 - S_.1 13 0 38 ≤ 1000) (rnS S_)) ∧ True) → ((mu_ + 1).toNat) < nn_ → sm_T (mt_P sc_) 11 349 (163, [some (.inr (.inr (some (13, 0)))), some (.inl top_), none, some (.inl dn_), none], [], S_) (fun ro9_ => ∃ u_ S1_, ro9_ = (.inl u_, S1_, 0) ∧ vq_349 b_ n_ T_ F_ I_ Rg_ tp_ B_ N_ C_ z_ S0_ u_ S1_)) := by
  intro nn_
  induction nn_ with
  | zero => exact ⟨fun _ _ _ _ _ _ h_ => absurd h_ (Nat.not_lt_zero _), fun _ _ _ _ _ _ _ h_ => absurd h_ (Nat.not_lt_zero _), fun _ _ _ _ _ _ _ _ h_ => absurd h_ (Nat.not_lt_zero _), fun _ _ _ _ _ _ _ h_ => absurd h_ (Nat.not_lt_zero _)⟩
  | succ nn_ ih_ =>
    refine ⟨?_, ?_, ?_, ?_⟩
    · rintro top_ i_ S_ hI_ hF_ ⟨h0_, h1_, hq_, -⟩ hm_
      have ht1_ := rtab_fr ht_ hF_ rfl rfl rfl rfl rfl
      have mo1_ : S_.1 13 0 12 = (tp_ : Int) + 1 := (hF_.1 13 0 12 rfl).trans hmo_.1
      have tp15_ := hmo_.2
      have hB_ := (hre_ tp_ (Nat.le_refl _)).2
      have B40_ := (hB_.2 tp_ (Nat.le_refl _)).1
      refine sm_T_go 2 (c1 := (50, [some (.inr (.inr (some (13, 0)))), some (.inl top_), some (.inl i_), none, none], [.inl 4096, .inl i_], S_)) rfl ?_
      refine sm_T_br (a := 3) (z := 16) rfl (fun cx1_ => ?_) (fun cx1_ => ?_)
      · have cx1_ : 4096 ≤ i_ := of_decide_eq_true cx1_
        have hIx2_ : gi (sm_pI S_ 13 0 53 0) := gi_pI hI_ (show 0 ≤ 0 ∧ 0 ≤ 6 from ⟨by omega, by omega⟩)
        have hFx3_ : ai_fr (sx_W vw_349) S0_ (sm_pI S_ 13 0 53 0) := ai_fr_tr hF_ (ai_fr_pI rfl)
        have hIx4_ : gi (sm_pI (sm_pI S_ 13 0 53 0) 13 0 52 0) := gi_pI hIx2_ (show 0 ≤ 0 ∧ 0 ≤ 63 from ⟨by omega, by omega⟩)
        have hFx5_ : ai_fr (sx_W vw_349) S0_ (sm_pI (sm_pI S_ 13 0 53 0) 13 0 52 0) := ai_fr_tr hFx3_ (ai_fr_pI rfl)
        refine sm_T_go 10 (c1 := (80, [some (.inr (.inr (some (13, 0)))), some (.inl top_), some (.inl i_), none, none], [.inl 0, .inl 0, .inl top_, .inr (.inr (some (13, 0)))], sm_pI (sm_pI S_ 13 0 53 0) 13 0 52 0)) rfl ?_
        refine sm_T_cal (d1 := 0) (Q1 := vq_341 top_ 0 0 0 (sm_pI (sm_pI S_ 13 0 53 0) 13 0 52 0)) rfl rfl (by decide) (vc_341 top_ 0 0 0 (sm_pI (sm_pI S_ 13 0 53 0) 13 0 52 0) hIx4_ (by (refine ⟨?_, by decide⟩; (have q9_ := hq_.2.1); (try simp only [rd_eq, rd_ne, rf_eq, rf_nk, rf_nt, rd_fa, rd_af, rd_fl, rd_al, rd_lf, rd_la, rd_leq, rd_lne, rd_fr, rd_ar, ne_eq, Nat.reduceEqDiff, not_false_eq_true]); omega)) (by omega) (by decide) (by decide)) (fun u_ Sx6_ px9_ => ?_)
        obtain ⟨rfl, hIx7_, hFx8_, px9_⟩ := px9_
        have hFx10_ : ai_fr (sx_W vw_349) S0_ Sx6_ := ai_fr_tr hFx5_ (fr_le hFx8_ rfl)
        obtain ⟨e1_, e2_, e3_, e4_, e5_, e6_⟩ := px9_
        have b80_ : Sx6_.1 13 0 52 = 0 := (hFx8_.1 13 0 52 rfl).trans (by (try simp only [rd_eq, rd_ne, rf_eq, rf_nk, rf_nt, rd_fa, rd_af, rd_fl, rd_al, rd_lf, rd_la, rd_leq, rd_lne, rd_fr, rd_ar, ne_eq, Nat.reduceEqDiff, not_false_eq_true]))
        have Q80_ : gq0 tp_ F_ S0_ Sx6_ := by (refine ⟨e6_.trans ?_, e5_.trans ?_, (hFx8_.1 13 0 29 rfl).trans ?_, (hFx8_.1 13 0 27 rfl).trans ?_, (hFx8_.1 13 0 53 rfl).trans ?_, (hFx8_.1 13 0 10 rfl).trans ?_, (hFx8_.1 13 0 37 rfl).trans ?_, (hFx8_.1 13 0 38 rfl).trans ?_, (e1_ 0).trans ?_, (e4_ 0).trans ?_, fun c_ hc_ => (congrFun (fr_arr (t := 142) (i := 0) hFx8_ rfl) c_).trans (h1_ c_ (by omega))⟩); (rw [show top_.toNat = tp_ by omega]; exact congrFun (fr_arr (t := 125) (i := 0) hF_ rfl) tp_); (exact h0_.2.2); ((try simp only [rd_eq, rd_ne, rf_eq, rf_nk, rf_nt, rd_fa, rd_af, rd_fl, rd_al, rd_lf, rd_la, rd_leq, rd_lne, rd_fr, rd_ar, ne_eq, Nat.reduceEqDiff, not_false_eq_true]); exact hq_.2.1); ((try simp only [rd_eq, rd_ne, rf_eq, rf_nk, rf_nt, rd_fa, rd_af, rd_fl, rd_al, rd_lf, rd_la, rd_leq, rd_lne, rd_fr, rd_ar, ne_eq, Nat.reduceEqDiff, not_false_eq_true]); exact hq_.1); ((try simp only [rd_eq, rd_ne, rf_eq, rf_nk, rf_nt, rd_fa, rd_af, rd_fl, rd_al, rd_lf, rd_la, rd_leq, rd_lne, rd_fr, rd_ar, ne_eq, Nat.reduceEqDiff, not_false_eq_true])); ((try simp only [rd_eq, rd_ne, rf_eq, rf_nk, rf_nt, rd_fa, rd_af, rd_fl, rd_al, rd_lf, rd_la, rd_leq, rd_lne, rd_fr, rd_ar, ne_eq, Nat.reduceEqDiff, not_false_eq_true]); exact hq_.2.2.2.2); ((try simp only [rd_eq, rd_ne, rf_eq, rf_nk, rf_nt, rd_fa, rd_af, rd_fl, rd_al, rd_lf, rd_la, rd_leq, rd_lne, rd_fr, rd_ar, ne_eq, Nat.reduceEqDiff, not_false_eq_true]); exact hq_.2.2.1); ((try simp only [rd_eq, rd_ne, rf_eq, rf_nk, rf_nt, rd_fa, rd_af, rd_fl, rd_al, rd_lf, rd_la, rd_leq, rd_lne, rd_fr, rd_ar, ne_eq, Nat.reduceEqDiff, not_false_eq_true]); exact hq_.2.2.2.1); (rw [if_pos rfl]; exact h0_.2.2); (rw [if_pos rfl])
        refine sm_T_go 4 (c1 := (87, [some (.inr (.inr (some (13, 0)))), some (.inl top_), some (.inl 1), some (.inl 0), none], [], Sx6_)) rfl ?_
        refine ih_.2.1 top_ 1 0 Sx6_ hIx7_ hFx10_ ⟨?_, ?_, ?_, ?_, trivial⟩ ?_
        · exact ⟨by decide, by omega, h0_.2.2, rfl⟩
        · (intro j_ hj_; exact absurd hj_ (Nat.not_lt_zero _))
        · exact Q80_
        · exact b80_
        · omega
      · have cx1_ : ¬ (4096 ≤ i_) := of_decide_eq_false cx1_
        refine sm_T_go 4 (c1 := (59, [some (.inr (.inr (some (13, 0)))), some (.inl top_), some (.inl i_), none, none], [.inl 0, .inl i_, .inr (.inr (some (142, 0)))], S_)) rfl ?_
        refine sm_T_iast (n := 4096) rfl rfl (by omega) (by omega) ?_
        have hIx11_ : gi (sm_aI S_ 142 0 i_.toNat 0) := gi_aI hI_ (show 0 ≤ 0 ∧ 0 ≤ 1023 from ⟨by omega, by omega⟩)
        have hFx12_ : ai_fr (sx_W vw_349) S0_ (sm_aI S_ 142 0 i_.toNat 0) := ai_fr_tr hF_ (ai_fr_aI rfl)
        refine sm_T_inc (a := 2) (z := 1) (v := i_) (w := i_ + 1) rfl rfl (by omega) (by omega) (by omega) ?_
        refine sm_T_go 1 (c1 := (46, [some (.inr (.inr (some (13, 0)))), some (.inl top_), some (.inl (i_ + 1)), none, none], [], sm_aI S_ 142 0 i_.toNat 0)) rfl ?_
        refine ih_.1 top_ (i_ + 1) (sm_aI S_ 142 0 i_.toNat 0) hIx11_ hFx12_ ⟨?_, ?_, ?_, trivial⟩ ?_
        · omega
        · intro j_ hj_
          rw [rd_eq]
          by_cases w9_ : j_ = i_.toNat
          · rw [if_pos w9_]
          · rw [if_neg w9_]; exact h1_ j_ (by omega)
        · exact hq_
        · omega
    · rintro top_ nd_ k_ S_ hI_ hF_ ⟨h0_, h1_, hq_, hbg_, -⟩ hm_
      have ht1_ := rtab_fr ht_ hF_ rfl rfl rfl rfl rfl
      have mo1_ : S_.1 13 0 12 = (tp_ : Int) + 1 := (hF_.1 13 0 12 rfl).trans hmo_.1
      have tp15_ := hmo_.2
      have hB_ := (hre_ tp_ (Nat.le_refl _)).2
      have B40_ := (hB_.2 tp_ (Nat.le_refl _)).1
      have cn_ : S_.2.2.1 126 0 top_.toNat = (B_.1 tp_ : Int) := by rw [fr_arr (t := 126) (i := 0) hF_ rfl, show top_.toNat = tp_ by omega]; exact (hre_ tp_ (Nat.le_refl _)).1.1
      have cb_ := su_el (f_ := t_in B_ 0 tp_) (k_ := B_.1 tp_) (fun j_ hj_ => by have z_ := ((hB_.2 tp_ (Nat.le_refl _)).2 j_ hj_).2.2.1; unfold t_in; split <;> omega)
      have sv_ : k_ < (B_.1 tp_ : Int) → S_.2.2.1 128 0 (40 * top_ + k_).toNat = r_s2 (B_.2.2.1 (40 * tp_ + k_.toNat)) ∧ S_.2.2.1 129 0 (40 * top_ + k_).toNat = B_.2.2.2.1 (40 * tp_ + k_.toNat) ∧ (r_s2 (B_.2.2.1 (40 * tp_ + k_.toNat)) = 1 ↔ B_.2.2.1 (40 * tp_ + k_.toNat) = 0) := by intro z_; rw [fr_arr (t := 128) (i := 0) hF_ rfl, fr_arr (t := 129) (i := 0) hF_ rfl, show (40 * top_ + k_).toNat = 40 * tp_ + k_.toNat by omega]; exact ⟨((hre_ tp_ (Nat.le_refl _)).1.2 k_.toNat (by omega)).2.1, ((hre_ tp_ (Nat.le_refl _)).1.2 k_.toNat (by omega)).2.2.1, by have q_ := g_in_0 hB_ (Nat.le_refl tp_) (show k_.toNat < B_.1 tp_ by omega); unfold g_in at q_; exact decide_eq_decide.mp q_⟩
      have s1_ : k_ < (B_.1 tp_ : Int) → su (t_in B_ 0 tp_) (k_.toNat + 1) = su (t_in B_ 0 tp_) k_.toNat + t_in B_ 0 tp_ k_.toNat ∧ su (t_in B_ 0 tp_) (k_.toNat + 1) ≤ su (t_in B_ 0 tp_) (B_.1 tp_) ∧ 0 ≤ su (t_in B_ 0 tp_) k_.toNat := fun z_ => ⟨rfl, (cb_.2.2 (k_.toNat + 1) (by omega)).2, (cb_.2.2 k_.toNat (by omega)).1⟩
      refine sm_T_go 4 (c1 := (93, [some (.inr (.inr (some (13, 0)))), some (.inl top_), some (.inl nd_), some (.inl k_), none], [.inl top_, .inr (.inr (some (126, 0))), .inl k_], S_)) rfl ?_
      refine sm_T_iald (n := 16) rfl rfl (by omega) (by omega) ?_
      have bx1_ : 0 ≤ S_.2.2.1 126 0 top_.toNat ∧ S_.2.2.1 126 0 top_.toNat ≤ 40 := hI_.2 126 0 _
      refine sm_T_br (a := 3) (z := 67) rfl (fun cx2_ => ?_) (fun cx2_ => ?_)
      · have cx2_ : (S_.2.2.1 126 0 top_.toNat) ≤ k_ := of_decide_eq_true cx2_
        obtain ⟨mg_, mg1_, mg2_⟩ : ∃ mg_ : Int, (0 ≤ mg_ ∧ mg_ < 900000) ∧ gim b_ n_ T_ F_ I_ tp_ B_ N_ (exm F_ I_ B_ C_ 16) z_ mg_.toNat S_ := by obtain ⟨m9_, y1_, y2_⟩ := gin_0 (N_ := N_) hq_ (by omega) hB_ (hgm_ tp_ (Nat.le_refl _)) hz_ (by omega) (fun s9_ hs9_ => by by_cases w9_ : s9_ < k_.toNat; exact (h1_ s9_ w9_).1; (rw [(ein_8 hB_).2 s9_ (by omega)]; intro k9_ z9_ e9_; simp at e9_)); exact ⟨(m9_ : Int), by omega, by rw [Int.toNat_natCast]; exact y2_⟩
        refine sm_T_go 2 (c1 := (163, [some (.inr (.inr (some (13, 0)))), some (.inl top_), some (.inl nd_), some (.inl 0), none], [], S_)) rfl ?_
        refine sm_T_wk [some (.inr (.inr (some (13, 0)))), some (.inl top_), none, some (.inl 0), none] (by exact ⟨rfl, rfl, rfl, trivial⟩) ?_
        refine ih_.2.2.2 top_ 0 mg_ S_ hI_ hF_ ⟨?_, ?_, ?_, ?_, trivial⟩ ?_
        · exact Or.inl ⟨rfl, mg1_.1, mg2_⟩
        · exact hq_.2.2.2.1
        · exact h0_.2.2.1
        · exact fun _ => ⟨by rw [hbg_, hq_.2.2.2.2.1]; exact ⟨Int.le_refl _, (by decide : (0 : Int) < 2 ^ 0)⟩, fun k9_ hk9_ => by rw [hq_.2.2.2.2.1] at hk9_; omega⟩
        · omega
      · have cx2_ : ¬ ((S_.2.2.1 126 0 top_.toNat) ≤ k_) := of_decide_eq_false cx2_
        have sv1_ := sv_ (by omega)
        have s2_ := s1_ (by omega)
        have wb_ := ((hB_.2 tp_ (Nat.le_refl _)).2 k_.toNat (by omega)).2.2.1
        refine sm_T_go 2 (c1 := (100, [some (.inr (.inr (some (13, 0)))), some (.inl top_), some (.inl nd_), some (.inl k_), some (.inl 0)], [], S_)) rfl ?_
        refine ih_.2.2.1 top_ nd_ k_ 0 S_ hI_ hF_ ⟨?_, ?_, ?_, ?_, ?_, trivial⟩ ?_
        · omega
        · exact h1_
        · (intro k9_ z9_ e9_; simp [r_bt] at e9_)
        · exact hq_
        · exact hbg_
        · omega
    · rintro top_ nd_ k_ j_ S_ hI_ hF_ ⟨h0_, h1_, h2_, hq_, hbg_, -⟩ hm_
      have ht1_ := rtab_fr ht_ hF_ rfl rfl rfl rfl rfl
      have mo1_ : S_.1 13 0 12 = (tp_ : Int) + 1 := (hF_.1 13 0 12 rfl).trans hmo_.1
      have tp15_ := hmo_.2
      have hB_ := (hre_ tp_ (Nat.le_refl _)).2
      have B40_ := (hB_.2 tp_ (Nat.le_refl _)).1
      have cn_ : S_.2.2.1 126 0 top_.toNat = (B_.1 tp_ : Int) := by rw [fr_arr (t := 126) (i := 0) hF_ rfl, show top_.toNat = tp_ by omega]; exact (hre_ tp_ (Nat.le_refl _)).1.1
      have cb_ := su_el (f_ := t_in B_ 0 tp_) (k_ := B_.1 tp_) (fun j_ hj_ => by have z_ := ((hB_.2 tp_ (Nat.le_refl _)).2 j_ hj_).2.2.1; unfold t_in; split <;> omega)
      have sv_ : k_ < (B_.1 tp_ : Int) → S_.2.2.1 128 0 (40 * top_ + k_).toNat = r_s2 (B_.2.2.1 (40 * tp_ + k_.toNat)) ∧ S_.2.2.1 129 0 (40 * top_ + k_).toNat = B_.2.2.2.1 (40 * tp_ + k_.toNat) ∧ (r_s2 (B_.2.2.1 (40 * tp_ + k_.toNat)) = 1 ↔ B_.2.2.1 (40 * tp_ + k_.toNat) = 0) := by intro z_; rw [fr_arr (t := 128) (i := 0) hF_ rfl, fr_arr (t := 129) (i := 0) hF_ rfl, show (40 * top_ + k_).toNat = 40 * tp_ + k_.toNat by omega]; exact ⟨((hre_ tp_ (Nat.le_refl _)).1.2 k_.toNat (by omega)).2.1, ((hre_ tp_ (Nat.le_refl _)).1.2 k_.toNat (by omega)).2.2.1, by have q_ := g_in_0 hB_ (Nat.le_refl tp_) (show k_.toNat < B_.1 tp_ by omega); unfold g_in at q_; exact decide_eq_decide.mp q_⟩
      have s1_ : k_ < (B_.1 tp_ : Int) → su (t_in B_ 0 tp_) (k_.toNat + 1) = su (t_in B_ 0 tp_) k_.toNat + t_in B_ 0 tp_ k_.toNat ∧ su (t_in B_ 0 tp_) (k_.toNat + 1) ≤ su (t_in B_ 0 tp_) (B_.1 tp_) ∧ 0 ≤ su (t_in B_ 0 tp_) k_.toNat := fun z_ => ⟨rfl, (cb_.2.2 (k_.toNat + 1) (by omega)).2, (cb_.2.2 k_.toNat (by omega)).1⟩
      have sv1_ := sv_ (by omega)
      have s2_ := s1_ (by omega)
      have wb_ := ((hB_.2 tp_ (Nat.le_refl _)).2 k_.toNat (by omega)).2.2.1
      refine sm_T_go 5 (c1 := (109, [some (.inr (.inr (some (13, 0)))), some (.inl top_), some (.inl nd_), some (.inl k_), some (.inl j_)], [.inl top_, .inl 40, .inr (.inr (some (129, 0))), .inl j_], S_)) rfl ?_
      refine sm_T_bin (w := 40 * top_) rfl (bi_mul (by omega) (by omega) (by omega)) ?_
      refine sm_T_go 1 (c1 := (111, [some (.inr (.inr (some (13, 0)))), some (.inl top_), some (.inl nd_), some (.inl k_), some (.inl j_)], [.inl k_, .inl (40 * top_), .inr (.inr (some (129, 0))), .inl j_], S_)) rfl ?_
      refine sm_T_bin (w := 40 * top_ + k_) rfl (bi_add (by omega) (by omega) (by omega)) ?_
      refine sm_T_iald (n := 640) rfl rfl (by omega) (by omega) ?_
      have bx1_ : 0 ≤ S_.2.2.1 129 0 (40 * top_ + k_).toNat ∧ S_.2.2.1 129 0 (40 * top_ + k_).toNat ≤ 8 := hI_.2 129 0 _
      refine sm_T_br (a := 3) (z := 42) rfl (fun cx2_ => ?_) (fun cx2_ => ?_)
      · have cx2_ : (S_.2.2.1 129 0 (40 * top_ + k_).toNat) ≤ j_ := of_decide_eq_true cx2_
        refine sm_T_inc (a := 3) (z := 1) (v := k_) (w := k_ + 1) rfl rfl (by omega) (by omega) (by omega) ?_
        refine sm_T_go 1 (c1 := (87, [some (.inr (.inr (some (13, 0)))), some (.inl top_), some (.inl nd_), some (.inl (k_ + 1)), some (.inl j_)], [], S_)) rfl ?_
        refine sm_T_wk [some (.inr (.inr (some (13, 0)))), some (.inl top_), some (.inl nd_), some (.inl (k_ + 1)), none] (by exact ⟨rfl, rfl, rfl, rfl, trivial⟩) ?_
        refine ih_.2.1 top_ nd_ (k_ + 1) S_ hI_ hF_ ⟨?_, ?_, ?_, ?_, trivial⟩ ?_
        · have t9_ : t_in B_ 0 tp_ k_.toNat = j_ := by unfold t_in; split <;> omega
          rw [show (k_ + 1).toNat = k_.toNat + 1 by omega]
          omega
        · intro s9_ hs9_
          by_cases z9_ : s9_ < k_.toNat
          · exact h1_ s9_ z9_
          · have z8_ : s9_ = k_.toNat := by omega
            by_cases k0_ : B_.2.2.1 (40 * tp_ + k_.toNat) = 0
            · have e0_ : ein B_ tp_ s9_ = r_bt 0 (su (t_in B_ 0 tp_) k_.toNat).toNat j_.toNat := by unfold ein; rw [z8_, if_pos ⟨by omega, k0_⟩, show (B_.2.2.2.1 (40 * tp_ + k_.toNat)).toNat = j_.toNat by omega]
              rw [e0_, z8_, r_bt_l]; exact ⟨h2_, by omega⟩
            · have e0_ : ein B_ tp_ s9_ = [] := by unfold ein; rw [z8_, if_neg (fun q_ => k0_ q_.2)]
              rw [e0_]; exact ⟨fun k9_ z9_ e9_ => by simp at e9_, by simp⟩
        · exact hq_
        · exact hbg_
        · omega
      · have cx2_ : ¬ ((S_.2.2.1 129 0 (40 * top_ + k_).toNat) ≤ j_) := of_decide_eq_false cx2_
        refine sm_T_go 4 (c1 := (123, [some (.inr (.inr (some (13, 0)))), some (.inl top_), some (.inl nd_), some (.inl k_), some (.inl j_)], [.inl top_, .inl 40, .inr (.inr (some (128, 0)))], S_)) rfl ?_
        refine sm_T_bin (w := 40 * top_) rfl (bi_mul (by omega) (by omega) (by omega)) ?_
        refine sm_T_go 1 (c1 := (125, [some (.inr (.inr (some (13, 0)))), some (.inl top_), some (.inl nd_), some (.inl k_), some (.inl j_)], [.inl k_, .inl (40 * top_), .inr (.inr (some (128, 0)))], S_)) rfl ?_
        refine sm_T_bin (w := 40 * top_ + k_) rfl (bi_add (by omega) (by omega) (by omega)) ?_
        refine sm_T_iald (n := 640) rfl rfl (by omega) (by omega) ?_
        have bx3_ : 0 ≤ S_.2.2.1 128 0 (40 * top_ + k_).toNat ∧ S_.2.2.1 128 0 (40 * top_ + k_).toNat ≤ 5 := hI_.2 128 0 _
        refine sm_T_go 1 (c1 := (128, [some (.inr (.inr (some (13, 0)))), some (.inl top_), some (.inl nd_), some (.inl k_), some (.inl j_)], [.inl 1, .inl (S_.2.2.1 128 0 (40 * top_ + k_).toNat)], S_)) rfl ?_
        refine sm_T_br (a := 1) (z := 27) rfl (fun cx4_ => ?_) (fun cx4_ => ?_)
        · have cx4_ : (S_.2.2.1 128 0 (40 * top_ + k_).toNat) ≠ 1 := of_decide_eq_true cx4_
          refine sm_T_inc (a := 3) (z := 1) (v := k_) (w := k_ + 1) rfl rfl (by omega) (by omega) (by omega) ?_
          refine sm_T_go 1 (c1 := (87, [some (.inr (.inr (some (13, 0)))), some (.inl top_), some (.inl nd_), some (.inl (k_ + 1)), some (.inl j_)], [], S_)) rfl ?_
          refine sm_T_wk [some (.inr (.inr (some (13, 0)))), some (.inl top_), some (.inl nd_), some (.inl (k_ + 1)), none] (by exact ⟨rfl, rfl, rfl, rfl, trivial⟩) ?_
          refine ih_.2.1 top_ nd_ (k_ + 1) S_ hI_ hF_ ⟨?_, ?_, ?_, ?_, trivial⟩ ?_
          · have t9_ : t_in B_ 0 tp_ k_.toNat = j_ := by unfold t_in; split <;> omega
            rw [show (k_ + 1).toNat = k_.toNat + 1 by omega]
            omega
          · intro s9_ hs9_
            by_cases z9_ : s9_ < k_.toNat
            · exact h1_ s9_ z9_
            · have z8_ : s9_ = k_.toNat := by omega
              by_cases k0_ : B_.2.2.1 (40 * tp_ + k_.toNat) = 0
              · have e0_ : ein B_ tp_ s9_ = r_bt 0 (su (t_in B_ 0 tp_) k_.toNat).toNat j_.toNat := by unfold ein; rw [z8_, if_pos ⟨by omega, k0_⟩, show (B_.2.2.2.1 (40 * tp_ + k_.toNat)).toNat = j_.toNat by omega]
                rw [e0_, z8_, r_bt_l]; exact ⟨h2_, by omega⟩
              · have e0_ : ein B_ tp_ s9_ = [] := by unfold ein; rw [z8_, if_neg (fun q_ => k0_ q_.2)]
                rw [e0_]; exact ⟨fun k9_ z9_ e9_ => by simp at e9_, by simp⟩
          · exact hq_
          · exact hbg_
          · omega
        · have cx4_ : ¬ ((S_.2.2.1 128 0 (40 * top_ + k_).toNat) ≠ 1) := of_decide_eq_false cx4_
          have k0_ : B_.2.2.1 (40 * tp_ + k_.toNat) = 0 := sv1_.2.2.mp (by rw [← sv1_.1]; omega)
          have tn0_ : t_in B_ 0 tp_ k_.toNat = B_.2.2.2.1 (40 * tp_ + k_.toNat) := by unfold t_in; rw [if_pos k0_]
          have sw_ := sv1_.2.1
          refine sm_T_go 4 (c1 := (138, [some (.inr (.inr (some (13, 0)))), some (.inl top_), some (.inl nd_), some (.inl k_), some (.inl j_)], [.inl k_, .inl 8, .inr (.inr (some (144, 0)))], S_)) rfl ?_
          refine sm_T_bin (w := 8 * k_) rfl (bi_mul (by omega) (by omega) (by omega)) ?_
          refine sm_T_go 1 (c1 := (141, [some (.inr (.inr (some (13, 0)))), some (.inl top_), some (.inl nd_), some (.inl k_), some (.inl j_)], [.inl j_, .inl (8 * k_), .inr (.inr (some (144, 0)))], S_)) rfl ?_
          refine sm_T_bin (w := 8 * k_ + j_) rfl (bi_add (by omega) (by omega) (by omega)) ?_
          refine sm_T_go 2 (c1 := (144, [some (.inr (.inr (some (13, 0)))), some (.inl top_), some (.inl nd_), some (.inl k_), some (.inl j_)], [.inl nd_, .inl 2, .inl (8 * k_ + j_), .inr (.inr (some (144, 0)))], S_)) rfl ?_
          refine sm_T_bin (w := 2 * nd_) rfl (bi_mul (by omega) (by omega) (by omega)) ?_
          refine sm_T_iast (n := 5120) rfl rfl (by omega) (by omega) ?_
          have hIx5_ : gi (sm_aI S_ 144 0 (8 * k_ + j_).toNat (2 * nd_)) := gi_aI hI_ (show 0 ≤ 2 * nd_ ∧ 2 * nd_ ≤ 2047 from ⟨by omega, by omega⟩)
          have hFx6_ : ai_fr (sx_W vw_349) S0_ (sm_aI S_ 144 0 (8 * k_ + j_).toNat (2 * nd_)) := ai_fr_tr hF_ (ai_fr_aI rfl)
          refine sm_T_inc (a := 2) (z := 1) (v := nd_) (w := nd_ + 1) rfl rfl (by omega) (by omega) (by omega) ?_
          refine sm_T_inc (a := 4) (z := 1) (v := j_) (w := j_ + 1) rfl rfl (by omega) (by omega) (by omega) ?_
          refine sm_T_go 1 (c1 := (100, [some (.inr (.inr (some (13, 0)))), some (.inl top_), some (.inl (nd_ + 1)), some (.inl k_), some (.inl (j_ + 1))], [], sm_aI S_ 144 0 (8 * k_ + j_).toNat (2 * nd_))) rfl ?_
          refine ih_.2.2.1 top_ (nd_ + 1) k_ (j_ + 1) (sm_aI S_ 144 0 (8 * k_ + j_).toNat (2 * nd_)) hIx5_ hFx6_ ⟨?_, ?_, ?_, ?_, ?_, trivial⟩ ?_
          · omega
          · intro s9_ hs9_
            have w_ := h1_ s9_ hs9_
            exact ⟨rwv_cg w_.1 (fun k9_ hk9_ => by have w2_ := w_.2; rw [rd_eq, if_neg (by omega)]), w_.2⟩
          · rw [show (j_ + 1).toNat = j_.toNat + 1 by omega, r_bt_s]
            refine rwv_ap (q_ := 8 * k_.toNat + j_.toNat) h2_ (by rw [r_bt_l]) (fun j9_ => ?_)
            rw [rd_eq, show (_ : Int).toNat = 8 * k_.toNat + j_.toNat from by omega]
            by_cases q9_ : j9_ = 8 * k_.toNat + j_.toNat
            · rw [if_pos q9_, if_pos q9_]; push_cast; omega
            · rw [if_neg q9_, if_neg q9_]
          · exact gq0_fr (w_ := ([], [144], [])) hq_ (ai_fr_aI rfl) rfl rfl rfl rfl rfl rfl rfl rfl rfl rfl rfl
          · exact hbg_
          · omega
    · rintro top_ dn_ mu_ S_ hI_ hF_ ⟨h0_, hm1_, h2_, h3_, -⟩ hm_
      have ht1_ := rtab_fr ht_ hF_ rfl rfl rfl rfl rfl
      have mo1_ : S_.1 13 0 12 = (tp_ : Int) + 1 := (hF_.1 13 0 12 rfl).trans hmo_.1
      have tp15_ := hmo_.2
      have hB_ := (hre_ tp_ (Nat.le_refl _)).2
      have B40_ := (hB_.2 tp_ (Nat.le_refl _)).1
      refine sm_T_go 1 (c1 := (164, [some (.inr (.inr (some (13, 0)))), some (.inl top_), none, some (.inl dn_), none], [.inl dn_], S_)) rfl ?_
      refine sm_T_b0 (a := 1) (z := 53) rfl (fun cx1_ => ?_) (fun cx1_ => ?_)
      · have cx1_ : dn_ ≠ 0 := of_decide_eq_true cx1_
        have PP_ : rgl F_ z_.1.1 S_ ∧ z_.1.1.length ≤ 1000 ∧ S_.1 13 0 10 = 0 ∧ (rnS S_ ∧ S_.1 13 0 53 = (z_.1.2.1 : Int) ∧ ∀ s9_, s9_ < 40 → rwv (S_.2.2.1 144 0) (8 * s9_) (z_.2 s9_)) := by rcases h0_ with z9_ | z9_; (exfalso; have := z9_.1; omega); exact z9_.2.2
        have PQ_ : imq (z_.1.1.length ≤ 1000) (S_.1 13 0 10 = 0 ∧ rgl F_ z_.1.1 S_ ∧ (rnS S_ ∧ S_.1 13 0 53 = (z_.1.2.1 : Int) ∧ ∀ s9_, s9_ < 40 → rwv (S_.2.2.1 144 0) (8 * s9_) (z_.2 s9_))) ∧ imq (1000 < z_.1.1.length) (S_.1 13 0 10 = 23 ∧ S_.1 13 0 11 = S0_.2.2.1 120 0 (S0_.2.2.1 124 0 tp_).toNat) := ⟨fun _ => ⟨PP_.2.2.1, PP_.1, PP_.2.2.2⟩, fun z9_ => by have := PP_.2.1; omega⟩
        refine sm_T_go 1 (c1 := (218, [some (.inr (.inr (some (13, 0)))), some (.inl top_), none, some (.inl dn_), none], [.inl dn_], S_)) rfl ?_
        refine sm_T_b0 (a := 1) (z := 15) rfl (fun cx2_ => ?_) (fun cx2_ => ?_)
        · have cx2_ : dn_ ≠ 0 := of_decide_eq_true cx2_
          refine sm_T_rv rfl ⟨_, _, rfl, rfl, hI_, hF_, ?_⟩
          exact PQ_
        · have cx2_ : ¬ (dn_ ≠ 0) := of_decide_eq_false cx2_
          exfalso; omega
      · have cx1_ : ¬ (dn_ ≠ 0) := of_decide_eq_false cx1_
        have hgi_ : 0 ≤ mu_ ∧ gim b_ n_ T_ F_ I_ tp_ B_ N_ (exm F_ I_ B_ C_ 16) z_ mu_.toNat S_ := by rcases h0_ with z9_ | z9_; exact z9_.2; (exfalso; have := z9_.1; omega)
        obtain ⟨hmu_, fr_, M_, f_, A_, c_, p_, ce_, rest, E_, O_, q_, q9_, E9_, O9_, w_, G_⟩ := hgi_
        have G0_ := G_
        obtain ⟨g1_, g2_, g3_, g4_, g5_, g6_, g7_, g8_, g9_, ga_, gb_, gc_, gd_, ge_, gf_, gg_⟩ := G_
        have lb_ := rgl_b gc_
        have lz := gin_le exm_hX G0_
        have lb1_ := lb_.1
        have lb2_ := lb_.2.2.1
        have lb3_ := lb_.2.2.2.1
        have lb4_ := lb_.2.2.2.2
        have g11_ := g1_.1
        have hrn0_ := h3_
        have bx3_ : 0 ≤ S_.1 13 0 37 ∧ S_.1 13 0 37 ≤ 1014 := hI_.1 13 0 37 rfl
        have bx4_ : 0 ≤ S_.1 13 0 38 ∧ S_.1 13 0 38 ≤ 19 := hI_.1 13 0 38 rfl
        refine sm_T_go 4 (c1 := (175, [some (.inr (.inr (some (13, 0)))), some (.inl top_), none, some (.inl dn_), none], [.inl (S_.1 13 0 38), .inl (S_.1 13 0 37)], S_)) rfl ?_
        refine sm_T_bin (w := (S_.1 13 0 37) - (S_.1 13 0 38)) rfl (bi_sub (by omega) (by omega) (by omega)) ?_
        refine sm_T_go 1 (c1 := (179, [some (.inr (.inr (some (13, 0)))), some (.inl top_), none, some (.inl dn_), none], [.inl 1000, .inl ((S_.1 13 0 37) - (S_.1 13 0 38))], S_)) rfl ?_
        refine sm_T_br (a := 4) (z := 38) rfl (fun cx5_ => ?_) (fun cx5_ => ?_)
        · have cx5_ : 1000 < (S_.1 13 0 37) - (S_.1 13 0 38) := of_decide_eq_true cx5_
          refine sm_T_go 1 (c1 := (218, [some (.inr (.inr (some (13, 0)))), some (.inl top_), none, some (.inl dn_), none], [.inl dn_], S_)) rfl ?_
          refine sm_T_b0 (a := 1) (z := 15) rfl (fun cx6_ => ?_) (fun cx6_ => ?_)
          · have cx6_ : dn_ ≠ 0 := of_decide_eq_true cx6_
            exfalso; omega
          · have cx6_ : ¬ (dn_ ≠ 0) := of_decide_eq_false cx6_
            refine sm_T_go 5 (c1 := (229, [some (.inr (.inr (some (13, 0)))), some (.inl top_), none, some (.inl dn_), none], [.inl top_, .inr (.inr (some (124, 0))), .inl 23, .inr (.inr (some (13, 0)))], S_)) rfl ?_
            refine sm_T_iald (n := 16) rfl rfl (by omega) (by omega) ?_
            have bx7_ : 0 ≤ S_.2.2.1 124 0 top_.toNat ∧ S_.2.2.1 124 0 top_.toNat ≤ 1280 := hI_.2 124 0 _
            refine sm_T_cal (d1 := 0) (Q1 := vq_294 23 (S_.2.2.1 124 0 top_.toNat) S_) rfl rfl (by decide) (vc_294 23 (S_.2.2.1 124 0 top_.toNat) S_ hI_ (by decide) (by omega)) (fun u_ Sx8_ px11_ => ?_)
            obtain ⟨rfl, hIx9_, hFx10_, px11_⟩ := px11_
            have hFx12_ : ai_fr (sx_W vw_349) S0_ Sx8_ := ai_fr_tr hF_ (fr_le hFx10_ rfl)
            have ex13_ : Sx8_.1 13 0 38 = S_.1 13 0 38 := hFx10_.1 13 0 38 rfl
            have ex14_ : Sx8_.1 13 0 37 = S_.1 13 0 37 := hFx10_.1 13 0 37 rfl
            have PQ_ : imq (z_.1.1.length ≤ 1000) (Sx8_.1 13 0 10 = 0 ∧ rgl F_ z_.1.1 Sx8_ ∧ (rnS Sx8_ ∧ Sx8_.1 13 0 53 = (z_.1.2.1 : Int) ∧ ∀ s9_, s9_ < 40 → rwv (Sx8_.2.2.1 144 0) (8 * s9_) (z_.2 s9_))) ∧ imq (1000 < z_.1.1.length) (Sx8_.1 13 0 10 = 23 ∧ Sx8_.1 13 0 11 = S0_.2.2.1 120 0 (S0_.2.2.1 124 0 tp_).toNat) := ⟨fun z9_ => by omega, fun _ => by rcases px11_ with x_ | x_; (exact absurd g2_.1 x_.1); (refine ⟨x_.2.1, x_.2.2.trans ?_⟩; rw [fr_arr (t := 120) (i := 0) hF_ rfl, fr_arr (t := 124) (i := 0) hF_ rfl, show top_.toNat = tp_ by omega])⟩
            refine sm_T_rv rfl ⟨_, _, rfl, rfl, hIx9_, hFx12_, ?_⟩
            exact PQ_
        · have cx5_ : ¬ (1000 < (S_.1 13 0 37) - (S_.1 13 0 38)) := of_decide_eq_false cx5_
          refine sm_T_go 2 (c1 := (185, [some (.inr (.inr (some (13, 0)))), some (.inl top_), none, some (.inl dn_), none], [.inl 125, .inr (.inr (some (13, 0)))], S_)) rfl ?_
          refine sm_T_cal (d1 := 0) (Q1 := vq_295 125 b_ n_ T_ (.inr p_) S_) rfl rfl (by decide) (vc_295 125 b_ n_ T_ (.inr p_) S_ hI_ (by exact ht1_) (by exact g2_) (by decide)) (fun u_ Sx15_ px18_ => ?_)
          obtain ⟨rfl, vx20_, rfl, px18_⟩ := px18_
          have e185_ := px18_.2 p_ rfl
          have r185_ := px18_.1.1
          refine sm_T_b0 (a := 1) (z := 10) rfl (fun cx21_ => ?_) (fun cx21_ => ?_)
          · have cx21_ : vx20_ ≠ 0 := of_decide_eq_true cx21_
            have k125_ : lx_kd b_ n_ p_ = 125 := e185_.mp (by omega)
            have bx22_ : 0 ≤ S_.1 13 0 29 ∧ S_.1 13 0 29 ≤ 16 := hI_.1 13 0 29 rfl
            refine sm_T_go 2 (c1 := (202, [some (.inr (.inr (some (13, 0)))), some (.inl top_), none, some (.inl dn_), none], [.inl (S_.1 13 0 29)], S_)) rfl ?_
            refine sm_T_b0 (a := 5) (z := 10) rfl (fun cx23_ => ?_) (fun cx23_ => ?_)
            · have cx23_ : (S_.1 13 0 29) ≤ 0 := of_decide_eq_true cx23_
              have fr0_ : fr_ = 0 := by omega
              subst fr0_
              have zz_ := gin_D G0_ k125_
              have GR_ : ∀ s9_, s9_ < 40 → rwv (S_.2.2.1 144 0) (8 * s9_) (E_ s9_) := by (intro s9_ hs9_; have e9_ := gin_e G0_ k125_; by_cases y9_ : s9_ < A_.1 M_; (have w9_ := (gb_.1 (by omega)).1 s9_ (by omega); rw [show 8 * (40 * 0 + s9_) = 8 * s9_ by omega] at w9_; exact w9_); (rw [g8_ s9_ (by rw [← e9_.1]; omega)]; intro k9_ z9_ e8_; simp at e8_))
              obtain ⟨mg_, mg1_⟩ : ∃ mg_ : Int, mg_ = -1 := ⟨-1, rfl⟩
              have m27_ := hm1_
              have H3_ := h3_
              refine sm_T_go 3 (c1 := (163, [some (.inr (.inr (some (13, 0)))), some (.inl top_), none, some (.inl 1), none], [], S_)) rfl ?_
              refine ih_.2.2.2 top_ 1 mg_ S_ hI_ hF_ ⟨?_, ?_, ?_, ?_, trivial⟩ ?_
              · first | exact Or.inl ⟨by omega, mg1_.1, mg2_⟩ | (refine Or.inr ⟨rfl, mg1_, ?_, ?_, g2_.1, ?_, ?_, ?_⟩; (rw [zz_]; exact gc_); (rw [zz_]; show q_.1.length ≤ 1000; omega); (exact hrn0_ (by omega)); (rw [zz_]; exact g1_.2.2.1); (intro s9_ hs9_; rw [zz_]; exact GR_ s9_ hs9_))
              · exact m27_
              · exact h2_
              · exact H3_
              · omega
            · have cx23_ : ¬ ((S_.1 13 0 29) ≤ 0) := of_decide_eq_false cx23_
              obtain ⟨fr0_, hfr_⟩ : ∃ fr0_, fr_ = fr0_ + 1 := ⟨fr_ - 1, by omega⟩
              subst hfr_
              obtain ⟨K_, y1_, y2_, y3_, y4_, -⟩ := gin_L0 tp15_ G0_
              refine sm_T_go 1 (c1 := (206, [some (.inr (.inr (some (13, 0)))), some (.inl top_), none, some (.inl dn_), none], [.inr (.inr (some (13, 0)))], S_)) rfl ?_
              refine sm_T_cal (d1 := 0) (Q1 := vq_346 fr0_ M_ K_ (B_.1 M_) S_) rfl rfl (by decide) (vc_346 fr0_ M_ K_ (B_.1 M_) S_ hI_ (by omega) (by exact ⟨g1_.2.1, y3_⟩) (by exact ⟨y1_, y2_⟩) (by exact ⟨(re1_fr (hre_ M_ (by omega)).1 hF_ rfl rfl rfl rfl rfl rfl).1, ((a_ok_le hB_ (show M_ ≤ tp_ by omega)).2 M_ (Nat.le_refl _)).1⟩)) (fun u_ Sx24_ px27_ => ?_)
              obtain ⟨rfl, hIx25_, hFx26_, px27_⟩ := px27_
              have hFx28_ : ai_fr (sx_W vw_349) S0_ Sx24_ := ai_fr_tr hF_ (fr_le hFx26_ rfl)
              have ex29_ : Sx24_.1 13 0 38 = S_.1 13 0 38 := hFx26_.1 13 0 38 rfl
              have ex30_ : Sx24_.1 13 0 37 = S_.1 13 0 37 := hFx26_.1 13 0 37 rfl
              obtain ⟨x1_, x2_, x3_, x4_, x5_⟩ := px27_
              obtain ⟨mg_, mg1_, mg2_⟩ : ∃ mg_ : Int, (0 ≤ mg_ ∧ mg_ < mu_) ∧ gim b_ n_ T_ F_ I_ tp_ B_ N_ (exm F_ I_ B_ C_ 16) z_ mg_.toNat Sx24_ := by obtain ⟨m9_, v1_, v2_⟩ := gin_L ht_.1 G0_ k125_ y1_ x1_ x2_ x3_ x4_ x5_ (fr_arr hFx26_ rfl) (fr_arr hFx26_ rfl) (fr_arr hFx26_ rfl) (fr_arr hFx26_ rfl) (fr_arr hFx26_ rfl) (hFx26_.1 13 0 53 rfl) (hFx26_.1 13 0 10 rfl) (fun z9_ => rgl_fr z9_ hFx26_ rfl rfl rfl rfl rfl rfl); exact ⟨(m9_ : Int), by omega, by rw [Int.toNat_natCast]; exact v2_⟩
              have m27_ := (hFx26_.1 13 0 27 rfl).trans hm1_
              have H3_ : imq (Sx24_.1 13 0 37 - Sx24_.1 13 0 38 ≤ 1000) (rnS Sx24_) := fun q7_ => rnS_fr (hrn0_ (by omega)) hFx26_ rfl rfl rfl rfl
              refine sm_T_go 1 (c1 := (163, [some (.inr (.inr (some (13, 0)))), some (.inl top_), none, some (.inl dn_), none], [], Sx24_)) rfl ?_
              refine ih_.2.2.2 top_ dn_ mg_ Sx24_ hIx25_ hFx28_ ⟨?_, ?_, ?_, ?_, trivial⟩ ?_
              · first | exact Or.inl ⟨by omega, mg1_.1, mg2_⟩ | (refine Or.inr ⟨rfl, mg1_, ?_, ?_, g2_.1, ?_, ?_, ?_⟩; (rw [zz_]; exact gc_); (rw [zz_]; show q_.1.length ≤ 1000; omega); (exact hrn0_ (by omega)); (rw [zz_]; exact g1_.2.2.1); (intro s9_ hs9_; rw [zz_]; exact GR_ s9_ hs9_))
              · exact m27_
              · exact h2_
              · exact H3_
              · omega
          · have cx21_ : ¬ (vx20_ ≠ 0) := of_decide_eq_false cx21_
            have k125_ : lx_kd b_ n_ p_ ≠ 125 := fun z9_ => by have := e185_.mpr z9_; omega
            obtain ⟨f1_, rr_, kk_, rest1, q1_, E1_, O1_, V1_, i1_, i2_, i3_, i4_, i5_, i6_, i7_, i8_, i9_⟩ := gin_it ht_.1 G0_ k125_
            have mx_ := mch_ex g3_
            have M15_ := mx_.1.1
            refine sm_T_go 1 (c1 := (192, [some (.inr (.inr (some (13, 0)))), some (.inl top_), none, some (.inl dn_), none], [.inr (.inr (some (13, 0)))], S_)) rfl ?_
            refine sm_T_cal (d1 := 10) (Q1 := vq_348 b_ n_ T_ F_ I_ A_ B_ (exm F_ I_ B_ C_ 16) M_ fr_ q_ E_ O_ p_ N_ c_ kk_ rr_ q1_ E1_ O1_ V1_ S_) rfl rfl (by decide) (vc_348 b_ n_ T_ F_ I_ A_ B_ (exm F_ I_ B_ C_ 16) M_ fr_ q_ E_ O_ p_ N_ c_ kk_ rr_ q1_ E1_ O1_ V1_ S_ hI_ (by exact ht1_) (by exact g2_) (by exact hm1_) (by exact ⟨a_ok_le hB_ (by omega), g1_.2.1, ⟨g1_.1, by omega⟩, fun m_ hm_ => re1_fr (hre_ m_ (by omega)).1 hF_ rfl rfl rfl rfl rfl rfl⟩) (by exact mx_.1) (by exact mx_.2.1) (by exact exm_hX) (by exact g6_.1) (by exact gb_.1) (by exact gc_) (by exact g6_) (by exact i1_) (by exact i2_) (by exact i3_) (by exact i4_) (by exact g8_) (by exact g7_) (by exact g9_) (by exact g1_.2.2.1) (by omega) (by (refine ⟨?_, by omega⟩; rw [fr_arr (t := 132) (i := 0) hF_ rfl, show (S_.1 13 0 12 - 1).toNat = tp_ by omega]; exact hI1_)) (by exact g1_.2.2.2.2) (by omega) (by exact hrn0_ (by omega)) (by exact gb_.2 (by omega)) (by exact exm_w 16) (by (have q7_ : q1_.2.1 ≤ q9_.2.1 := ev_R (exm_w 16) i7_; have q8_ := gin_R (exm_w 16) G0_; omega))) (fun u_ Sx31_ px34_ => ?_)
            obtain ⟨rfl, hIx32_, hFx33_, px34_⟩ := px34_
            have hFx35_ : ai_fr (sx_W vw_349) S0_ Sx31_ := ai_fr_tr hF_ (fr_le hFx33_ rfl)
            have ex36_ : Sx31_.1 13 0 38 = S_.1 13 0 38 := hFx33_.1 13 0 38 rfl
            obtain ⟨mg_, mg1_, mg2_⟩ : ∃ mg_ : Int, (0 ≤ mg_ ∧ mg_ < mu_) ∧ gim b_ n_ T_ F_ I_ tp_ B_ N_ (exm F_ I_ B_ C_ 16) z_ mg_.toNat Sx31_ := by by_cases k8_ : lx_kd b_ n_ p_ = 8; (obtain ⟨m9_, y1_, y2_⟩ := gin_8 ht_.1 (fun m_ hm_ => gmd_fr (hgm_ m_ hm_) hF_ rfl) G0_ i5_ i6_ i4_ i7_ i8_ (fr_arr hFx33_ rfl) (by omega) (by omega) (px34_.1.2 k8_); exact ⟨(m9_ : Int), by omega, by rw [Int.toNat_natCast]; exact y2_⟩); (obtain ⟨m9_, y1_, y2_⟩ := gin_N (kk_ := kk_) ht_.1 G0_ i5_ i6_ i7_ i8_ i9_ (fr_arr hFx33_ rfl) (exm_w 16) (by omega) i4_ (by have q7_ : q1_.2.1 ≤ q9_.2.1 := ev_R (exm_w 16) i7_; have q8_ := gin_R (exm_w 16) G0_; omega) (px34_.1.1 k8_); exact ⟨(m9_ : Int), by omega, by rw [Int.toNat_natCast]; exact ⟨_, _, _, _, _, _, _, _, _, _, _, _, _, _, _, y2_⟩⟩)
            have m27_ := (hFx33_.1 13 0 27 rfl).trans hm1_
            have H3_ := px34_.2
            refine sm_T_go 1 (c1 := (163, [some (.inr (.inr (some (13, 0)))), some (.inl top_), none, some (.inl dn_), none], [], Sx31_)) rfl ?_
            refine ih_.2.2.2 top_ dn_ mg_ Sx31_ hIx32_ hFx35_ ⟨?_, ?_, ?_, ?_, trivial⟩ ?_
            · first | exact Or.inl ⟨by omega, mg1_.1, mg2_⟩ | (refine Or.inr ⟨rfl, mg1_, ?_, ?_, g2_.1, ?_, ?_, ?_⟩; (rw [zz_]; exact gc_); (rw [zz_]; show q_.1.length ≤ 1000; omega); (exact hrn0_ (by omega)); (rw [zz_]; exact g1_.2.2.1); (intro s9_ hs9_; rw [zz_]; exact GR_ s9_ hs9_))
            · exact m27_
            · exact h2_
            · exact H3_
            · omega
set_option maxHeartbeats 3000000 in
set_option maxRecDepth 20000 in
theorem vc_349 {sc_ : Nat × (Nat → Int)} (b_ : Nat → Int) (n_ : Nat) (T_ : Nat) (F_ : Nat) (I_ : Nat) (Rg_ : Nat) (tp_ : Nat) (B_ : pA) (N_ : Nat → Nat) (C_ : Nat → List Int) (z_ : gQ × gE) (S0_ : sm_S) (hI_ : gi S0_) (ht_ : rtab b_ n_ T_ S0_) (hf_ : (S0_.1 13 0 10) = 0) (hmo_ : (S0_.1 13 0 12) = (tp_ : Int) + 1 ∧ tp_ ≤ 15) (hre_ : ∀ m_, m_ ≤ tp_ → re1 b_ n_ T_ B_ m_ S0_ ∧ a_ok b_ n_ B_ m_) (hgm_ : ∀ m_, m_ ≤ tp_ → gmd b_ n_ T_ B_ N_ C_ m_ S0_) (hI1_ : S0_.2.2.1 132 0 tp_ = (I_ : Int)) (hR1_ : S0_.2.2.1 134 0 tp_ = (Rg_ : Int)) (hFn_ : F_ = 1 + I_ + Rg_ ∧ I_ + Rg_ ≤ 12) (hsu_ : su (t_in B_ 0 tp_) (B_.1 tp_) = (I_ : Int)) (hz_ : exm F_ I_ B_ C_ 16 tp_ ([], 0, 1) (ein B_ tp_) = some z_) (hzR_ : z_.1.2.1 = Rg_) : sm_T (mt_P sc_) 11 349 (0, [some (.inr (.inr (some (13, 0)))), none, none, none, none], [], S0_) (fun ro9_ => ∃ u_ S1_, ro9_ = (.inl u_, S1_, 0) ∧ vq_349 b_ n_ T_ F_ I_ Rg_ tp_ B_ N_ C_ z_ S0_ u_ S1_) := by
  have hF_ : ai_fr (sx_W vw_349) S0_ S0_ := ai_fr_rf
  have tp15_ := hmo_.2
  have tpe_ : (S0_.1 13 0 12 - 1).toNat = tp_ := by omega
  have i1_ : S0_.2.2.1 132 0 (S0_.1 13 0 12 - 1).toNat = (I_ : Int) := by rw [tpe_]; exact hI1_
  have i2_ : S0_.2.2.1 134 0 (S0_.1 13 0 12 - 1).toNat = (Rg_ : Int) := by rw [tpe_]; exact hR1_
  have bx1_ : 0 ≤ S0_.1 13 0 12 ∧ S0_.1 13 0 12 ≤ 16 := hI_.1 13 0 12 rfl
  refine sm_T_go 3 (c1 := (5, [some (.inr (.inr (some (13, 0)))), none, none, none, none], [.inl 1, .inl (S0_.1 13 0 12)], S0_)) rfl ?_
  refine sm_T_bin (w := (S0_.1 13 0 12) - 1) rfl (bi_sub (by omega) (by omega) (by omega)) ?_
  have hIx2_ : gi (sm_pI S0_ 13 0 27 1) := gi_pI hI_ (show 0 ≤ 1 ∧ 1 ≤ 2 from ⟨by omega, by omega⟩)
  have hFx3_ : ai_fr (sx_W vw_349) S0_ (sm_pI S0_ 13 0 27 1) := ai_fr_tr hF_ (ai_fr_pI rfl)
  have hIx4_ : gi (sm_pI (sm_pI S0_ 13 0 27 1) 13 0 29 0) := gi_pI hIx2_ (show 0 ≤ 0 ∧ 0 ≤ 16 from ⟨by omega, by omega⟩)
  have hFx5_ : ai_fr (sx_W vw_349) S0_ (sm_pI (sm_pI S0_ 13 0 27 1) 13 0 29 0) := ai_fr_tr hFx3_ (ai_fr_pI rfl)
  refine sm_T_go 12 (c1 := (24, [some (.inr (.inr (some (13, 0)))), some (.inl ((S0_.1 13 0 12) - 1)), none, none, none], [.inl ((S0_.1 13 0 12) - 1), .inr (.inr (some (132, 0))), .inl 1, .inr (.inr (some (13, 0)))], sm_pI (sm_pI S0_ 13 0 27 1) 13 0 29 0)) rfl ?_
  refine sm_T_iald (n := 16) rfl rfl (by omega) (by omega) ?_
  have bx6_ : 0 ≤ S0_.2.2.1 132 0 ((S0_.1 13 0 12) - 1).toNat ∧ S0_.2.2.1 132 0 ((S0_.1 13 0 12) - 1).toNat ≤ 320 := hI_.2 132 0 _
  refine sm_T_go 0 (c1 := (25, [some (.inr (.inr (some (13, 0)))), some (.inl ((S0_.1 13 0 12) - 1)), none, none, none], [.inl (S0_.2.2.1 132 0 ((S0_.1 13 0 12) - 1).toNat), .inl 1, .inr (.inr (some (13, 0)))], sm_pI (sm_pI S0_ 13 0 27 1) 13 0 29 0)) rfl ?_
  refine sm_T_bin (w := (S0_.2.2.1 132 0 ((S0_.1 13 0 12) - 1).toNat) + 1) rfl (bi_add (by omega) (by omega) (by omega)) ?_
  refine sm_T_go 3 (c1 := (31, [some (.inr (.inr (some (13, 0)))), some (.inl ((S0_.1 13 0 12) - 1)), none, none, none], [.inl ((S0_.1 13 0 12) - 1), .inr (.inr (some (134, 0))), .inl ((S0_.2.2.1 132 0 ((S0_.1 13 0 12) - 1).toNat) + 1), .inr (.inr (some (13, 0)))], sm_pI (sm_pI S0_ 13 0 27 1) 13 0 29 0)) rfl ?_
  refine sm_T_iald (n := 16) rfl rfl (by omega) (by omega) ?_
  have bx7_ : 0 ≤ S0_.2.2.1 134 0 ((S0_.1 13 0 12) - 1).toNat ∧ S0_.2.2.1 134 0 ((S0_.1 13 0 12) - 1).toNat ≤ 1073741823 := hI_.2 134 0 _
  refine sm_T_go 0 (c1 := (32, [some (.inr (.inr (some (13, 0)))), some (.inl ((S0_.1 13 0 12) - 1)), none, none, none], [.inl (S0_.2.2.1 134 0 ((S0_.1 13 0 12) - 1).toNat), .inl ((S0_.2.2.1 132 0 ((S0_.1 13 0 12) - 1).toNat) + 1), .inr (.inr (some (13, 0)))], sm_pI (sm_pI S0_ 13 0 27 1) 13 0 29 0)) rfl ?_
  refine sm_T_bin (w := (S0_.2.2.1 132 0 ((S0_.1 13 0 12) - 1).toNat) + (S0_.2.2.1 134 0 ((S0_.1 13 0 12) - 1).toNat) + 1) rfl (bi_add (by omega) (by omega) (by omega)) ?_
  have hIx8_ : gi (sm_pI (sm_pI (sm_pI S0_ 13 0 27 1) 13 0 29 0) 13 0 37 ((S0_.2.2.1 132 0 ((S0_.1 13 0 12) - 1).toNat) + (S0_.2.2.1 134 0 ((S0_.1 13 0 12) - 1).toNat) + 1)) := gi_pI hIx4_ (show 0 ≤ (S0_.2.2.1 132 0 ((S0_.1 13 0 12) - 1).toNat) + (S0_.2.2.1 134 0 ((S0_.1 13 0 12) - 1).toNat) + 1 ∧ (S0_.2.2.1 132 0 ((S0_.1 13 0 12) - 1).toNat) + (S0_.2.2.1 134 0 ((S0_.1 13 0 12) - 1).toNat) + 1 ≤ 1014 from ⟨by omega, by omega⟩)
  have hFx9_ : ai_fr (sx_W vw_349) S0_ (sm_pI (sm_pI (sm_pI S0_ 13 0 27 1) 13 0 29 0) 13 0 37 ((S0_.2.2.1 132 0 ((S0_.1 13 0 12) - 1).toNat) + (S0_.2.2.1 134 0 ((S0_.1 13 0 12) - 1).toNat) + 1)) := ai_fr_tr hFx5_ (ai_fr_pI rfl)
  have hIx10_ : gi (sm_pI (sm_pI (sm_pI (sm_pI S0_ 13 0 27 1) 13 0 29 0) 13 0 37 ((S0_.2.2.1 132 0 ((S0_.1 13 0 12) - 1).toNat) + (S0_.2.2.1 134 0 ((S0_.1 13 0 12) - 1).toNat) + 1)) 13 0 38 ((S0_.2.2.1 132 0 ((S0_.1 13 0 12) - 1).toNat) + (S0_.2.2.1 134 0 ((S0_.1 13 0 12) - 1).toNat) + 1)) := gi_pI hIx8_ (show 0 ≤ (S0_.2.2.1 132 0 ((S0_.1 13 0 12) - 1).toNat) + (S0_.2.2.1 134 0 ((S0_.1 13 0 12) - 1).toNat) + 1 ∧ (S0_.2.2.1 132 0 ((S0_.1 13 0 12) - 1).toNat) + (S0_.2.2.1 134 0 ((S0_.1 13 0 12) - 1).toNat) + 1 ≤ 19 from ⟨by omega, by omega⟩)
  have hFx11_ : ai_fr (sx_W vw_349) S0_ (sm_pI (sm_pI (sm_pI (sm_pI S0_ 13 0 27 1) 13 0 29 0) 13 0 37 ((S0_.2.2.1 132 0 ((S0_.1 13 0 12) - 1).toNat) + (S0_.2.2.1 134 0 ((S0_.1 13 0 12) - 1).toNat) + 1)) 13 0 38 ((S0_.2.2.1 132 0 ((S0_.1 13 0 12) - 1).toNat) + (S0_.2.2.1 134 0 ((S0_.1 13 0 12) - 1).toNat) + 1)) := ai_fr_tr hFx9_ (ai_fr_pI rfl)
  refine sm_T_go 7 (c1 := (46, [some (.inr (.inr (some (13, 0)))), some (.inl ((S0_.1 13 0 12) - 1)), some (.inl 0), none, none], [], sm_pI (sm_pI (sm_pI (sm_pI S0_ 13 0 27 1) 13 0 29 0) 13 0 37 ((S0_.2.2.1 132 0 ((S0_.1 13 0 12) - 1).toNat) + (S0_.2.2.1 134 0 ((S0_.1 13 0 12) - 1).toNat) + 1)) 13 0 38 ((S0_.2.2.1 132 0 ((S0_.1 13 0 12) - 1).toNat) + (S0_.2.2.1 134 0 ((S0_.1 13 0 12) - 1).toNat) + 1))) rfl ?_
  refine (vl_349 b_ n_ T_ F_ I_ Rg_ tp_ B_ N_ C_ z_ S0_ ht_ hf_ hmo_ hre_ hgm_ hI1_ hR1_ hFn_ hsu_ hz_ hzR_ _).1 ((S0_.1 13 0 12) - 1) 0 (sm_pI (sm_pI (sm_pI (sm_pI S0_ 13 0 27 1) 13 0 29 0) 13 0 37 ((S0_.2.2.1 132 0 ((S0_.1 13 0 12) - 1).toNat) + (S0_.2.2.1 134 0 ((S0_.1 13 0 12) - 1).toNat) + 1)) 13 0 38 ((S0_.2.2.1 132 0 ((S0_.1 13 0 12) - 1).toNat) + (S0_.2.2.1 134 0 ((S0_.1 13 0 12) - 1).toNat) + 1)) hIx10_ hFx11_ ⟨?_, ?_, ?_, trivial⟩ (Nat.lt_succ_self _)
  · exact ⟨by decide, by decide, by omega⟩
  · (intro j_ hj_; exact absurd hj_ (Nat.not_lt_zero _))
  · (refine ⟨?_, ?_, ?_, ?_, ?_⟩ <;> (try simp only [rd_eq, rd_ne, rf_eq, rf_nk, rf_nt, rd_fa, rd_af, rd_fl, rd_al, rd_lf, rd_la, rd_leq, rd_lne, rd_fr, rd_ar, ne_eq, Nat.reduceEqDiff, not_false_eq_true]) <;> omega)
