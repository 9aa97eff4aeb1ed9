/-! the class: a design is built; written by wip/p55/gen/vg -/

/-! a_ design is_ built -/
theorem stk_suf {f_ : Nat → Int} : ∀ {l_ s_ : List Int}, stk f_ (l_ ++ s_) → stk f_ s_
  | [], _, h_ => h_
  | _ :: l_, _, h_ => stk_suf (l_ := l_) h_.2
theorem stk_rw {f_ : Nat → Int} {l_ w_ c_ : List Int} (h_ : stk f_ (l_ ++ (w_.reverse ++ c_))) : rwv f_ c_.length w_ := by
  intro k_ z_ e_
  have h1_ := stk_suf h_
  obtain ⟨hk_, hz_⟩ := List.getElem?_eq_some_iff.mp e_
  have e2_ : w_ = w_.take k_ ++ z_ :: w_.drop (k_ + 1) := by
    rw [← hz_, List.getElem_cons_drop, List.take_append_drop]
  rw [e2_, List.reverse_append, List.reverse_cons, List.append_assoc, List.append_assoc] at h1_
  have h2_ := stk_suf h1_
  have h3_ : f_ ((w_.take k_).reverse ++ c_).length = z_ := h2_.1
  rw [← h3_]
  congr 1
  rw [List.length_append, List.length_reverse, List.length_take]
  omega
theorem ccd_of {b_ : Nat → Int} {n_ : Nat} {r_ : pD} {S_ : sm_S} (hn_ : n_ ≤ 1280) (hr_ : p_de b_ n_ = .inr r_) (hc_ : cr r_.2.2.2.2 S_) (hg_ : gi S_) (hm_ : ∀ k_ : Nat, k_ ≤ r_.2.2.1 → S_.2.2.1 76 0 k_ = (r_.2.2.2.1 k_ : Int)) : ccd (dC r_) (d_tp r_) S_ := by
  obtain ⟨h1_, h2_⟩ := de_ch hn_ hr_
  intro k_ hk_
  have kM_ : k_ < r_.2.2.1 := by unfold d_tp at hk_; omega
  obtain ⟨f_, A_, c0_, u_, ce_, l_, w1_, w2_, w3_, w4_, w5_, w6_, w7_⟩ := dC_r hn_ (h1_ k_ kM_).1
  refine ⟨c0_.length, by rw [hm_ k_ (by omega), w5_], by rw [hm_ (k_ + 1) (by omega), w6_], ?_, ?_⟩
  · have q_ := hc_.2.1
    have q2_ : S_.1 7 0 2 ≤ 65536 := (hg_.1 7 0 2 rfl).2
    have q3_ : r_.2.2.2.2.length = l_.length + ((dC r_ k_).length + c0_.length) := by rw [w7_, w3_, List.length_append, List.length_append, List.length_reverse]
    omega
  · have q_ := hc_.2.2
    rw [w7_, w3_] at q_
    exact stk_rw q_
theorem d_zz {b_ : Nat → Int} {n_ : Nat} {r_ : pD} (hn_ : n_ ≤ 1280) (h_ : p_de b_ n_ = .inr r_) (hl_ : d_lm r_ = 0) : ∃ z_, exm (1 + d_I r_ + d_R r_) (d_I r_) r_.1 (dC r_) 16 (d_tp r_) ([], 0, 1) (ein r_.1 (d_tp r_)) = some z_ ∧ z_.1.2.1 = d_R r_ ∧ ∀ s_, s_ < r_.1.1 (d_tp r_) → r_.1.2.2.1 (40 * d_tp r_ + s_) ≠ 5 → ((z_.2 s_).length : Int) = r_.1.2.2.2.1 (40 * d_tp r_ + s_) := by
  obtain ⟨h1_, h2_⟩ := de_ch hn_ h_
  obtain ⟨i1_, i2_, i3_, i4_, i5_⟩ := d_in hn_ h_
  have l_ := lm_0 hl_
  have g_ := g_sum (fun m_ hm_ => (h1_ m_ hm_).2)
  obtain ⟨G'_, e'_, w_, w2_⟩ := exm_tot (F_ := 1 + d_I r_ + d_R r_) (I_ := d_I r_) (C_ := dC r_) (N_ := r_.2.1) hn_ (fun m_ hm_ => (h1_ m_ hm_).2) g_.1 g_.2 (fun m_ hm_ => by
    obtain ⟨f_, A_, c0_, u_, ce_, l_, w1_, w2_, w3_, -⟩ := dC_r hn_ (h1_ m_ hm_).1
    exact ⟨f_, A_, c0_, u_, ce_, w1_, w2_, w3_⟩) (d_tp r_ + 1) (d_tp r_) (by omega) i3_ l_.2.2.1 l_.1 16 [] 0 1 (ein r_.1 (d_tp r_)) (by omega) (by simpa using l_.2.2.1) (by have := l_.1; push_cast; omega) (ein_o (h1_ (d_tp r_) i3_).2)
  refine ⟨_, w_, ?_, w2_⟩
  show 0 + (gR r_.1 r_.2.2.1 (d_tp r_)).toNat = d_R r_
  unfold d_R
  omega
theorem swp_fr {w_ : sx_Wl} {dd_ F_ : Nat} {S_ S'_ : sm_S} (h_ : swp dd_ F_ S_) (g_ : ai_fr (sx_W w_) S_ S'_) (h3_ : (sx_W w_).1 3 4 = false) (h4_ : (sx_W w_).2.1 42 = false) (h5_ : (sx_W w_).2.1 43 = false) (h6_ : (sx_W w_).2.1 44 = false) : swp dd_ F_ S'_ := by
  unfold swp
  rw [g_.1 3 dd_ 4 h3_, fr_arr (t := 42) g_ h4_, fr_arr (t := 43) g_ h5_, fr_arr (t := 44) g_ h6_]
  exact h_
theorem dtb_fr {w_ : sx_Wl} {dd_ : Nat} {S_ S'_ : sm_S} (h_ : dtb dd_ S_) (g_ : ai_fr (sx_W w_) S_ S'_) (h3_ : (sx_W w_).1 3 2 = false) (h4_ : (sx_W w_).2.1 47 = false) : dtb dd_ S'_ := by
  unfold dtb
  rw [g_.1 3 dd_ 2 h3_, fr_arr (t := 47) g_ h4_]
  exact h_
theorem lm_b {r_ : pD} : 0 ≤ d_lm r_ ∧ d_lm r_ ≤ 22 := by
  unfold d_lm p_lm
  repeat' split
  all_goals omega
theorem cgl_x {dd_ F_ : Nat} {G_ : pGr} {S_ : sm_S} (h_ : cgl dd_ F_ G_ S_) (hl_ : G_.length ≤ 1000) : cgx dd_ F_ G_ S_ := by
  obtain ⟨G1_, x_, y_⟩ := h_
  rcases y_ with y_ | y_
  · rw [← y_.2.1]; exact x_
  · omega
/-- a_ design that is_ there -/
def dOk (dd_ : Nat) (S_ : sm_S) : Prop := ∃ F_, dgr dd_ F_ S_ ∧ drt dd_ S_ ∧ swp dd_ F_ S_ ∧ dtb dd_ S_ ∧ (0 ≤ S_.1 3 dd_ 5 ∧ S_.1 3 dd_ 5 < 2 ^ (S_.1 3 dd_ 2).toNat) ∧ 0 ≤ S_.1 3 dd_ 6 ∧ S_.1 3 dd_ 6 < 2 ^ (S_.1 3 dd_ 2).toNat
theorem idf_ds {dd_ j_ : Nat} {S_ S'_ : sm_S} (h_ : idf dd_ S_ S'_) (hj_ : j_ ≠ dd_) (hd_ : S_.1 3 j_ 0 = 1 → dOk j_ S_) : S'_.1 3 j_ 0 = 1 → dOk j_ S'_ := by
  intro q_
  have e_ := (h_ j_ hj_).1
  have a_ := (h_ j_ hj_).2
  rw [e_ 0 (by decide)] at q_
  obtain ⟨F_, h1_, h2_, h3_, h4_, h5_, h6_⟩ := hd_ q_
  refine ⟨F_, ?_, ?_, ?_, ?_, ?_⟩
  · unfold dgr
    rw [e_ 1 (by decide), e_ 2 (by decide), e_ 4 (by decide), a_ 42 (by decide) (by decide), a_ 43 (by decide) (by decide)]
    exact h1_
  · unfold drt
    rw [e_ 3 (by decide), e_ 2 (by decide), e_ 4 (by decide), a_ 45 (by decide) (by decide), a_ 46 (by decide) (by decide)]
    exact h2_
  · unfold swp
    rw [e_ 4 (by decide), a_ 42 (by decide) (by decide), a_ 43 (by decide) (by decide), a_ 44 (by decide) (by decide)]
    exact h3_
  · unfold dtb
    rw [e_ 2 (by decide), a_ 47 (by decide) (by decide)]
    exact h4_
  · rw [e_ 2 (by decide), e_ 5 (by decide), e_ 6 (by decide)]
    exact ⟨h5_, h6_⟩
/-- what a_ right design comes to_: 0, or the_ number of_ a_ fault -/
def d_gr (r_ : pD) (z_ : gQ × gE) : Prop := exm (1 + d_I r_ + d_R r_) (d_I r_) r_.1 (dC r_) 16 (d_tp r_) ([], 0, 1) (ein r_.1 (d_tp r_)) = some z_
/-! Builder.build -/
def vw_31 : sx_Wl := ([(1, 3), (1, 6), (1, 8), (1, 9), (1, 13), (3, 0), (3, 1), (3, 2), (3, 3), (3, 4), (3, 5), (3, 6), (3, 7), (3, 8), (3, 9), (10, 6), (10, 7)], [26, 27, 28, 29, 30, 31, 32, 33, 42, 43, 44, 45, 46, 47], [(1, 1)])
def vq_31 (b_ : Nat → Int) (n_ : Nat) (r_ : pD) (dd_ : Nat) (S0_ : sm_S) (u_ : Option sm_V) (S1_ : sm_S) : Prop := u_ = none ∧ gi S1_ ∧ ai_fr (sx_W vw_31) S0_ S1_ ∧ (idf dd_ S0_ S1_ ∧ (d_lm r_ = 0 ∧ (∃ z_, d_gr r_ z_ ∧ z_.1.1.length ≤ 1000) ∧ S1_.1 3 dd_ 0 = 1 ∧ dOk dd_ S1_))
def vx_31 (b_ : Nat → Int) (n_ : Nat) (r_ : pD) (dd_ : Nat) (S0_ : sm_S) (S1_ : sm_S) : Prop := gi S1_ ∧ ai_fr (sx_W vw_31) S0_ S1_ ∧ (idf dd_ S0_ S1_ ∧ (d_lm r_ ≠ 0 ∨ (d_lm r_ = 0 ∧ ∃ z_, d_gr r_ z_ ∧ 1000 < z_.1.1.length)) ∧ S1_.1 3 dd_ 0 = S0_.1 3 dd_ 0)
set_option maxHeartbeats 4000000 in
theorem vc_31 {sc_ : Nat × (Nat → Int)} (b_ : Nat → Int) (n_ : Nat) (r_ : pD) (dd_ : Nat) (S0_ : sm_S) (hI_ : gi S0_) (hr_ : p_de b_ n_ = .inr r_) (hb_ : br b_ n_ r_.1 r_.2.1 r_.2.2.1 r_.2.2.2.2 S0_) (hmc_ : ∀ k_ : Nat, k_ ≤ r_.2.2.1 → S0_.2.2.1 76 0 k_ = (r_.2.2.2.1 k_ : Int)) (h1_ : 1 ≤ r_.2.2.1) (hn_ : n_ ≤ 1280) : sm_T (mt_P sc_) 27 31 (0, [some (.inr (.inr (some (1, 0)))), some (.inr (.inr (some (3, dd_)))), none, none, none], [], S0_) (fun ro9_ => (∃ u_ S1_, ro9_ = (.inl u_, S1_, 0) ∧ vq_31 b_ n_ r_ dd_ S0_ u_ S1_) ∨ ∃ S1_, ro9_ = (.inr 2, S1_, 1) ∧ vx_31 b_ n_ r_ dd_ S0_ S1_) := by
  have hF_ : ai_fr (sx_W vw_31) S0_ S0_ := ai_fr_rf
  have hD_ : idf dd_ S0_ S0_ := idf_rf
  obtain ⟨b1_, b2_, ba_, b4_, b5_⟩ := hb_
  have tp9_ : d_tp r_ + 1 = r_.2.2.1 := by unfold d_tp; omega
  have tn9_ : (d_tp r_ : Int) = S0_.1 7 0 3 - 1 := by omega
  have nm9_ := b4_.2 (d_tp r_) (by omega)
  have nm8_ : S0_.2.2.1 75 0 (S0_.1 7 0 3 - 1).toNat = ((16 * r_.2.1 (d_tp r_) + lx_sz b_ n_ (r_.2.1 (d_tp r_)) : Nat) : Int) := by rw [show (S0_.1 7 0 3 - 1).toNat = d_tp r_ by omega]; exact nm9_.1
  have nm7_ := nm9_.2.1
  have nm6_ := nmp_sz nm9_.2
  have cc0_ := ccd_of hn_ hr_ b5_ hI_ hmc_
  clear nm9_
  have hIx1_ : gi (sm_pR S0_ 1 0 1 (some dd_)) := gi_pR hI_
  have hFx2_ : ai_fr (sx_W vw_31) S0_ (sm_pR S0_ 1 0 1 (some dd_)) := ai_fr_tr hF_ (ai_fr_pR rfl)
  have tx3_ : (sm_pR S0_ 1 0 1 (some dd_)).2.1 1 0 1 = some dd_ := (sm_up_self (f := S0_.2.1) (t := 1) (i := 0) (k := 1) (v := some dd_))
  have hDx4_ : idf dd_ S0_ (sm_pR S0_ 1 0 1 (some dd_)) := idf_pR hD_
  have bx5_ : 0 ≤ S0_.1 7 0 3 ∧ S0_.1 7 0 3 ≤ 16 := hI_.1 7 0 3 rfl
  refine sm_T_go 7 (c1 := (13, [some (.inr (.inr (some (1, 0)))), some (.inr (.inr (some (3, dd_)))), none, none, none], [.inl 1, .inl (S0_.1 7 0 3)], sm_pR S0_ 1 0 1 (some dd_))) rfl ?_
  refine sm_T_bin (w := (S0_.1 7 0 3) - 1) rfl (bi_sub (by omega) (by omega) (by omega)) ?_
  refine sm_T_go 2 (c1 := (16, [some (.inr (.inr (some (1, 0)))), some (.inr (.inr (some (3, dd_)))), some (.inl ((S0_.1 7 0 3) - 1)), none, none], [.inl ((S0_.1 7 0 3) - 1)], sm_pR S0_ 1 0 1 (some dd_))) rfl ?_
  refine sm_T_b0 (a := 3) (z := 4) rfl (fun cx6_ => ?_) (fun cx6_ => ?_)
  · have cx6_ : 0 ≤ (S0_.1 7 0 3) - 1 := of_decide_eq_true cx6_
    refine sm_T_go 4 (c1 := (28, [some (.inr (.inr (some (1, 0)))), some (.inr (.inr (some (3, dd_)))), some (.inl ((S0_.1 7 0 3) - 1)), none, none], [.inl ((S0_.1 7 0 3) - 1), .inr (.inr (some (75, 0)))], sm_pR S0_ 1 0 1 (some dd_))) rfl ?_
    refine sm_T_iald (n := 16) rfl rfl (by omega) (by omega) ?_
    have bx7_ : 0 ≤ S0_.2.2.1 75 0 ((S0_.1 7 0 3) - 1).toNat ∧ S0_.2.2.1 75 0 ((S0_.1 7 0 3) - 1).toNat ≤ 65535 := hI_.2 75 0 _
    refine sm_T_go 1 (c1 := (30, [some (.inr (.inr (some (1, 0)))), some (.inr (.inr (some (3, dd_)))), some (.inl ((S0_.1 7 0 3) - 1)), none, none], [.inl 4, .inl (S0_.2.2.1 75 0 ((S0_.1 7 0 3) - 1).toNat)], sm_pR S0_ 1 0 1 (some dd_))) rfl ?_
    refine sm_T_bin (w := ((S0_.2.2.1 75 0 ((S0_.1 7 0 3) - 1).toNat) / 16)) rfl (bi_shr (k := 4) (by decide) (by omega) (by omega)) ?_
    refine sm_T_go 3 (c1 := (34, [some (.inr (.inr (some (1, 0)))), some (.inr (.inr (some (3, dd_)))), some (.inl ((S0_.1 7 0 3) - 1)), some (.inl ((S0_.2.2.1 75 0 ((S0_.1 7 0 3) - 1).toNat) / 16)), none], [.inl ((S0_.1 7 0 3) - 1), .inr (.inr (some (1, 0)))], sm_pR S0_ 1 0 1 (some dd_))) rfl ?_
    refine sm_T_cal (d1 := 1) (Q1 := vq_32d ((S0_.1 7 0 3) - 1) b_ n_ r_.1 (d_tp r_) dd_ (sm_pR S0_ 1 0 1 (some dd_))) rfl rfl (by decide) (vc_32d ((S0_.1 7 0 3) - 1) b_ n_ r_.1 (d_tp r_) dd_ (sm_pR S0_ 1 0 1 (some dd_)) hIx1_ (by omega) (by (intro k9_ h9_; exact er1_fr (ba_ k9_ (by omega)).2 (ai_fr_pR (W_ := sx_W ([], [], [(1, 1)])) rfl) rfl rfl rfl rfl rfl)) (by exact (ba_ _ (by omega)).1) (by exact tx3_)) (fun u_ Sx8_ px11_ => ?_)
    obtain ⟨vx13_, rfl, hIx9_, hFx10_, px11_⟩ := px11_
    have hFx12_ : ai_fr (sx_W vw_31) S0_ Sx8_ := ai_fr_tr hFx2_ (fr_le hFx10_ rfl)
    obtain ⟨dx15_, px11_⟩ := px11_
    have hDx14_ : idf dd_ S0_ Sx8_ := idf_tr hDx4_ dx15_
    have tx16_ : Sx8_.2.1 1 0 1 = some dd_ := (hFx10_.2.1 1 0 1 rfl).trans tx3_
    have e34_ := px11_
    have us34_ : Sx8_.1 3 dd_ 0 = S0_.1 3 dd_ 0 := hFx10_.1 3 dd_ 0 rfl
    have gu_ := g_uq (fun m9_ h9_ => (ba_ m9_ h9_).1) (r_ := Sx8_.2.2.1 31 0) (i_ := Sx8_.2.2.1 30 0) (fun m9_ h9_ => ⟨(e34_.2.1 m9_ (by omega)).2, (e34_.2.1 m9_ (by omega)).1⟩) (d_tp r_ + 1) (d_tp r_) (by omega) (by omega)
    have lm_ : vx13_ = d_lm r_ := by rw [e34_.1, gu_.1, gu_.2]; rfl
    have e34c := e34_.2.2
    have er34_ : ∀ k9_, k9_ ≤ d_tp r_ → er1 b_ n_ r_.1 k9_ Sx8_ := fun k9_ h9_ => er1_fr (ba_ k9_ (by omega)).2 hFx12_ rfl rfl rfl rfl rfl
    have lmb_ : 0 ≤ vx13_ ∧ vx13_ ≤ 22 := by rw [lm_]; exact lm_b
    clear e34_
    refine sm_T_go 2 (c1 := (41, [some (.inr (.inr (some (1, 0)))), some (.inr (.inr (some (3, dd_)))), some (.inl ((S0_.1 7 0 3) - 1)), some (.inl ((S0_.2.2.1 75 0 ((S0_.1 7 0 3) - 1).toNat) / 16)), some (.inl vx13_)], [.inl vx13_], Sx8_)) rfl ?_
    refine sm_T_b0 (a := 0) (z := 16) rfl (fun cx17_ => ?_) (fun cx17_ => ?_)
    · have cx17_ : vx13_ = 0 := of_decide_eq_true cx17_
      have l0_ : d_lm r_ = 0 := by omega
      obtain ⟨z_, hz_, zR_, zl_⟩ := d_zz hn_ hr_ l0_
      have l9_ := lm_0 l0_
      obtain ⟨i1_, i2_, i3_, i4_, i5_⟩ := d_in hn_ hr_
      obtain ⟨a1_, a2_, a3_⟩ := e34c (by omega)
      have a2b := a2_.trans gu_.1
      refine sm_T_go 2 (c1 := (59, [some (.inr (.inr (some (1, 0)))), some (.inr (.inr (some (3, dd_)))), some (.inl ((S0_.1 7 0 3) - 1)), some (.inl ((S0_.2.2.1 75 0 ((S0_.1 7 0 3) - 1).toNat) / 16)), some (.inl vx13_)], [.inl ((S0_.1 7 0 3) - 1), .inr (.inr (some (1, 0)))], Sx8_)) rfl ?_
      refine sm_T_cal (d1 := 1) (Q1 := vq_34 ((S0_.1 7 0 3) - 1) b_ n_ r_.1 (d_tp r_) dd_ (1 + d_I r_ + d_R r_) (d_I r_) Sx8_) rfl rfl (by decide) (vc_34 ((S0_.1 7 0 3) - 1) b_ n_ r_.1 (d_tp r_) dd_ (1 + d_I r_ + d_R r_) (d_I r_) Sx8_ hIx9_ (by exact tx16_) (by omega) (by omega) (by omega) (by exact er34_ _ (Nat.le_refl _)) (by exact (ba_ _ (by omega)).1) (by omega)) (fun u_ Sx18_ px21_ => ?_)
      obtain ⟨rfl, hIx19_, hFx20_, px21_⟩ := px21_
      have hFx22_ : ai_fr (sx_W vw_31) S0_ Sx18_ := ai_fr_tr hFx12_ (fr_le hFx20_ rfl)
      obtain ⟨dx24_, px21_⟩ := px21_
      have hDx23_ : idf dd_ S0_ Sx18_ := idf_tr hDx14_ dx24_
      have tx25_ : Sx18_.2.1 1 0 1 = some dd_ := (hFx20_.2.1 1 0 1 rfl).trans tx16_
      have e59_ := px21_
      have us59_ : Sx18_.1 3 dd_ 0 = S0_.1 3 dd_ 0 := (hFx20_.1 3 dd_ 0 rfl).trans us34_
      have er59_ : ∀ k9_, k9_ ≤ d_tp r_ → er1 b_ n_ r_.1 k9_ Sx18_ := fun k9_ h9_ => er1_fr (ba_ k9_ (by omega)).2 hFx22_ rfl rfl rfl rfl rfl
      have cc59_ : ccd (dC r_) (d_tp r_) Sx18_ := ccd_fr cc0_ (Nat.le_refl _) hFx22_ rfl rfl
      have n59_ := hFx20_.1 3 dd_ 3 rfl
      have m59_ := hFx20_.1 3 dd_ 2 rfl
      have o59_ := hFx20_.1 3 dd_ 1 rfl
      refine sm_T_go 4 (c1 := (66, [some (.inr (.inr (some (1, 0)))), some (.inr (.inr (some (3, dd_)))), some (.inl ((S0_.1 7 0 3) - 1)), some (.inl ((S0_.2.2.1 75 0 ((S0_.1 7 0 3) - 1).toNat) / 16)), some (.inl vx13_)], [.inl 0, .inl 0, .inl ((S0_.1 7 0 3) - 1), .inr (.inr (some (1, 0)))], Sx18_)) rfl ?_
      refine sm_T_cal (d1 := 26) (Q1 := vq_36 ((S0_.1 7 0 3) - 1) 0 0 b_ n_ r_.1 (dC r_) (d_tp r_) 0 dd_ (1 + d_I r_ + d_R r_) (d_I r_) ([], 0, 1) (ein r_.1 (d_tp r_)) z_ 0 Sx18_) rfl rfl (by decide) (vc_36x 16 ((S0_.1 7 0 3) - 1) 0 0 b_ n_ r_.1 (dC r_) (d_tp r_) 0 dd_ (1 + d_I r_ + d_R r_) (d_I r_) ([], 0, 1) (ein r_.1 (d_tp r_)) z_ 0 Sx18_ hIx19_ (by exact hIx19_) (by exact tx25_) (by omega) (by rfl) (by omega) (by exact er59_) (by exact (ba_ _ (by omega)).1) (by exact cc59_) (by exact e59_) (by decide) (by (rw [zR_]; omega)) (by exact ⟨by omega, fun k9_ x9_ y9_ q9_ => by simp at q9_⟩) (by exact fun a9_ => ein_w (ba_ _ (by omega)).1 (by omega) (Nat.le_refl _) a9_) (by exact hz_)) (fun u_ Sx26_ px29_ => ?_)
      obtain ⟨rfl, hIx27_, hFx28_, px29_⟩ := px29_
      have hFx30_ : ai_fr (sx_W vw_31) S0_ Sx26_ := ai_fr_tr hFx22_ (fr_le hFx28_ rfl)
      obtain ⟨dx32_, px29_⟩ := px29_
      have hDx31_ : idf dd_ S0_ Sx26_ := idf_tr hDx23_ dx32_
      have tx33_ : Sx26_.2.1 1 0 1 = some dd_ := (hFx28_.2.1 1 0 1 rfl).trans tx25_
      have e66_ := px29_
      have us66_ : Sx26_.1 3 dd_ 0 = S0_.1 3 dd_ 0 := (hFx28_.1 3 dd_ 0 rfl).trans us59_
      have cf66_ := cgl_f e66_.1
      have n66_ := hFx28_.1 3 dd_ 3 rfl
      have m66_ := hFx28_.1 3 dd_ 2 rfl
      have o66_ := hFx28_.1 3 dd_ 1 rfl
      have er66_ := er1_fr (er59_ (d_tp r_) (Nat.le_refl _)) hFx28_ rfl rfl rfl rfl rfl
      have bx34_ : 0 ≤ Sx26_.1 1 0 8 ∧ Sx26_.1 1 0 8 ≤ 1 := hIx27_.1 1 0 8 rfl
      refine sm_T_go 2 (c1 := (73, [some (.inr (.inr (some (1, 0)))), some (.inr (.inr (some (3, dd_)))), some (.inl ((S0_.1 7 0 3) - 1)), some (.inl ((S0_.2.2.1 75 0 ((S0_.1 7 0 3) - 1).toNat) / 16)), some (.inl vx13_)], [.inl (Sx26_.1 1 0 8)], Sx26_)) rfl ?_
      refine sm_T_b0 (a := 0) (z := 16) rfl (fun cx35_ => ?_) (fun cx35_ => ?_)
      · have cx35_ : (Sx26_.1 1 0 8) = 0 := of_decide_eq_true cx35_
        have zk_ : z_.1.1.length ≤ 1000 := cf66_.1.mp (by omega)
        obtain ⟨o1_, -⟩ := e66_.2 zk_
        have ww_ := (exm_w 16 _ _ _ _ hz_).2.2 (by omega) (by omega) ⟨by omega, fun k9_ x9_ y9_ q9_ => by simp at q9_⟩ (fun a9_ => ein_w (ba_ _ (by omega)).1 (by omega) (Nat.le_refl _) a9_)
        have nd_ := cgl_n e66_.1 zk_
        have dg : dgr dd_ (1 + d_I r_ + d_R r_) Sx26_ := cgx_dgr (cgl_x e66_.1 zk_) ww_.1 (by omega) (by omega)
        refine sm_T_go 2 (c1 := (91, [some (.inr (.inr (some (1, 0)))), some (.inr (.inr (some (3, dd_)))), some (.inl ((S0_.1 7 0 3) - 1)), some (.inl ((S0_.2.2.1 75 0 ((S0_.1 7 0 3) - 1).toNat) / 16)), some (.inl vx13_)], [.inl ((S0_.1 7 0 3) - 1), .inr (.inr (some (1, 0)))], Sx26_)) rfl ?_
        refine sm_T_cal (d1 := 1) (Q1 := vq_45 ((S0_.1 7 0 3) - 1) b_ n_ r_.1 (d_tp r_) dd_ z_.2 ((1 + d_I r_ + d_R r_) + z_.1.1.length) Sx26_) rfl rfl (by decide) (vc_45 ((S0_.1 7 0 3) - 1) b_ n_ r_.1 (d_tp r_) dd_ z_.2 ((1 + d_I r_ + d_R r_) + z_.1.1.length) Sx26_ hIx27_ (by exact tx33_) (by omega) (by exact er66_) (by exact (ba_ _ (by omega)).1) (by omega) (by (intro s9_ h9_; have w9_ := (o1_.2.2.2.2.2.2 s9_ h9_).1; rw [show 8 * (40 * 0 + s9_) = 8 * s9_ by omega] at w9_; exact w9_)) (by exact zl_) (by exact ww_.2)) (fun u_ Sx36_ px39_ => ?_)
        obtain ⟨rfl, hIx37_, hFx38_, px39_⟩ := px39_
        have hFx40_ : ai_fr (sx_W vw_31) S0_ Sx36_ := ai_fr_tr hFx30_ (fr_le hFx38_ rfl)
        obtain ⟨dx42_, px39_⟩ := px39_
        have hDx41_ : idf dd_ S0_ Sx36_ := idf_tr hDx31_ dx42_
        have tx43_ : Sx36_.2.1 1 0 1 = some dd_ := (hFx38_.2.1 1 0 1 rfl).trans tx33_
        have ex44_ : Sx36_.1 1 0 8 = Sx26_.1 1 0 8 := hFx38_.1 1 0 8 rfl
        have e91_ := px39_
        have n91_ := hFx38_.1 3 dd_ 3 rfl
        have m91_ := hFx38_.1 3 dd_ 2 rfl
        have nd91_ := hFx38_.1 3 dd_ 4 rfl
        have dg91_ := dgr_fr dg hFx38_ rfl rfl rfl rfl rfl
        have dr91_ : drt dd_ Sx36_ := ⟨by omega, fun k9_ h9_ => by rw [nd91_, nd_]; exact e91_ k9_ (by omega), fun k9_ h9_ => by rw [nd91_, fr_arr (t := 46) hFx38_ rfl]; exact o1_.1.2 k9_ (by rw [zR_]; omega)⟩
        have bg91_ : 0 ≤ Sx36_.1 3 dd_ 5 ∧ Sx36_.1 3 dd_ 5 < 2 ^ (Sx36_.1 3 dd_ 2).toNat := by rw [hFx38_.1 3 dd_ 5 rfl, show (Sx36_.1 3 dd_ 2).toNat = z_.1.2.1 by rw [zR_]; omega]; exact o1_.1.1
        refine sm_T_go 1 (c1 := (95, [some (.inr (.inr (some (1, 0)))), some (.inr (.inr (some (3, dd_)))), some (.inl ((S0_.1 7 0 3) - 1)), some (.inl ((S0_.2.2.1 75 0 ((S0_.1 7 0 3) - 1).toNat) / 16)), some (.inl vx13_)], [.inr (.inr (some (1, 0)))], Sx36_)) rfl ?_
        refine sm_T_cal (d1 := 1) (Q1 := vq_46 dd_ (1 + d_I r_ + d_R r_) Sx36_) rfl rfl (by decide) (vc_46 dd_ (1 + d_I r_ + d_R r_) Sx36_ hIx37_ (by exact tx43_) (by exact dg91_) (by exact dr91_)) (fun u_ Sx45_ px48_ => ?_)
        obtain ⟨rfl, hIx46_, hFx47_, px48_⟩ := px48_
        have hFx49_ : ai_fr (sx_W vw_31) S0_ Sx45_ := ai_fr_tr hFx40_ (fr_le hFx47_ rfl)
        obtain ⟨dx51_, px48_⟩ := px48_
        have hDx50_ : idf dd_ S0_ Sx45_ := idf_tr hDx41_ dx51_
        have tx52_ : Sx45_.2.1 1 0 1 = some dd_ := (hFx47_.2.1 1 0 1 rfl).trans tx43_
        have dg95_ := dgr_fr dg91_ hFx47_ rfl rfl rfl rfl rfl
        have dr95_ := drt_fr dr91_ hFx47_ rfl rfl rfl rfl rfl
        have bg95_ : 0 ≤ Sx45_.1 3 dd_ 5 ∧ Sx45_.1 3 dd_ 5 < 2 ^ (Sx45_.1 3 dd_ 2).toNat := by rw [hFx47_.1 3 dd_ 5 rfl, hFx47_.1 3 dd_ 2 rfl]; exact bg91_
        refine sm_T_go 1 (c1 := (99, [some (.inr (.inr (some (1, 0)))), some (.inr (.inr (some (3, dd_)))), some (.inl ((S0_.1 7 0 3) - 1)), some (.inl ((S0_.2.2.1 75 0 ((S0_.1 7 0 3) - 1).toNat) / 16)), some (.inl vx13_)], [.inr (.inr (some (1, 0)))], Sx45_)) rfl ?_
        refine sm_T_cal (d1 := 1) (Q1 := vq_47 dd_ (1 + d_I r_ + d_R r_) Sx45_) rfl rfl (by decide) (vc_47 dd_ (1 + d_I r_ + d_R r_) Sx45_ hIx46_ (by exact tx52_) (by exact dg95_)) (fun u_ Sx53_ px56_ => ?_)
        obtain ⟨rfl, hIx54_, hFx55_, px56_⟩ := px56_
        have hFx57_ : ai_fr (sx_W vw_31) S0_ Sx53_ := ai_fr_tr hFx49_ (fr_le hFx55_ rfl)
        obtain ⟨dx59_, px56_⟩ := px56_
        have hDx58_ : idf dd_ S0_ Sx53_ := idf_tr hDx50_ dx59_
        have tx60_ : Sx53_.2.1 1 0 1 = some dd_ := (hFx55_.2.1 1 0 1 rfl).trans tx52_
        have sw99_ := px56_
        have dg99_ := dgr_fr dg95_ hFx55_ rfl rfl rfl rfl rfl
        have dr99_ := drt_fr dr95_ hFx55_ rfl rfl rfl rfl rfl
        have bg99_ : 0 ≤ Sx53_.1 3 dd_ 5 ∧ Sx53_.1 3 dd_ 5 < 2 ^ (Sx53_.1 3 dd_ 2).toNat := by rw [hFx55_.1 3 dd_ 5 rfl, hFx55_.1 3 dd_ 2 rfl]; exact bg95_
        refine sm_T_go 1 (c1 := (103, [some (.inr (.inr (some (1, 0)))), some (.inr (.inr (some (3, dd_)))), some (.inl ((S0_.1 7 0 3) - 1)), some (.inl ((S0_.2.2.1 75 0 ((S0_.1 7 0 3) - 1).toNat) / 16)), some (.inl vx13_)], [.inr (.inr (some (1, 0)))], Sx53_)) rfl ?_
        refine sm_T_cal (d1 := 1) (Q1 := vq_51 dd_ (1 + d_I r_ + d_R r_) Sx53_) rfl rfl (by decide) (vc_51 dd_ (1 + d_I r_ + d_R r_) Sx53_ hIx54_ (by exact tx60_) (by exact dg99_) (by exact dr99_)) (fun u_ Sx61_ px64_ => ?_)
        obtain ⟨rfl, hIx62_, hFx63_, px64_⟩ := px64_
        have hFx65_ : ai_fr (sx_W vw_31) S0_ Sx61_ := ai_fr_tr hFx57_ (fr_le hFx63_ rfl)
        obtain ⟨dx67_, px64_⟩ := px64_
        have hDx66_ : idf dd_ S0_ Sx61_ := idf_tr hDx58_ dx67_
        have tx68_ : Sx61_.2.1 1 0 1 = some dd_ := (hFx63_.2.1 1 0 1 rfl).trans tx60_
        have tb103_ := px64_
        have sw103_ := swp_fr sw99_ hFx63_ rfl rfl rfl rfl
        have dg103_ := dgr_fr dg99_ hFx63_ rfl rfl rfl rfl rfl
        have dr103_ := drt_fr dr99_ hFx63_ rfl rfl rfl rfl rfl
        have bg103_ : 0 ≤ Sx61_.1 3 dd_ 5 ∧ Sx61_.1 3 dd_ 5 < 2 ^ (Sx61_.1 3 dd_ 2).toNat := by rw [hFx63_.1 3 dd_ 5 rfl, hFx63_.1 3 dd_ 2 rfl]; exact bg99_
        refine sm_T_go 1 (c1 := (107, [some (.inr (.inr (some (1, 0)))), some (.inr (.inr (some (3, dd_)))), some (.inl ((S0_.1 7 0 3) - 1)), some (.inl ((S0_.2.2.1 75 0 ((S0_.1 7 0 3) - 1).toNat) / 16)), some (.inl vx13_)], [.inr (.inr (some (1, 0)))], Sx61_)) rfl ?_
        refine sm_T_gr rfl rfl tx68_ ?_
        refine sm_T_go 1 (c1 := (111, [some (.inr (.inr (some (1, 0)))), some (.inr (.inr (some (3, dd_)))), some (.inl ((S0_.1 7 0 3) - 1)), some (.inl ((S0_.2.2.1 75 0 ((S0_.1 7 0 3) - 1).toNat) / 16)), some (.inl vx13_)], [.inr (.inr (some (1, 0))), .inr (.inr (some (3, dd_)))], Sx61_)) rfl ?_
        refine sm_T_gr rfl rfl tx68_ ?_
        refine sm_T_go 2 (c1 := (118, [some (.inr (.inr (some (1, 0)))), some (.inr (.inr (some (3, dd_)))), some (.inl ((S0_.1 7 0 3) - 1)), some (.inl ((S0_.2.2.1 75 0 ((S0_.1 7 0 3) - 1).toNat) / 16)), some (.inl vx13_)], [.inr (.inr (some (33, 0))), .inr (.inr (some (3, dd_))), .inr (.inr (some (3, dd_)))], Sx61_)) rfl ?_
        refine sm_T_cal (d1 := 1) (Q1 := vq_67s dd_ (1 + d_I r_ + d_R r_) Sx61_) rfl rfl (by decide) (vc_67s dd_ (1 + d_I r_ + d_R r_) Sx61_ hIx62_ (by exact dg103_) (by exact dr103_) (by exact sw103_)) (fun u_ Sx69_ px72_ => ?_)
        obtain ⟨vx74_, rfl, hIx70_, hFx71_, px72_⟩ := px72_
        have hFx73_ : ai_fr (sx_W vw_31) S0_ Sx69_ := ai_fr_tr hFx65_ (fr_le hFx71_ rfl)
        have hDx75_ : idf dd_ S0_ Sx69_ := idf_tr hDx66_ (idf_fr hFx71_ (by decide) (by decide))
        have tx76_ : Sx69_.2.1 1 0 1 = some dd_ := (hFx71_.2.1 1 0 1 rfl).trans tx68_
        have e118_ := (px72_).1
        have tb118_ := dtb_fr tb103_ hFx71_ rfl rfl
        have sw118_ := swp_fr sw103_ hFx71_ rfl rfl rfl rfl
        have dg118_ := dgr_fr dg103_ hFx71_ rfl rfl rfl rfl rfl
        have dr118_ := drt_fr dr103_ hFx71_ rfl rfl rfl rfl rfl
        have bg118_ : 0 ≤ Sx69_.1 3 dd_ 5 ∧ Sx69_.1 3 dd_ 5 < 2 ^ (Sx69_.1 3 dd_ 2).toNat := by rw [hFx71_.1 3 dd_ 5 rfl, hFx71_.1 3 dd_ 2 rfl]; exact bg103_
        have hIx77_ : gi (sm_pI Sx69_ 3 dd_ 8 vx74_) := gi_pI hIx70_ (show 0 ≤ vx74_ ∧ vx74_ ≤ 1000 from ⟨by omega, by omega⟩)
        have hFx78_ : ai_fr (sx_W vw_31) S0_ (sm_pI Sx69_ 3 dd_ 8 vx74_) := ai_fr_tr hFx73_ (ai_fr_pI rfl)
        have hDx79_ : idf dd_ S0_ (sm_pI Sx69_ 3 dd_ 8 vx74_) := idf_pI hDx75_ (Or.inr rfl)
        refine sm_T_go 2 (c1 := (125, [some (.inr (.inr (some (1, 0)))), some (.inr (.inr (some (3, dd_)))), some (.inl ((S0_.1 7 0 3) - 1)), some (.inl ((S0_.2.2.1 75 0 ((S0_.1 7 0 3) - 1).toNat) / 16)), some (.inl vx13_)], [.inr (.inr (some (1, 0)))], sm_pI Sx69_ 3 dd_ 8 vx74_)) rfl ?_
        refine sm_T_gr rfl rfl tx76_ ?_
        refine sm_T_go 1 (c1 := (129, [some (.inr (.inr (some (1, 0)))), some (.inr (.inr (some (3, dd_)))), some (.inl ((S0_.1 7 0 3) - 1)), some (.inl ((S0_.2.2.1 75 0 ((S0_.1 7 0 3) - 1).toNat) / 16)), some (.inl vx13_)], [.inr (.inr (some (1, 0))), .inr (.inr (some (3, dd_)))], sm_pI Sx69_ 3 dd_ 8 vx74_)) rfl ?_
        refine sm_T_cal (d1 := 1) (Q1 := vq_52 dd_ (1 + d_I r_ + d_R r_) (sm_pI Sx69_ 3 dd_ 8 vx74_)) rfl rfl (by decide) (vc_52 dd_ (1 + d_I r_ + d_R r_) (sm_pI Sx69_ 3 dd_ 8 vx74_) hIx77_ (by exact tx76_) (by exact dgr_fr (w_ := ([(3, 8)], [], [])) dg118_ (ai_fr_pI rfl) rfl rfl rfl rfl rfl) (by exact (drt_fr (w_ := ([(3, 8)], [], [])) dr118_ (ai_fr_pI rfl) rfl rfl rfl rfl rfl).1.2.2.2) (by exact dtb_fr (w_ := ([(3, 8)], [], [])) tb118_ (ai_fr_pI rfl) rfl rfl) (by (rw [rf_nk (by decide), rf_nk (by decide)]; exact bg118_))) (fun u_ Sx80_ px83_ => ?_)
        obtain ⟨vx85_, rfl, hIx81_, hFx82_, px83_⟩ := px83_
        have hFx84_ : ai_fr (sx_W vw_31) S0_ Sx80_ := ai_fr_tr hFx78_ (fr_le hFx82_ rfl)
        obtain ⟨dx87_, px83_⟩ := px83_
        have hDx86_ : idf dd_ S0_ Sx80_ := idf_tr hDx79_ dx87_
        have tx88_ : Sx80_.2.1 1 0 1 = some dd_ := (hFx82_.2.1 1 0 1 rfl).trans tx76_
        have e129_ := px83_
        have f129_ := ai_fr_tr (ai_fr_pI (W := sx_W ([(3, 0), (3, 6), (3, 8), (3, 9)], [33], [])) (t := 3) (i := dd_) (k := 8) rfl) (fr_le hFx82_ rfl)
        have bg129_ : 0 ≤ Sx80_.1 3 dd_ 5 ∧ Sx80_.1 3 dd_ 5 < 2 ^ (Sx80_.1 3 dd_ 2).toNat := by rw [f129_.1 3 dd_ 5 rfl, f129_.1 3 dd_ 2 rfl]; exact bg118_
        have hIx89_ : gi (sm_pI Sx80_ 3 dd_ 9 vx85_) := gi_pI hIx81_ (show 0 ≤ vx85_ ∧ vx85_ ≤ 64 from ⟨by omega, by omega⟩)
        have hFx90_ : ai_fr (sx_W vw_31) S0_ (sm_pI Sx80_ 3 dd_ 9 vx85_) := ai_fr_tr hFx84_ (ai_fr_pI rfl)
        have hDx91_ : idf dd_ S0_ (sm_pI Sx80_ 3 dd_ 9 vx85_) := idf_pI hDx86_ (Or.inr rfl)
        refine sm_T_go 2 (c1 := (136, [some (.inr (.inr (some (1, 0)))), some (.inr (.inr (some (3, dd_)))), some (.inl ((S0_.1 7 0 3) - 1)), some (.inl ((S0_.2.2.1 75 0 ((S0_.1 7 0 3) - 1).toNat) / 16)), some (.inl vx13_)], [.inr (.inr (some (1, 0)))], sm_pI Sx80_ 3 dd_ 9 vx85_)) rfl ?_
        refine sm_T_gr rfl rfl tx88_ ?_
        refine sm_T_go 1 (c1 := (140, [some (.inr (.inr (some (1, 0)))), some (.inr (.inr (some (3, dd_)))), some (.inl ((S0_.1 7 0 3) - 1)), some (.inl ((S0_.2.2.1 75 0 ((S0_.1 7 0 3) - 1).toNat) / 16)), some (.inl vx13_)], [.inr (.inr (some (1, 0))), .inr (.inr (some (3, dd_)))], sm_pI Sx80_ 3 dd_ 9 vx85_)) rfl ?_
        refine sm_T_gr rfl rfl tx88_ ?_
        have bx92_ : 0 ≤ Sx80_.1 3 dd_ 5 ∧ Sx80_.1 3 dd_ 5 ≤ 63 := hIx81_.1 3 dd_ 5 rfl
        have ex93_ : (sm_pI Sx80_ 3 dd_ 9 vx85_).1 3 dd_ 5 = (Sx80_.1 3 dd_ 5) := by (try simp only [rf_eq, rf_nk, rf_nt, rd_fa, rd_af, ne_eq, Nat.reduceEqDiff, not_false_eq_true])
        have hIx94_ : gi (sm_pI (sm_pI Sx80_ 3 dd_ 9 vx85_) 3 dd_ 6 ((sm_pI Sx80_ 3 dd_ 9 vx85_).1 3 dd_ 5)) := gi_pI hIx89_ (show 0 ≤ ((sm_pI Sx80_ 3 dd_ 9 vx85_).1 3 dd_ 5) ∧ ((sm_pI Sx80_ 3 dd_ 9 vx85_).1 3 dd_ 5) ≤ 63 from ⟨by omega, by omega⟩)
        have hFx95_ : ai_fr (sx_W vw_31) S0_ (sm_pI (sm_pI Sx80_ 3 dd_ 9 vx85_) 3 dd_ 6 ((sm_pI Sx80_ 3 dd_ 9 vx85_).1 3 dd_ 5)) := ai_fr_tr hFx90_ (ai_fr_pI rfl)
        have hDx96_ : idf dd_ S0_ (sm_pI (sm_pI Sx80_ 3 dd_ 9 vx85_) 3 dd_ 6 ((sm_pI Sx80_ 3 dd_ 9 vx85_).1 3 dd_ 5)) := idf_pI hDx91_ (Or.inr rfl)
        refine sm_T_go 3 (c1 := (150, [some (.inr (.inr (some (1, 0)))), some (.inr (.inr (some (3, dd_)))), some (.inl ((S0_.1 7 0 3) - 1)), some (.inl ((S0_.2.2.1 75 0 ((S0_.1 7 0 3) - 1).toNat) / 16)), some (.inl vx13_)], [.inr (.inr (some (1, 0)))], sm_pI (sm_pI Sx80_ 3 dd_ 9 vx85_) 3 dd_ 6 ((sm_pI Sx80_ 3 dd_ 9 vx85_).1 3 dd_ 5))) rfl ?_
        refine sm_T_gr rfl rfl tx88_ ?_
        have hIx97_ : gi (sm_pI (sm_pI (sm_pI Sx80_ 3 dd_ 9 vx85_) 3 dd_ 6 ((sm_pI Sx80_ 3 dd_ 9 vx85_).1 3 dd_ 5)) 3 dd_ 0 1) := gi_pI hIx94_ (show 0 ≤ 1 ∧ 1 ≤ 1 from ⟨by omega, by omega⟩)
        have hFx98_ : ai_fr (sx_W vw_31) S0_ (sm_pI (sm_pI (sm_pI Sx80_ 3 dd_ 9 vx85_) 3 dd_ 6 ((sm_pI Sx80_ 3 dd_ 9 vx85_).1 3 dd_ 5)) 3 dd_ 0 1) := ai_fr_tr hFx95_ (ai_fr_pI rfl)
        have hDx99_ : idf dd_ S0_ (sm_pI (sm_pI (sm_pI Sx80_ 3 dd_ 9 vx85_) 3 dd_ 6 ((sm_pI Sx80_ 3 dd_ 9 vx85_).1 3 dd_ 5)) 3 dd_ 0 1) := idf_pI hDx96_ (Or.inr rfl)
        refine sm_T_go 2 (c1 := (157, [some (.inr (.inr (some (1, 0)))), some (.inr (.inr (some (3, dd_)))), some (.inl ((S0_.1 7 0 3) - 1)), some (.inl ((S0_.2.2.1 75 0 ((S0_.1 7 0 3) - 1).toNat) / 16)), some (.inl vx13_)], [], sm_pI (sm_pI (sm_pI Sx80_ 3 dd_ 9 vx85_) 3 dd_ 6 ((sm_pI Sx80_ 3 dd_ 9 vx85_).1 3 dd_ 5)) 3 dd_ 0 1)) rfl ?_
        refine sm_T_rv rfl (Or.inl ⟨_, _, rfl, rfl, hIx97_, hFx98_, ?_⟩)
        refine ⟨hDx99_, ?_⟩
        have fz_ : ai_fr (sx_W ([(3, 0), (3, 6), (3, 8), (3, 9)], [33], [])) _ ((sm_pI (sm_pI (sm_pI Sx80_ 3 dd_ 9 vx85_) 3 dd_ 6 ((sm_pI Sx80_ 3 dd_ 9 vx85_).1 3 dd_ 5)) 3 dd_ 0 1)) := ai_fr_tr (ai_fr_tr (ai_fr_tr f129_ (ai_fr_pI rfl)) (ai_fr_pI rfl)) (ai_fr_pI rfl)
        refine ⟨l0_, ⟨z_, hz_, zk_⟩, rf_eq, (1 + d_I r_ + d_R r_), dgr_fr dg118_ fz_ rfl rfl rfl rfl rfl, drt_fr dr118_ fz_ rfl rfl rfl rfl rfl, swp_fr sw118_ fz_ rfl rfl rfl rfl, dtb_fr tb118_ fz_ rfl rfl, ?_, ?_⟩
        · rw [fz_.1 3 dd_ 5 rfl, fz_.1 3 dd_ 2 rfl]; exact bg118_
        · rw [fz_.1 3 dd_ 2 rfl]; (try simp only [rd_eq, rd_ne, rf_eq, rf_nk, rf_nt, rd_fa, rd_af, rd_fl, rd_al, rd_lf, rd_la, rd_leq, rd_lne, rd_fr, rd_ar, ne_eq, Nat.reduceEqDiff, not_false_eq_true]); rw [f129_.1 3 dd_ 2 rfl] at bg129_; exact bg129_
      · have cx35_ : ¬ ((Sx26_.1 1 0 8) = 0) := of_decide_eq_false cx35_
        refine sm_T_go 5 (c1 := (86, [some (.inr (.inr (some (1, 0)))), some (.inr (.inr (some (3, dd_)))), some (.inl ((S0_.1 7 0 3) - 1)), some (.inl ((S0_.2.2.1 75 0 ((S0_.1 7 0 3) - 1).toNat) / 16)), some (.inl vx13_)], [.inl ((S0_.2.2.1 75 0 ((S0_.1 7 0 3) - 1).toNat) / 16), .inl 23, .inr (.inr (some (10, 0)))], Sx26_)) rfl ?_
        refine sm_T_calx (d1 := 0) (Q1 := vq_187 23 ((S0_.2.2.1 75 0 ((S0_.1 7 0 3) - 1).toNat) / 16) Sx26_) (Q2 := vx_187 23 ((S0_.2.2.1 75 0 ((S0_.1 7 0 3) - 1).toNat) / 16) Sx26_) rfl rfl (by decide) (vc_187 23 ((S0_.2.2.1 75 0 ((S0_.1 7 0 3) - 1).toNat) / 16) Sx26_ hIx27_ (by omega) (by omega)) rfl (fun Sx100_ px103_ => ?_) (fun u_ Sx100_ px103_ => ?_)
        · obtain ⟨hIx101_, hFx102_, px103_⟩ := px103_
          refine Or.inr ⟨_, rfl, hIx101_, ai_fr_tr hFx30_ (fr_le hFx102_ rfl), ?_⟩
          refine ⟨idf_tr hDx31_ (idf_fr hFx102_ (by decide) (by decide)), Or.inr ⟨l0_, z_, hz_, by have := cf66_.1; omega⟩, ?_⟩
          exact (hFx102_.1 3 dd_ 0 rfl).trans us66_
        · exact (px103_.2.2.2).elim
    · have cx17_ : ¬ (vx13_ = 0) := of_decide_eq_false cx17_
      refine sm_T_go 5 (c1 := (54, [some (.inr (.inr (some (1, 0)))), some (.inr (.inr (some (3, dd_)))), some (.inl ((S0_.1 7 0 3) - 1)), some (.inl ((S0_.2.2.1 75 0 ((S0_.1 7 0 3) - 1).toNat) / 16)), some (.inl vx13_)], [.inl ((S0_.2.2.1 75 0 ((S0_.1 7 0 3) - 1).toNat) / 16), .inl vx13_, .inr (.inr (some (10, 0)))], Sx8_)) rfl ?_
      refine sm_T_calx (d1 := 0) (Q1 := vq_187 vx13_ ((S0_.2.2.1 75 0 ((S0_.1 7 0 3) - 1).toNat) / 16) Sx8_) (Q2 := vx_187 vx13_ ((S0_.2.2.1 75 0 ((S0_.1 7 0 3) - 1).toNat) / 16) Sx8_) rfl rfl (by decide) (vc_187 vx13_ ((S0_.2.2.1 75 0 ((S0_.1 7 0 3) - 1).toNat) / 16) Sx8_ hIx9_ (by omega) (by omega)) rfl (fun Sx105_ px108_ => ?_) (fun u_ Sx105_ px108_ => ?_)
      · obtain ⟨hIx106_, hFx107_, px108_⟩ := px108_
        refine Or.inr ⟨_, rfl, hIx106_, ai_fr_tr hFx12_ (fr_le hFx107_ rfl), ?_⟩
        refine ⟨idf_tr hDx14_ (idf_fr hFx107_ (by decide) (by decide)), Or.inl (by rw [← lm_]; omega), ?_⟩
        exact (hFx107_.1 3 dd_ 0 rfl).trans us34_
      · exact (px108_.2.2.2).elim
  · have cx6_ : ¬ (0 ≤ (S0_.1 7 0 3) - 1) := of_decide_eq_false cx6_
    exfalso; omega
