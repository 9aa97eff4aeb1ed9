/-! the reference: instances; written by wip/p55/gen/vg -/

/-! instances, second pass -/
def miq (fr_ : Nat) (S0_ S_ : sm_S) : Prop := S_.1 13 0 28 = S0_.1 13 0 28 ∧ S_.1 13 0 29 = S0_.1 13 0 29 ∧ (∀ j_, j_ < 8 * (40 * (fr_ + 1)) → S_.2.2.1 144 0 j_ = S0_.2.2.1 144 0 j_) ∧ S_.1 13 0 27 = S0_.1 13 0 27 ∧ (S_.2.2.1 146 0 = S0_.2.2.1 146 0 ∧ S_.2.2.1 147 0 = S0_.2.2.1 147 0 ∧ S_.2.2.1 148 0 = S0_.2.2.1 148 0 ∧ S_.2.2.1 149 0 = S0_.2.2.1 149 0)
theorem miq_rf {fr_ : Nat} {S_ : sm_S} : miq fr_ S_ S_ := ⟨rfl, rfl, fun _ _ => rfl, rfl, rfl, rfl, rfl, rfl⟩
theorem miq_fr {w_ : sx_Wl} {fr_ : Nat} {S0_ S_ S'_ : sm_S} (h_ : miq fr_ S0_ S_) (g_ : ai_fr (sx_W w_) S_ S'_) (h0_ : (sx_W w_).1 13 28 = false) (h1_ : (sx_W w_).1 13 29 = false) (h2_ : (sx_W w_).1 13 27 = false) (h3_ : (sx_W w_).2.1 144 = false) (h4_ : (sx_W w_).2.1 146 = false) (h5_ : (sx_W w_).2.1 147 = false) (h6_ : (sx_W w_).2.1 148 = false) (h7_ : (sx_W w_).2.1 149 = false) : miq fr_ S0_ S'_ := by
  obtain ⟨x1_, x2_, x3_, x4_, x5_, x6_, x7_, x8_⟩ := h_
  refine ⟨(g_.1 13 0 28 h0_).trans x1_, (g_.1 13 0 29 h1_).trans x2_, ?_, (g_.1 13 0 27 h2_).trans x4_, (fr_arr g_ h4_).trans x5_, (fr_arr g_ h5_).trans x6_, (fr_arr g_ h6_).trans x7_, (fr_arr g_ h7_).trans x8_⟩
  intro j_ hj_
  rw [fr_arr g_ h3_]
  exact x3_ j_ hj_
/-- the_ frame that has_ been entered -/
def mfr (fr_ d_ K_ i9_ : Nat) (S0_ S_ : sm_S) : Prop := (∀ j_, S_.2.2.1 146 0 j_ = if j_ = fr_ + 1 then (d_ : Int) else S0_.2.2.1 146 0 j_) ∧ (∀ j_, S_.2.2.1 147 0 j_ = if j_ = fr_ + 1 then (i9_ : Int) else S0_.2.2.1 147 0 j_) ∧ (∀ j_, S_.2.2.1 148 0 j_ = if j_ = fr_ + 1 then (K_ : Int) else S0_.2.2.1 148 0 j_) ∧ (∀ j_, S_.2.2.1 149 0 j_ = if j_ = fr_ + 1 then 0 else S0_.2.2.1 149 0 j_) ∧ S_.1 13 0 28 = (d_ : Int) ∧ S_.1 13 0 29 = (fr_ : Int) + 1 ∧ S_.1 13 0 9 = S0_.2.2.1 125 0 d_ ∧ S_.1 13 0 10 = 0
theorem mfr_fr {w_ : sx_Wl} {fr_ d_ K_ i9_ : Nat} {S0_ S_ S'_ : sm_S} (h_ : mfr fr_ d_ K_ i9_ S0_ S_) (g_ : ai_fr (sx_W w_) S_ S'_) (h0_ : (sx_W w_).1 13 28 = false) (h1_ : (sx_W w_).1 13 29 = false) (h2_ : (sx_W w_).1 13 9 = false) (h3_ : (sx_W w_).1 13 10 = false) (h4_ : (sx_W w_).2.1 146 = false) (h5_ : (sx_W w_).2.1 147 = false) (h6_ : (sx_W w_).2.1 148 = false) (h7_ : (sx_W w_).2.1 149 = false) : mfr fr_ d_ K_ i9_ S0_ S'_ := by
  unfold mfr at h_ ⊢
  rw [fr_arr g_ h4_, fr_arr g_ h5_, fr_arr g_ h6_, fr_arr g_ h7_, g_.1 13 0 28 h0_, g_.1 13 0 29 h1_, g_.1 13 0 9 h2_, g_.1 13 0 10 h3_]
  exact h_
/-! M_.makeInstance -/
def vw_345 : sx_Wl := ([(13, 9), (13, 10), (13, 11), (13, 28), (13, 29), (13, 32), (13, 33), (13, 34), (13, 37)], [136, 137, 138, 139, 140, 141, 142, 143, 144, 146, 147, 148, 149, 152], [])
def vq_345 (nm_ : Int) (b_ : Nat → Int) (n_ : Nat) (T_ : Nat) (F_ : Nat) (I_ : Nat) (A_ : pA) (B_ : pA) (X_ : Nat → gQ → gE → Option (gQ × gE)) (M_ : Nat) (fr_ : Nat) (q0_ : gQ) (E_ : gE) (O_ : gO) (p_ : Nat) (d_ : Nat) (p1_ : Nat) (p2_ : Nat) (p3_ : Nat) (p4_ : Nat) (p5_ : Nat) (pe_ : Nat) (y_ : Nat) (l_ : List (pR × Nat)) (S0_ : sm_S) (u_ : Option sm_V) (S1_ : sm_S) : Prop := u_ = none ∧ gi S1_ ∧ ai_fr (sx_W vw_345) S0_ S1_ ∧ (∃ (G_ : pGr) (o_ : Nat → List Int) (i9_ : Nat), ev F_ I_ B_ X_ M_ (q0_, E_, O_, []) (acd (A_.1 M_) l_ [cw 15 (A_.1 M_ : Int) 0]) = some ((G_, q0_.2.1, q0_.2.2 + 1), E_, up1 O_ (A_.1 M_) (some o_), []) ∧ oin B_ d_ (B_.1 d_) o_ ∧ (∀ s_, s_ < 40 → (o_ s_).length ≤ 8) ∧ (∀ s_, B_.1 d_ ≤ s_ → o_ s_ = []) ∧ rgl F_ G_ S1_ ∧ rp b_ n_ T_ i9_ y_ ∧ (mfr fr_ d_ (A_.1 M_) i9_ S0_ S1_) ∧ (∀ j_, j_ < 8 * (40 * (fr_ + 1)) → S1_.2.2.1 144 0 j_ = S0_.2.2.1 144 0 j_) ∧ rev (fr_ + 1) 0 o_ (fun _ => none) (G_.length ≤ 1001) S1_)
set_option maxHeartbeats 2000000 in
set_option maxRecDepth 20000 in
theorem vl_345 {sc_ : Nat × (Nat → Int)} (nm_ : Int) (b_ : Nat → Int) (n_ : Nat) (T_ : Nat) (F_ : Nat) (I_ : Nat) (A_ : pA) (B_ : pA) (X_ : Nat → gQ → gE → Option (gQ × gE)) (M_ : Nat) (fr_ : Nat) (q0_ : gQ) (E_ : gE) (O_ : gO) (p_ : Nat) (d_ : Nat) (p1_ : Nat) (p2_ : Nat) (p3_ : Nat) (p4_ : Nat) (p5_ : Nat) (pe_ : Nat) (y_ : Nat) (l_ : List (pR × Nat)) (S0_ : sm_S) (ht_ : rtab b_ n_ T_ S0_) (hx_ : rg b_ n_ T_ (.inr p_) S0_) (hm1_ : (S0_.1 13 0 27) = 1) (hen_ : r_e1 b_ n_ T_ B_ M_ fr_ S0_) (hA_ : a_ok b_ n_ A_ M_) (hxx_ : a_ex A_ B_ M_) (hX_ : ∀ d_ q_ e_ z_, X_ d_ q_ e_ = some z_ → q_.1.length ≤ z_.1.1.length) (hte_ : ten B_ M_ (A_.1 M_) E_ O_) (hev_ : rev fr_ (A_.1 M_) E_ O_ (q0_.1.length ≤ 1001) S0_) (hg_ : rgl F_ q0_.1 S0_) (hd1_ : d_ < M_ ∧ fr_ + 1 ≤ 15 ∧ nm_ = (A_.1 M_ : Int) ∧ A_.1 M_ < B_.1 M_) (h5_ : B_.2.2.2.2 (40 * M_ + A_.1 M_) = (d_ : Int)) (ha1_ : p_ad b_ n_ p_ = .inr p1_) (hk1_ : lx_kd b_ n_ p_ ≠ 0 ∧ lx_kd b_ n_ p1_ ≠ 0 ∧ lx_kd b_ n_ p2_ ≠ 0) (ha2_ : p_ad b_ n_ p1_ = .inr p2_) (ha3_ : p_ad b_ n_ p2_ = .inr p3_) (h40_ : p_nd b_ n_ 40 p3_ = .inr p4_) (hu_ : uch b_ n_ A_ M_ d_ l_ 0 p4_ pe_) (h41_ : p_nd b_ n_ 41 pe_ = .inr p5_) (h59_ : p_nd b_ n_ 59 p5_ = .inr y_) (hE_ : E_ (A_.1 M_) = []) (hO_ : O_ (A_.1 M_) = none) (hfc_ : q0_.2.2 ≤ 200) (hE8_ : ∀ s_, s_ < 40 → (E_ s_).length ≤ 8) : ∀ nn_ : Nat, (∀ (dm_ : Int) (mn : Int) (k_ : Int) (S_ : sm_S), gi S_ → ai_fr (sx_W vw_345) S0_ S_ → ((dm_ = (d_ : Int) ∧ mn = (p_cn (g_in B_ d_) (B_.1 d_) : Int) ∧ 0 ≤ k_) ∧ (miq fr_ S0_ S_) ∧ (∃ (l2_ : List (pR × Nat)) (k0_ : Nat) (pc_ : Nat) (cc_ : List Int) (G_ : pGr) (o_ : Nat → List Int), uch b_ n_ A_ M_ d_ l2_ k0_ pc_ pe_ ∧ k0_ ≤ B_.1 d_ ∧ k_ = (p_cn (g_in B_ d_) k0_ : Int) ∧ acd (A_.1 M_) l2_ cc_ = acd (A_.1 M_) l_ [cw 15 (A_.1 M_ : Int) 0] ∧ ev F_ I_ B_ X_ M_ (q0_, E_, O_, []) cc_ = some ((G_, q0_.2.1, q0_.2.2 + 1), E_, up1 O_ (A_.1 M_) (some o_), []) ∧ aro B_ d_ k0_ o_ (S_.2.2.1 152 0) (G_.length ≤ 1001) ∧ rgl F_ G_ S_ ∧ rg b_ n_ T_ (.inr pc_) S_) ∧ True) → ((2000 + 20 * (50 - k_) + 10).toNat) < nn_ → sm_T (mt_P sc_) 9 345 (41, [some (.inr (.inr (some (13, 0)))), some (.inl nm_), some (.inl dm_), some (.inl mn), some (.inl k_), none, none, none], [], S_) (fun ro9_ => ∃ u_ S1_, ro9_ = (.inl u_, S1_, 0) ∧ vq_345 nm_ b_ n_ T_ F_ I_ A_ B_ X_ M_ fr_ q0_ E_ O_ p_ d_ p1_ p2_ p3_ p4_ p5_ pe_ y_ l_ S0_ u_ S1_)) ∧ (∀ (dm_ : Int) (mn : Int) (k_ : Int) (j_ : Int) (S_ : sm_S), gi S_ → ai_fr (sx_W vw_345) S0_ S_ → ((dm_ = (d_ : Int) ∧ mn = (p_cn (g_in B_ d_) (B_.1 d_) : Int) ∧ 0 ≤ k_ ∧ k_ < mn ∧ 0 ≤ j_ ∧ j_ ≤ 8) ∧ (miq fr_ S0_ S_) ∧ (∃ (xi_ : pR × Nat) (l3_ : List (pR × Nat)) (k0_ : Nat) (pc_ : Nat) (cc_ : List Int) (G_ : pGr) (G1_ : pGr) (o_ : Nat → List Int) (v9_ : List Int), uch b_ n_ A_ M_ d_ (xi_ :: l3_) k0_ pc_ pe_ ∧ k0_ ≤ B_.1 d_ ∧ k_ = (p_cn (g_in B_ d_) k0_ : Int) ∧ acd (A_.1 M_) (xi_ :: l3_) cc_ = acd (A_.1 M_) l_ [cw 15 (A_.1 M_ : Int) 0] ∧ G_.length ≤ G1_.length ∧ ev F_ I_ B_ X_ M_ (q0_, E_, O_, []) (xi_.1.2.2 ++ cc_) = some ((G1_, q0_.2.1, q0_.2.2 + 1), E_, up1 O_ (A_.1 M_) (some o_), [v9_]) ∧ ((v9_.length : Int) = h_tp xi_.1.2.1 ∧ v9_.length ≤ 8) ∧ aro B_ d_ k0_ o_ (S_.2.2.1 152 0) (G_.length ≤ 1001) ∧ rgl F_ G1_ S_ ∧ rg b_ n_ T_ (.inr xi_.1.1) S_ ∧ imq (G1_.length ≤ 1001) (rwv (S_.2.2.1 139 0) 0 v9_) ∧ ∀ i_, i_ < j_.toNat → S_.2.2.1 152 0 (8 * k_.toNat + i_) = S_.2.2.1 139 0 i_) ∧ True) → ((2000 + 20 * (50 - k_) + 9 - j_).toNat) < nn_ → sm_T (mt_P sc_) 9 345 (54, [some (.inr (.inr (some (13, 0)))), some (.inl nm_), some (.inl dm_), some (.inl mn), some (.inl k_), some (.inl j_), none, none], [], S_) (fun ro9_ => ∃ u_ S1_, ro9_ = (.inl u_, S1_, 0) ∧ vq_345 nm_ b_ n_ T_ F_ I_ A_ B_ X_ M_ fr_ q0_ E_ O_ p_ d_ p1_ p2_ p3_ p4_ p5_ pe_ y_ l_ S0_ u_ S1_)) ∧ (∀ (dm_ : Int) (mn : Int) (tk_ : Int) (k5_ : Int) (S_ : sm_S), gi S_ → ai_fr (sx_W vw_345) S0_ S_ → ((dm_ = (d_ : Int) ∧ mn = (p_cn (g_in B_ d_) (B_.1 d_) : Int) ∧ 0 ≤ k5_ ∧ k5_ ≤ mn) ∧ (S_.1 13 0 29 = (fr_ : Int) + 1) ∧ (∃ (G_ : pGr) (o_ : Nat → List Int) (i9_ : Nat), ev F_ I_ B_ X_ M_ (q0_, E_, O_, []) (acd (A_.1 M_) l_ [cw 15 (A_.1 M_ : Int) 0]) = some ((G_, q0_.2.1, q0_.2.2 + 1), E_, up1 O_ (A_.1 M_) (some o_), []) ∧ aro B_ d_ (B_.1 d_) o_ (S_.2.2.1 152 0) (G_.length ≤ 1001) ∧ rgl F_ G_ S_ ∧ rp b_ n_ T_ i9_ y_ ∧ tk_ = (i9_ : Int) ∧ imq (G_.length ≤ 1001) (∀ s_, s_ < B_.1 d_ → B_.2.2.1 (40 * d_ + s_) = 0 → (p_cn (g_in B_ d_) s_ : Int) < k5_ → rwv (S_.2.2.1 144 0) (8 * (40 * (fr_ + 1) + s_)) (o_ s_)) ∧ (mfr fr_ d_ (A_.1 M_) i9_ S0_ S_) ∧ (∀ j_, j_ < 8 * (40 * (fr_ + 1)) → S_.2.2.1 144 0 j_ = S0_.2.2.1 144 0 j_)) ∧ True) → ((20 * (50 - k5_) + 10).toNat) < nn_ → sm_T (mt_P sc_) 9 345 (154, [some (.inr (.inr (some (13, 0)))), some (.inl nm_), some (.inl dm_), some (.inl mn), some (.inl tk_), some (.inl k5_), none, none], [], S_) (fun ro9_ => ∃ u_ S1_, ro9_ = (.inl u_, S1_, 0) ∧ vq_345 nm_ b_ n_ T_ F_ I_ A_ B_ X_ M_ fr_ q0_ E_ O_ p_ d_ p1_ p2_ p3_ p4_ p5_ pe_ y_ l_ S0_ u_ S1_)) ∧ (∀ (dm_ : Int) (mn : Int) (tk_ : Int) (k5_ : Int) (s6_ : Int) (k7_ : Int) (S_ : sm_S), gi S_ → ai_fr (sx_W vw_345) S0_ S_ → ((dm_ = (d_ : Int) ∧ mn = (p_cn (g_in B_ d_) (B_.1 d_) : Int) ∧ 0 ≤ k5_ ∧ k5_ < mn ∧ 0 ≤ k7_ ∧ k7_ ≤ 8 ∧ 0 ≤ s6_ ∧ s6_ < (B_.1 d_ : Int)) ∧ (S_.1 13 0 29 = (fr_ : Int) + 1) ∧ (g_in B_ d_ s6_.toNat = true ∧ B_.2.2.1 (40 * d_ + s6_.toNat) = 0 ∧ (p_cn (g_in B_ d_) s6_.toNat : Int) = k5_ ∧ ∀ i_, i_ < k7_.toNat → S_.2.2.1 144 0 (8 * (40 * (fr_ + 1) + s6_.toNat) + i_) = S_.2.2.1 152 0 (8 * k5_.toNat + i_)) ∧ (∃ (G_ : pGr) (o_ : Nat → List Int) (i9_ : Nat), ev F_ I_ B_ X_ M_ (q0_, E_, O_, []) (acd (A_.1 M_) l_ [cw 15 (A_.1 M_ : Int) 0]) = some ((G_, q0_.2.1, q0_.2.2 + 1), E_, up1 O_ (A_.1 M_) (some o_), []) ∧ aro B_ d_ (B_.1 d_) o_ (S_.2.2.1 152 0) (G_.length ≤ 1001) ∧ rgl F_ G_ S_ ∧ rp b_ n_ T_ i9_ y_ ∧ tk_ = (i9_ : Int) ∧ imq (G_.length ≤ 1001) (∀ s_, s_ < B_.1 d_ → B_.2.2.1 (40 * d_ + s_) = 0 → (p_cn (g_in B_ d_) s_ : Int) < k5_ → rwv (S_.2.2.1 144 0) (8 * (40 * (fr_ + 1) + s_)) (o_ s_)) ∧ (mfr fr_ d_ (A_.1 M_) i9_ S0_ S_) ∧ (∀ j_, j_ < 8 * (40 * (fr_ + 1)) → S_.2.2.1 144 0 j_ = S0_.2.2.1 144 0 j_)) ∧ True) → ((20 * (50 - k5_) + 9 - k7_).toNat) < nn_ → sm_T (mt_P sc_) 9 345 (173, [some (.inr (.inr (some (13, 0)))), some (.inl nm_), some (.inl dm_), some (.inl mn), some (.inl tk_), some (.inl k5_), some (.inl s6_), some (.inl k7_)], [], S_) (fun ro9_ => ∃ u_ S1_, ro9_ = (.inl u_, S1_, 0) ∧ vq_345 nm_ b_ n_ T_ F_ I_ A_ B_ X_ M_ fr_ q0_ E_ O_ p_ d_ p1_ p2_ p3_ p4_ p5_ pe_ y_ l_ S0_ u_ S1_)) := by
  intro nn_
  induction nn_ with
  | zero => exact ⟨fun _ _ _ _ _ _ _ h_ => absurd h_ (Nat.not_lt_zero _), fun _ _ _ _ _ _ _ _ h_ => absurd h_ (Nat.not_lt_zero _), fun _ _ _ _ _ _ _ _ h_ => absurd h_ (Nat.not_lt_zero _), fun _ _ _ _ _ _ _ _ _ _ h_ => absurd h_ (Nat.not_lt_zero _)⟩
  | succ nn_ ih_ =>
    refine ⟨?_, ?_, ?_, ?_⟩
    · rintro dm_ mn k_ S_ hI_ hF_ ⟨h0_, hq_, h1_, -⟩ hm_
      have ht1_ := rtab_fr ht_ hF_ rfl rfl rfl rfl rfl
      have M15_ := hA_.1
      have dM_ := hd1_.1
      have B40_ := (hen_.1.2 d_ (by omega)).1
      have cb_ := p_cn_b (g_ := g_in B_ d_) (B_.1 d_)
      have hB_ := hen_.1
      have BM40_ := (hen_.1.2 M_ (Nat.le_refl _)).1
      have en1_ : r_e1 b_ n_ T_ B_ M_ fr_ S_ := ⟨hen_.1, hq_.1.trans hen_.2.1, ⟨hq_.2.1.trans hen_.2.2.1.1, hen_.2.2.1.2⟩, fun m_ hm_ => re1_fr (hen_.2.2.2 m_ hm_) hF_ rfl rfl rfl rfl rfl rfl⟩
      have hev1_ : rev fr_ (A_.1 M_) E_ O_ (q0_.1.length ≤ 1001) S_ := rev_lo hev_ id hE8_ (fun j_ hj_ => hq_.2.2.1 j_ hj_) (fr_arr (t := 145) (i := 0) hF_ rfl)
      refine sm_T_go 2 (c1 := (44, [some (.inr (.inr (some (13, 0)))), some (.inl nm_), some (.inl dm_), some (.inl mn), some (.inl k_), none, none, none], [.inl mn, .inl k_], S_)) rfl ?_
      refine sm_T_br (a := 3) (z := 71) rfl (fun cx1_ => ?_) (fun cx1_ => ?_)
      · have cx1_ : mn ≤ k_ := of_decide_eq_true cx1_
        obtain ⟨l2_, k0_, pc_, cc_, G_, o_, z1_, z2_, z3_, z4_, z5_, z6_, z7_, z8_⟩ := h1_
        have nn1_ := ac_nn hA_ hB_ hxx_ dM_ z1_ z2_
        have hl_ : l2_ = [] := List.eq_nil_of_length_eq_zero (by omega)
        subst hl_
        obtain ⟨w1_, w2_⟩ := ac_0 hA_ hB_ hxx_ dM_ z1_
        subst w1_
        have z4_ : cc_ = acd (A_.1 M_) l_ [cw 15 (A_.1 M_ : Int) 0] := z4_
        subst z4_
        have aB_ : aro B_ d_ (B_.1 d_) o_ (S_.2.2.1 152 0) (G_.length ≤ 1001) := ⟨⟨fun s_ hs_ h0_ _ => by by_cases q9_ : s_ < k0_; exact z6_.1.1 s_ hs_ h0_ q9_; exact absurd h0_ (w2_ s_ hs_ (by omega)), z6_.1.2⟩, z6_.2.1, fun z_ s_ hs_ hs2_ h0_ => by by_cases q9_ : s_ < k0_; exact z6_.2.2 z_ s_ q9_ hs2_ h0_; exact absurd h0_ (w2_ s_ hs2_ (by omega))⟩
        refine sm_T_go 2 (c1 := (118, [some (.inr (.inr (some (13, 0)))), some (.inl nm_), some (.inl dm_), some (.inl mn), some (.inl k_), none, none, none], [.inl 41, .inr (.inr (some (13, 0)))], S_)) rfl ?_
        refine sm_T_cal (d1 := 3) (Q1 := vq_300 41 b_ n_ T_ (.inr pe_) S_) rfl rfl (by decide) (vc_300 41 b_ n_ T_ (.inr pe_) S_ hI_ (by exact ht1_) (by exact z8_) (by decide)) (fun u_ Sx2_ px5_ => ?_)
        obtain ⟨rfl, hIx3_, hFx4_, px5_⟩ := px5_
        have hFx6_ : ai_fr (sx_W vw_345) S0_ Sx2_ := ai_fr_tr hF_ (fr_le hFx4_ rfl)
        have g118_ := px5_
        rw [pb_r rfl, h41_] at g118_
        have t118_ := rtab_fr ht1_ hFx4_ rfl rfl rfl rfl rfl
        have F118_ := hFx4_
        refine sm_T_go 2 (c1 := (124, [some (.inr (.inr (some (13, 0)))), some (.inl nm_), some (.inl dm_), some (.inl mn), some (.inl k_), none, none, none], [.inl 59, .inr (.inr (some (13, 0)))], Sx2_)) rfl ?_
        refine sm_T_cal (d1 := 3) (Q1 := vq_300 59 b_ n_ T_ (.inr p5_) Sx2_) rfl rfl (by decide) (vc_300 59 b_ n_ T_ (.inr p5_) Sx2_ hIx3_ (by exact t118_) (by exact g118_) (by decide)) (fun u_ Sx7_ px10_ => ?_)
        obtain ⟨rfl, hIx8_, hFx9_, px10_⟩ := px10_
        have hFx11_ : ai_fr (sx_W vw_345) S0_ Sx7_ := ai_fr_tr hFx6_ (fr_le hFx9_ rfl)
        have g124_ := px10_
        rw [pb_r rfl, h59_] at g124_
        obtain ⟨i9_, hi1_, hi2_⟩ := id g124_.2
        have f124_ := g124_.1
        have F124_ := hFx9_
        have hi3_ := hi2_.1
        have hT_ := ht_.2.1
        have M124_ : miq fr_ S0_ Sx7_ := miq_fr (miq_fr hq_ F118_ rfl rfl rfl rfl rfl rfl rfl rfl) hFx9_ rfl rfl rfl rfl rfl rfl rfl rfl
        have d124_ := M124_.2.1
        have d125_ := hen_.2.2.1.1
        have a124_ : Sx7_.2.2.1 152 0 = S_.2.2.1 152 0 := (fr_arr (t := 152) (i := 0) hFx9_ rfl).trans (fr_arr (t := 152) (i := 0) F118_ rfl)
        have r124_ := rgl_fr (rgl_fr z7_ F118_ rfl rfl rfl rfl rfl rfl) hFx9_ rfl rfl rfl rfl rfl rfl
        have H124_ := hFx11_
        have bx12_ : 0 ≤ Sx7_.1 13 0 9 ∧ Sx7_.1 13 0 9 ≤ 1280 := hIx8_.1 13 0 9 rfl
        have bx13_ : 0 ≤ Sx7_.1 13 0 29 ∧ Sx7_.1 13 0 29 ≤ 16 := hIx8_.1 13 0 29 rfl
        refine sm_T_go 7 (c1 := (139, [some (.inr (.inr (some (13, 0)))), some (.inl nm_), some (.inl dm_), some (.inl mn), some (.inl (Sx7_.1 13 0 9)), none, none, none], [.inl 1, .inl (Sx7_.1 13 0 29), .inr (.inr (some (13, 0)))], Sx7_)) rfl ?_
        refine sm_T_bin (w := (Sx7_.1 13 0 29) + 1) rfl (bi_add (by omega) (by omega) (by omega)) ?_
        have hIx14_ : gi (sm_pI Sx7_ 13 0 29 ((Sx7_.1 13 0 29) + 1)) := gi_pI hIx8_ (show 0 ≤ (Sx7_.1 13 0 29) + 1 ∧ (Sx7_.1 13 0 29) + 1 ≤ 16 from ⟨by omega, by omega⟩)
        have hFx15_ : ai_fr (sx_W vw_345) S0_ (sm_pI Sx7_ 13 0 29 ((Sx7_.1 13 0 29) + 1)) := ai_fr_tr hFx11_ (ai_fr_pI rfl)
        refine sm_T_go 5 (c1 := (148, [some (.inr (.inr (some (13, 0)))), some (.inl nm_), some (.inl dm_), some (.inl mn), some (.inl (Sx7_.1 13 0 9)), none, none, none], [.inl nm_, .inl (Sx7_.1 13 0 9), .inl dm_, .inr (.inr (some (13, 0)))], sm_pI Sx7_ 13 0 29 ((Sx7_.1 13 0 29) + 1))) rfl ?_
        refine sm_T_cal (d1 := 0) (Q1 := vq_341 dm_ (Sx7_.1 13 0 9) nm_ (fr_ + 1) (sm_pI Sx7_ 13 0 29 ((Sx7_.1 13 0 29) + 1))) rfl rfl (by decide) (vc_341 dm_ (Sx7_.1 13 0 9) nm_ (fr_ + 1) (sm_pI Sx7_ 13 0 29 ((Sx7_.1 13 0 29) + 1)) hIx14_ (by (refine ⟨?_, by omega⟩; (try simp only [rd_eq, rd_ne, rf_eq, rf_nk, rf_nt, rd_fa, rd_af, rd_fl, rd_al, rd_lf, rd_la, rd_leq, rd_lne, rd_fr, rd_ar, ne_eq, Nat.reduceEqDiff, not_false_eq_true]); push_cast; omega)) (by omega) (by omega) (by omega)) (fun u_ Sx16_ px19_ => ?_)
        obtain ⟨rfl, hIx17_, hFx18_, px19_⟩ := px19_
        have hFx20_ : ai_fr (sx_W vw_345) S0_ Sx16_ := ai_fr_tr hFx15_ (fr_le hFx18_ rfl)
        obtain ⟨e1_, e2_, e3_, e4_, e5_, e6_⟩ := px19_
        have b148_ := fr_arr (t := 144) (i := 0) hFx18_ rfl
        have a148_ := fr_arr (t := 152) (i := 0) hFx18_ rfl
        have f148_ := hFx18_.1 13 0 10 rfl
        have g148_ := hFx18_.1 13 0 29 rfl
        have r148_ := rgl_fr (S_ := (sm_pI Sx7_ 13 0 29 ((Sx7_.1 13 0 29) + 1))) (rgl_fr (w_ := ([(13, 29)], [], [])) r124_ (ai_fr_pI rfl) rfl rfl rfl rfl rfl rfl) hFx18_ rfl rfl rfl rfl rfl rfl
        have F148_ := hFx18_
        refine sm_T_go 2 (c1 := (154, [some (.inr (.inr (some (13, 0)))), some (.inl nm_), some (.inl dm_), some (.inl mn), some (.inl (Sx7_.1 13 0 9)), some (.inl 0), none, none], [], Sx16_)) rfl ?_
        refine ih_.2.2.1 dm_ mn (Sx7_.1 13 0 9) 0 Sx16_ hIx17_ hFx20_ ⟨?_, ?_, ?_, trivial⟩ ?_
        · omega
        · exact g148_.trans (by (try simp only [rd_eq, rd_ne, rf_eq, rf_nk, rf_nt, rd_fa, rd_af, rd_fl, rd_al, rd_lf, rd_la, rd_leq, rd_lne, rd_fr, rd_ar, ne_eq, Nat.reduceEqDiff, not_false_eq_true]); omega)
        · refine ⟨G_, o_, i9_, z5_, by rw [a148_]; exact (a124_ ▸ aB_), r148_, hi2_, hi1_, fun _ s_ _ _ hl_ => by omega, ⟨fun j_ => (e1_ j_).trans ?_, fun j_ => (e2_ j_).trans ?_, fun j_ => (e3_ j_).trans ?_, fun j_ => (e4_ j_).trans ?_, e5_.trans h0_.1, g148_.trans (by (try simp only [rd_eq, rd_ne, rf_eq, rf_nk, rf_nt, rd_fa, rd_af, rd_fl, rd_al, rd_lf, rd_la, rd_leq, rd_lne, rd_fr, rd_ar, ne_eq, Nat.reduceEqDiff, not_false_eq_true]); omega), e6_.trans ?_, f148_.trans f124_⟩, fun j_ hj_ => ?_⟩
          · have q1_ := congrFun M124_.2.2.2.2.1 j_; by_cases zj_ : j_ = fr_ + 1; (rw [if_pos zj_, if_pos zj_] <;> first | exact h0_.1 | exact hi1_ | exact hd1_.2.2.1 | rfl); (rw [if_neg zj_, if_neg zj_]; exact q1_)
          · have q1_ := congrFun M124_.2.2.2.2.2.1 j_; by_cases zj_ : j_ = fr_ + 1; (rw [if_pos zj_, if_pos zj_] <;> first | exact h0_.1 | exact hi1_ | exact hd1_.2.2.1 | rfl); (rw [if_neg zj_, if_neg zj_]; exact q1_)
          · have q1_ := congrFun M124_.2.2.2.2.2.2.1 j_; by_cases zj_ : j_ = fr_ + 1; (rw [if_pos zj_, if_pos zj_] <;> first | exact h0_.1 | exact hi1_ | exact hd1_.2.2.1 | rfl); (rw [if_neg zj_, if_neg zj_]; exact q1_)
          · have q1_ := congrFun M124_.2.2.2.2.2.2.2 j_; by_cases zj_ : j_ = fr_ + 1; (rw [if_pos zj_, if_pos zj_] <;> first | exact h0_.1 | exact hi1_ | exact hd1_.2.2.1 | rfl); (rw [if_neg zj_, if_neg zj_]; exact q1_)
          · rw [show dm_.toNat = d_ by omega]; exact congrFun (fr_arr (t := 125) (i := 0) H124_ rfl) d_
          · rw [b148_]; exact M124_.2.2.1 j_ hj_
        · omega
      · have cx1_ : ¬ (mn ≤ k_) := of_decide_eq_false cx1_
        obtain ⟨l2_, k0_, pc_, cc_, G_, o_, z1_, z2_, z3_, z4_, z5_, z6_, z7_, z8_⟩ := h1_
        have nn1_ := ac_nn hA_ hB_ hxx_ dM_ z1_ z2_
        obtain ⟨xi_, l3_, hl_⟩ : ∃ xi_ l3_, l2_ = xi_ :: l3_ := by cases l2_ with | nil => (exfalso; simp only [List.length_nil] at nn1_; omega) | cons a_ l9_ => exact ⟨a_, l9_, rfl⟩
        subst hl_
        obtain ⟨y1_, y2_, y3_, y4_, y5_, y6_, y7_⟩ := ac_st hA_ hB_ hxx_ dM_ z1_ z2_
        have gl_ : q0_.1.length ≤ G_.length := ev_le hX_ z5_
        refine sm_T_go 1 (c1 := (48, [some (.inr (.inr (some (13, 0)))), some (.inl nm_), some (.inl dm_), some (.inl mn), some (.inl k_), none, none, none], [.inr (.inr (some (13, 0)))], S_)) rfl ?_
        refine sm_T_cal (d1 := 8) (Q1 := vq_321g b_ n_ T_ F_ I_ B_ X_ M_ ((G_, q0_.2.1, q0_.2.2 + 1), E_, up1 O_ (A_.1 M_) (some o_), []) (p_pd b_ n_ A_ M_) (A_.1 M_) fr_ pc_ xi_.1 S_) rfl rfl (by decide) (vc_321g b_ n_ T_ F_ I_ B_ X_ M_ ((G_, q0_.2.1, q0_.2.2 + 1), E_, up1 O_ (A_.1 M_) (some o_), []) (p_pd b_ n_ A_ M_) (A_.1 M_) fr_ pc_ xi_.1 S_ hI_ (by exact ht1_) (by exact pd_ok hA_) (by (intro p9_ r9_ h9_; exact pd_ex hA_ hxx_ h9_)) (by exact hX_) (by exact en1_) (by exact ten_o hte_) (by exact rev_o hev1_ (fun z_ => Nat.le_trans gl_ z_)) (by exact z8_) (by exact hq_.2.2.2.1.trans hm1_) (by exact ⟨rfl, z7_⟩) (by exact y2_)) (fun u_ Sx21_ px24_ => ?_)
        obtain ⟨rfl, hIx22_, hFx23_, px24_⟩ := px24_
        have hFx25_ : ai_fr (sx_W vw_345) S0_ Sx21_ := ai_fr_tr hF_ (fr_le hFx23_ rfl)
        obtain ⟨g48_, G1_, v1_, x1_, x2_, x3_, x4_, x5_, x6_⟩ := px24_
        have gl1_ : G_.length ≤ G1_.length := ev_le hX_ x1_
        have a48_ := fr_arr (t := 152) (i := 0) hFx23_ rfl
        have F48_ := hFx23_
        refine sm_T_go 2 (c1 := (54, [some (.inr (.inr (some (13, 0)))), some (.inl nm_), some (.inl dm_), some (.inl mn), some (.inl k_), some (.inl 0), none, none], [], Sx21_)) rfl ?_
        refine ih_.2.1 dm_ mn k_ 0 Sx21_ hIx22_ hFx25_ ⟨?_, ?_, ?_, trivial⟩ ?_
        · omega
        · exact miq_fr hq_ F48_ rfl rfl rfl rfl rfl rfl rfl rfl
        · refine ⟨xi_, l3_, k0_, pc_, cc_, G_, G1_, o_, v1_, z1_, z2_, z3_, z4_, gl1_, by rw [ev_a z5_]; exact x1_, ⟨x2_.symm, x3_.2⟩, by rw [a48_]; exact z6_, x5_, g48_, x6_, fun i_ hi_ => absurd hi_ (Nat.not_lt_zero _)⟩
        · omega
    · rintro dm_ mn k_ j_ S_ hI_ hF_ ⟨h0_, hq_, h1_, -⟩ hm_
      have ht1_ := rtab_fr ht_ hF_ rfl rfl rfl rfl rfl
      have M15_ := hA_.1
      have dM_ := hd1_.1
      have B40_ := (hen_.1.2 d_ (by omega)).1
      have cb_ := p_cn_b (g_ := g_in B_ d_) (B_.1 d_)
      have hB_ := hen_.1
      have BM40_ := (hen_.1.2 M_ (Nat.le_refl _)).1
      have en1_ : r_e1 b_ n_ T_ B_ M_ fr_ S_ := ⟨hen_.1, hq_.1.trans hen_.2.1, ⟨hq_.2.1.trans hen_.2.2.1.1, hen_.2.2.1.2⟩, fun m_ hm_ => re1_fr (hen_.2.2.2 m_ hm_) hF_ rfl rfl rfl rfl rfl rfl⟩
      have hev1_ : rev fr_ (A_.1 M_) E_ O_ (q0_.1.length ≤ 1001) S_ := rev_lo hev_ id hE8_ (fun j_ hj_ => hq_.2.2.1 j_ hj_) (fr_arr (t := 145) (i := 0) hF_ rfl)
      refine sm_T_go 2 (c1 := (58, [some (.inr (.inr (some (13, 0)))), some (.inl nm_), some (.inl dm_), some (.inl mn), some (.inl k_), some (.inl j_), none, none], [.inl 8, .inl j_], S_)) rfl ?_
      refine sm_T_br (a := 3) (z := 29) rfl (fun cx1_ => ?_) (fun cx1_ => ?_)
      · have cx1_ : 8 ≤ j_ := of_decide_eq_true cx1_
        obtain ⟨xi_, l3_, k0_, pc_, cc_, G_, G1_, o_, v9_, z1_, z2_, z3_, z4_, z5_, z6_, z7_, z8_, z9_, za_, zb_, zc_⟩ := h1_
        have nn1_ := ac_nn hA_ hB_ hxx_ dM_ z1_ z2_
        simp only [List.length_cons] at nn1_
        obtain ⟨y1_, y2_, y3_, y4_, y5_, y6_, y7_⟩ := ac_st hA_ hB_ hxx_ dM_ z1_ z2_
        have y1b := y1_.2.1
        have y4b := y4_.2
        have hrow : imq (G1_.length ≤ 1001) (rwv (S_.2.2.1 152 0) (8 * p_cn (g_in B_ d_) k0_) v9_) := fun z_ k9_ q9_ e9_ => by (have kl_ : k9_ < v9_.length := by by_cases q_ : k9_ < v9_.length; exact q_; (rw [List.getElem?_eq_none (by omega)] at e9_; cases e9_)); (have q8_ := zb_ z_ k9_ q9_ e9_); (have q7_ := zc_ k9_ (by have := z7_.2; omega)); rw [Nat.zero_add] at q8_; rw [show 8 * p_cn (g_in B_ d_) k0_ + k9_ = 8 * k_.toNat + k9_ by omega, q7_, q8_]
        have up_ := aro_up z8_ y1_ (z7_.1.trans y3_) y4_.1 y7_ (fun z_ => Nat.le_trans z5_ z_) hrow
        have e16_ := ev_16 (i_ := xi_.2) z6_ hd1_.2.2.2 BM40_ (by omega) z7_.2
        have hT_ := ht_.2.1
        have bx2_ : 0 ≤ S_.1 13 0 9 ∧ S_.1 13 0 9 ≤ 1280 := hI_.1 13 0 9 rfl
        refine sm_T_go 6 (c1 := (96, [some (.inr (.inr (some (13, 0)))), some (.inl nm_), some (.inl dm_), some (.inl mn), some (.inl k_), some (.inl j_), none, none], [.inl 1, .inl mn, .inl k_, .inl (S_.1 13 0 9), .inr (.inr (some (13, 0)))], S_)) rfl ?_
        refine sm_T_bin (w := mn - 1) rfl (bi_sub (by omega) (by omega) (by omega)) ?_
        refine sm_T_br (a := 3) (z := 7) rfl (fun cx3_ => ?_) (fun cx3_ => ?_)
        · have cx3_ : mn - 1 ≤ k_ := of_decide_eq_true cx3_
          have l30_ : l3_ = [] := List.eq_nil_of_length_eq_zero (by omega)
          have w3_ := y5_ l30_
          refine sm_T_go 1 (c1 := (105, [some (.inr (.inr (some (13, 0)))), some (.inl nm_), some (.inl dm_), some (.inl mn), some (.inl k_), some (.inl j_), none, none], [.inl 0, .inl (S_.1 13 0 9), .inr (.inr (some (13, 0)))], S_)) rfl ?_
          refine sm_T_bin (w := (S_.1 13 0 9)) rfl (bi_add (by omega) (by omega) (by omega)) ?_
          have hIx4_ : gi (sm_pI S_ 13 0 9 (S_.1 13 0 9)) := gi_pI hI_ (show 0 ≤ (S_.1 13 0 9) ∧ (S_.1 13 0 9) ≤ 1280 from ⟨by omega, by omega⟩)
          have hFx5_ : ai_fr (sx_W vw_345) S0_ (sm_pI S_ 13 0 9 (S_.1 13 0 9)) := ai_fr_tr hF_ (ai_fr_pI rfl)
          refine sm_T_go 1 (c1 := (109, [some (.inr (.inr (some (13, 0)))), some (.inl nm_), some (.inl dm_), some (.inl mn), some (.inl k_), some (.inl j_), none, none], [], sm_pI S_ 13 0 9 (S_.1 13 0 9))) rfl ?_
          refine sm_T_inc (a := 4) (z := 1) (v := k_) (w := k_ + 1) rfl rfl (by omega) (by omega) (by omega) ?_
          refine sm_T_go 1 (c1 := (41, [some (.inr (.inr (some (13, 0)))), some (.inl nm_), some (.inl dm_), some (.inl mn), some (.inl (k_ + 1)), some (.inl j_), none, none], [], sm_pI S_ 13 0 9 (S_.1 13 0 9))) rfl ?_
          refine sm_T_wk [some (.inr (.inr (some (13, 0)))), some (.inl nm_), some (.inl dm_), some (.inl mn), some (.inl (k_ + 1)), none, none, none] (by exact ⟨rfl, rfl, rfl, rfl, rfl, trivial⟩) ?_
          refine ih_.1 dm_ mn (k_ + 1) (sm_pI S_ 13 0 9 (S_.1 13 0 9)) hIx4_ hFx5_ ⟨?_, ?_, ?_, trivial⟩ ?_
          · omega
          · exact miq_fr (w_ := ([(13, 9)], [], [])) hq_ (ai_fr_pI rfl) rfl rfl rfl rfl rfl rfl rfl rfl
          · first | (refine ⟨l3_, xi_.2 + 1, pq_, _, G1_, up1 o_ xi_.2 v9_, w3_, by omega, by omega, z4_, e16_, up_, rgl_fr (w_ := ([(13, 9)], [], [])) z9_ (ai_fr_pI rfl) rfl rfl rfl rfl rfl rfl, rp.1⟩) | (refine ⟨l3_, xi_.2 + 1, xi_.1.1, _, G1_, up1 o_ xi_.2 v9_, w3_, by omega, by omega, z4_, e16_, up_, rgl_fr (w_ := ([(13, 9)], [], [])) z9_ (ai_fr_pI rfl) rfl rfl rfl rfl rfl rfl, ⟨za_.1, ?_⟩⟩; obtain ⟨i8_, q1_, q2_⟩ := za_.2; exact ⟨i8_, by rw [rf_eq]; omega, q2_⟩)
          · omega
        · have cx3_ : ¬ (mn - 1 ≤ k_) := of_decide_eq_false cx3_
          obtain ⟨w1_, pq_, w2_, w3_⟩ := y6_ (by intro z_; rw [z_] at nn1_; simp only [List.length_nil] at nn1_; omega)
          have rp := rg_pp (x_ := S_.1 13 0 9 + 1) ht1_ za_ (by omega) w2_ rfl
          have rp2_ := rp.2
          refine sm_T_go 2 (c1 := (105, [some (.inr (.inr (some (13, 0)))), some (.inl nm_), some (.inl dm_), some (.inl mn), some (.inl k_), some (.inl j_), none, none], [.inl 1, .inl (S_.1 13 0 9), .inr (.inr (some (13, 0)))], S_)) rfl ?_
          refine sm_T_bin (w := (S_.1 13 0 9) + 1) rfl (bi_add (by omega) (by omega) (by omega)) ?_
          have hIx6_ : gi (sm_pI S_ 13 0 9 ((S_.1 13 0 9) + 1)) := gi_pI hI_ (show 0 ≤ (S_.1 13 0 9) + 1 ∧ (S_.1 13 0 9) + 1 ≤ 1280 from ⟨by omega, by omega⟩)
          have hFx7_ : ai_fr (sx_W vw_345) S0_ (sm_pI S_ 13 0 9 ((S_.1 13 0 9) + 1)) := ai_fr_tr hF_ (ai_fr_pI rfl)
          refine sm_T_go 1 (c1 := (109, [some (.inr (.inr (some (13, 0)))), some (.inl nm_), some (.inl dm_), some (.inl mn), some (.inl k_), some (.inl j_), none, none], [], sm_pI S_ 13 0 9 ((S_.1 13 0 9) + 1))) rfl ?_
          refine sm_T_inc (a := 4) (z := 1) (v := k_) (w := k_ + 1) rfl rfl (by omega) (by omega) (by omega) ?_
          refine sm_T_go 1 (c1 := (41, [some (.inr (.inr (some (13, 0)))), some (.inl nm_), some (.inl dm_), some (.inl mn), some (.inl (k_ + 1)), some (.inl j_), none, none], [], sm_pI S_ 13 0 9 ((S_.1 13 0 9) + 1))) rfl ?_
          refine sm_T_wk [some (.inr (.inr (some (13, 0)))), some (.inl nm_), some (.inl dm_), some (.inl mn), some (.inl (k_ + 1)), none, none, none] (by exact ⟨rfl, rfl, rfl, rfl, rfl, trivial⟩) ?_
          refine ih_.1 dm_ mn (k_ + 1) (sm_pI S_ 13 0 9 ((S_.1 13 0 9) + 1)) hIx6_ hFx7_ ⟨?_, ?_, ?_, trivial⟩ ?_
          · omega
          · exact miq_fr (w_ := ([(13, 9)], [], [])) hq_ (ai_fr_pI rfl) rfl rfl rfl rfl rfl rfl rfl rfl
          · first | (refine ⟨l3_, xi_.2 + 1, pq_, _, G1_, up1 o_ xi_.2 v9_, w3_, by omega, by omega, z4_, e16_, up_, rgl_fr (w_ := ([(13, 9)], [], [])) z9_ (ai_fr_pI rfl) rfl rfl rfl rfl rfl rfl, rp.1⟩) | (refine ⟨l3_, xi_.2 + 1, xi_.1.1, _, G1_, up1 o_ xi_.2 v9_, w3_, by omega, by omega, z4_, e16_, up_, rgl_fr (w_ := ([(13, 9)], [], [])) z9_ (ai_fr_pI rfl) rfl rfl rfl rfl rfl rfl, ⟨za_.1, ?_⟩⟩; obtain ⟨i8_, q1_, q2_⟩ := za_.2; exact ⟨i8_, by rw [rf_eq]; omega, q2_⟩)
          · omega
      · have cx1_ : ¬ (8 ≤ j_) := of_decide_eq_false cx1_
        refine sm_T_go 4 (c1 := (69, [some (.inr (.inr (some (13, 0)))), some (.inl nm_), some (.inl dm_), some (.inl mn), some (.inl k_), some (.inl j_), none, none], [.inl k_, .inl 8, .inr (.inr (some (152, 0)))], S_)) rfl ?_
        refine sm_T_bin (w := 8 * k_) rfl (bi_mul (by omega) (by omega) (by omega)) ?_
        refine sm_T_go 1 (c1 := (72, [some (.inr (.inr (some (13, 0)))), some (.inl nm_), some (.inl dm_), some (.inl mn), some (.inl k_), some (.inl j_), none, none], [.inl j_, .inl (8 * k_), .inr (.inr (some (152, 0)))], S_)) rfl ?_
        refine sm_T_bin (w := 8 * k_ + j_) rfl (bi_add (by omega) (by omega) (by omega)) ?_
        refine sm_T_go 3 (c1 := (79, [some (.inr (.inr (some (13, 0)))), some (.inl nm_), some (.inl dm_), some (.inl mn), some (.inl k_), some (.inl j_), none, none], [.inl j_, .inr (.inr (some (139, 0))), .inl (8 * k_ + j_), .inr (.inr (some (152, 0)))], S_)) rfl ?_
        refine sm_T_iald (n := 8192) rfl rfl (by omega) (by omega) ?_
        have bx8_ : 0 ≤ S_.2.2.1 139 0 j_.toNat ∧ S_.2.2.1 139 0 j_.toNat ≤ 2047 := hI_.2 139 0 _
        refine sm_T_iast (n := 320) rfl rfl (by omega) (by omega) ?_
        have hIx9_ : gi (sm_aI S_ 152 0 (8 * k_ + j_).toNat (S_.2.2.1 139 0 j_.toNat)) := gi_aI hI_ (show 0 ≤ (S_.2.2.1 139 0 j_.toNat) ∧ (S_.2.2.1 139 0 j_.toNat) ≤ 2047 from ⟨by omega, by omega⟩)
        have hFx10_ : ai_fr (sx_W vw_345) S0_ (sm_aI S_ 152 0 (8 * k_ + j_).toNat (S_.2.2.1 139 0 j_.toNat)) := ai_fr_tr hF_ (ai_fr_aI rfl)
        refine sm_T_inc (a := 5) (z := 1) (v := j_) (w := j_ + 1) rfl rfl (by omega) (by omega) (by omega) ?_
        refine sm_T_go 1 (c1 := (54, [some (.inr (.inr (some (13, 0)))), some (.inl nm_), some (.inl dm_), some (.inl mn), some (.inl k_), some (.inl (j_ + 1)), none, none], [], sm_aI S_ 152 0 (8 * k_ + j_).toNat (S_.2.2.1 139 0 j_.toNat))) rfl ?_
        refine ih_.2.1 dm_ mn k_ (j_ + 1) (sm_aI S_ 152 0 (8 * k_ + j_).toNat (S_.2.2.1 139 0 j_.toNat)) hIx9_ hFx10_ ⟨?_, ?_, ?_, trivial⟩ ?_
        · omega
        · exact miq_fr (w_ := ([], [152], [])) hq_ (ai_fr_aI rfl) rfl rfl rfl rfl rfl rfl rfl rfl
        · obtain ⟨xi_, l3_, k0_, pc_, cc_, G_, G1_, o_, v9_, z1_, z2_, z3_, z4_, z5_, z6_, z7_, z8_, z9_, za_, zb_, zc_⟩ := h1_
          refine ⟨xi_, l3_, k0_, pc_, cc_, G_, G1_, o_, v9_, z1_, z2_, z3_, z4_, z5_, z6_, z7_, aro_cg hB_ dM_ z8_ (fun i_ hi_ => by rw [rd_eq, if_neg (by omega)]), rgl_fr (w_ := ([], [152], [])) z9_ (ai_fr_aI rfl) rfl rfl rfl rfl rfl rfl, za_, zb_, fun i_ hi_ => ?_⟩
          rw [rd_ne (show (139 : Nat) ≠ 152 by decide)]
          by_cases w_ : i_ < j_.toNat
          · rw [rd_eq, if_neg (by omega)]; exact zc_ i_ w_
          · rw [rd_eq, if_pos (by omega), show i_ = j_.toNat by omega]
        · omega
    · rintro dm_ mn tk_ k5_ S_ hI_ hF_ ⟨h0_, hq_, h1_, -⟩ hm_
      have ht1_ := rtab_fr ht_ hF_ rfl rfl rfl rfl rfl
      have M15_ := hA_.1
      have dM_ := hd1_.1
      have B40_ := (hen_.1.2 d_ (by omega)).1
      have cb_ := p_cn_b (g_ := g_in B_ d_) (B_.1 d_)
      have hB_ := hen_.1
      have BM40_ := (hen_.1.2 M_ (Nat.le_refl _)).1
      refine sm_T_go 2 (c1 := (157, [some (.inr (.inr (some (13, 0)))), some (.inl nm_), some (.inl dm_), some (.inl mn), some (.inl tk_), some (.inl k5_), none, none], [.inl mn, .inl k5_], S_)) rfl ?_
      refine sm_T_br (a := 3) (z := 69) rfl (fun cx1_ => ?_) (fun cx1_ => ?_)
      · have cx1_ : mn ≤ k5_ := of_decide_eq_true cx1_
        refine sm_T_rv rfl ⟨_, _, rfl, rfl, hI_, hF_, ?_⟩
        obtain ⟨G_, o_, i9_, z1_, z2_, z3_, z4_, z5_, z6_, z7_, z8_⟩ := h1_
        have o8_ : ∀ s_, s_ < 40 → (o_ s_).length ≤ 8 := fun s_ hs_ => by by_cases w1_ : s_ < B_.1 d_; (by_cases w2_ : B_.2.2.1 (40 * d_ + s_) = 0; (have l1_ := z2_.1.1 s_ w1_ w2_ w1_; have l2_ := ((hB_.2 d_ (by omega)).2 s_ w1_).2.2.1; omega); (rw [z2_.1.2 s_ w1_ w2_]; simp)); (rw [z2_.2.1 s_ (by omega)]; simp)
        refine ⟨G_, o_, i9_, z1_, z2_.1, o8_, z2_.2.1, z3_, z4_, z7_, z8_, fun q_ => ⟨fun s_ hs_ => ?_, fun s_ o9_ hs_ => absurd hs_ (Nat.not_lt_zero _)⟩⟩
        by_cases w1_ : s_ < B_.1 d_
        · by_cases w2_ : B_.2.2.1 (40 * d_ + s_) = 0
          · have c1_ := cn_lt (g_ := g_in B_ d_) w1_ (by rw [g_in_0 hB_ (by omega) w1_]; exact decide_eq_true w2_)
            exact z6_ q_ s_ w1_ w2_ (by omega)
          · rw [z2_.1.2 s_ w1_ w2_]; intro k9_ z9_ e9_; simp at e9_
        · rw [z2_.2.1 s_ (by omega)]; intro k9_ z9_ e9_; simp at e9_
      · have cx1_ : ¬ (mn ≤ k5_) := of_decide_eq_false cx1_
        refine sm_T_go 4 (c1 := (165, [some (.inr (.inr (some (13, 0)))), some (.inl nm_), some (.inl dm_), some (.inl mn), some (.inl tk_), some (.inl k5_), none, none], [.inl k5_, .inl 1, .inl dm_, .inr (.inr (some (13, 0)))], S_)) rfl ?_
        refine sm_T_cal (d1 := 0) (Q1 := vq_304 dm_ 1 k5_ b_ n_ T_ B_ d_ S_) rfl rfl (by decide) (vc_304 dm_ 1 k5_ b_ n_ T_ B_ d_ S_ hI_ (by omega) (by exact re1_fr (hen_.2.2.2 d_ (by omega)) hF_ rfl rfl rfl rfl rfl rfl) (by exact B40_) (by omega)) (fun u_ Sx2_ px5_ => ?_)
        obtain ⟨rfl, vx7_, rfl, px5_⟩ := px5_
        obtain ⟨sx_, hv9_, sx1_, sx2_, sx3_⟩ : ∃ u_ : Nat, vx7_ = (u_ : Int) ∧ u_ < B_.1 d_ ∧ g_in B_ d_ u_ = true ∧ (p_cn (g_in B_ d_) u_ : Int) = k5_ := by rcases px5_ with z_ | z_; (exfalso; have z2_ : (p_cn (g_in B_ d_) (B_.1 d_) : Int) ≤ k5_ := z_.2; omega); exact z_
        have sx4_ : B_.2.2.1 (40 * d_ + sx_) = 0 := by rw [g_in_0 hB_ (by omega) sx1_] at sx2_; exact of_decide_eq_true sx2_
        refine sm_T_go 3 (c1 := (173, [some (.inr (.inr (some (13, 0)))), some (.inl nm_), some (.inl dm_), some (.inl mn), some (.inl tk_), some (.inl k5_), some (.inl vx7_), some (.inl 0)], [], S_)) rfl ?_
        refine ih_.2.2.2 dm_ mn tk_ k5_ vx7_ 0 S_ hI_ hF_ ⟨?_, ?_, ?_, ?_, trivial⟩ ?_
        · omega
        · exact hq_
        · rw [hv9_, Int.toNat_natCast]; exact ⟨sx2_, sx4_, sx3_, fun i_ hi_ => absurd hi_ (Nat.not_lt_zero _)⟩
        · exact h1_
        · omega
    · rintro dm_ mn tk_ k5_ s6_ k7_ S_ hI_ hF_ ⟨h0_, hq_, h3_, h1_, -⟩ hm_
      have ht1_ := rtab_fr ht_ hF_ rfl rfl rfl rfl rfl
      have M15_ := hA_.1
      have dM_ := hd1_.1
      have B40_ := (hen_.1.2 d_ (by omega)).1
      have cb_ := p_cn_b (g_ := g_in B_ d_) (B_.1 d_)
      have hB_ := hen_.1
      have BM40_ := (hen_.1.2 M_ (Nat.le_refl _)).1
      refine sm_T_go 2 (c1 := (177, [some (.inr (.inr (some (13, 0)))), some (.inl nm_), some (.inl dm_), some (.inl mn), some (.inl tk_), some (.inl k5_), some (.inl s6_), some (.inl k7_)], [.inl 8, .inl k7_], S_)) rfl ?_
      refine sm_T_br (a := 3) (z := 43) rfl (fun cx1_ => ?_) (fun cx1_ => ?_)
      · have cx1_ : 8 ≤ k7_ := of_decide_eq_true cx1_
        refine sm_T_inc (a := 5) (z := 1) (v := k5_) (w := k5_ + 1) rfl rfl (by omega) (by omega) (by omega) ?_
        refine sm_T_go 1 (c1 := (154, [some (.inr (.inr (some (13, 0)))), some (.inl nm_), some (.inl dm_), some (.inl mn), some (.inl tk_), some (.inl (k5_ + 1)), some (.inl s6_), some (.inl k7_)], [], S_)) rfl ?_
        refine sm_T_wk [some (.inr (.inr (some (13, 0)))), some (.inl nm_), some (.inl dm_), some (.inl mn), some (.inl tk_), some (.inl (k5_ + 1)), none, none] (by exact ⟨rfl, rfl, rfl, rfl, rfl, rfl, trivial⟩) ?_
        refine ih_.2.2.1 dm_ mn tk_ (k5_ + 1) S_ hI_ hF_ ⟨?_, ?_, ?_, trivial⟩ ?_
        · omega
        · exact hq_
        · obtain ⟨G_, o_, i9_, z1_, z2_, z3_, z4_, z5_, z6_, z7_, z8_⟩ := h1_
          refine ⟨G_, o_, i9_, z1_, z2_, z3_, z4_, z5_, fun q_ s_ hs_ h0s hl_ => ?_, z7_, z8_⟩
          by_cases w_ : (p_cn (g_in B_ d_) s_ : Int) < k5_
          · exact z6_ q_ s_ hs_ h0s w_
          · have g1_ : g_in B_ d_ s_ = true := by rw [g_in_0 hB_ (by omega) hs_]; exact decide_eq_true h0s
            have es_ : s_ = s6_.toNat := p_cn_u g1_ h3_.1 (by have := h3_.2.2.1; omega)
            have l1_ := z2_.1.1 s_ hs_ h0s hs_
            have l2_ := ((hB_.2 d_ (by omega)).2 s_ hs_).2.2.1
            intro k9_ q9_ e9_
            have kl_ : k9_ < (o_ s_).length := by by_cases q_ : k9_ < (o_ s_).length; exact q_; (rw [List.getElem?_eq_none (by omega)] at e9_; cases e9_)
            have w1_ := h3_.2.2.2 k9_ (by omega)
            have w2_ := z2_.2.2 q_ s_ hs_ hs_ h0s k9_ q9_ e9_
            rw [es_, w1_, ← w2_, es_]
            exact congrArg (S_.2.2.1 152 0) (by have := h3_.2.2.1; omega)
        · omega
      · have cx1_ : ¬ (8 ≤ k7_) := of_decide_eq_false cx1_
        have bx2_ : 0 ≤ S_.1 13 0 29 ∧ S_.1 13 0 29 ≤ 16 := hI_.1 13 0 29 rfl
        refine sm_T_go 6 (c1 := (192, [some (.inr (.inr (some (13, 0)))), some (.inl nm_), some (.inl dm_), some (.inl mn), some (.inl tk_), some (.inl k5_), some (.inl s6_), some (.inl k7_)], [.inl (S_.1 13 0 29), .inl 40, .inl 8, .inr (.inr (some (144, 0)))], S_)) rfl ?_
        refine sm_T_bin (w := 40 * (S_.1 13 0 29)) rfl (bi_mul (by omega) (by omega) (by omega)) ?_
        refine sm_T_go 1 (c1 := (195, [some (.inr (.inr (some (13, 0)))), some (.inl nm_), some (.inl dm_), some (.inl mn), some (.inl tk_), some (.inl k5_), some (.inl s6_), some (.inl k7_)], [.inl s6_, .inl (40 * (S_.1 13 0 29)), .inl 8, .inr (.inr (some (144, 0)))], S_)) rfl ?_
        refine sm_T_bin (w := 40 * (S_.1 13 0 29) + s6_) rfl (bi_add (by omega) (by omega) (by omega)) ?_
        refine sm_T_bin (w := 320 * (S_.1 13 0 29) + 8 * s6_) rfl (bi_mul (by omega) (by omega) (by omega)) ?_
        refine sm_T_go 1 (c1 := (199, [some (.inr (.inr (some (13, 0)))), some (.inl nm_), some (.inl dm_), some (.inl mn), some (.inl tk_), some (.inl k5_), some (.inl s6_), some (.inl k7_)], [.inl k7_, .inl (320 * (S_.1 13 0 29) + 8 * s6_), .inr (.inr (some (144, 0)))], S_)) rfl ?_
        refine sm_T_bin (w := 320 * (S_.1 13 0 29) + 8 * s6_ + k7_) rfl (bi_add (by omega) (by omega) (by omega)) ?_
        refine sm_T_go 4 (c1 := (208, [some (.inr (.inr (some (13, 0)))), some (.inl nm_), some (.inl dm_), some (.inl mn), some (.inl tk_), some (.inl k5_), some (.inl s6_), some (.inl k7_)], [.inl k5_, .inl 8, .inr (.inr (some (152, 0))), .inl (320 * (S_.1 13 0 29) + 8 * s6_ + k7_), .inr (.inr (some (144, 0)))], S_)) rfl ?_
        refine sm_T_bin (w := 8 * k5_) rfl (bi_mul (by omega) (by omega) (by omega)) ?_
        refine sm_T_go 1 (c1 := (211, [some (.inr (.inr (some (13, 0)))), some (.inl nm_), some (.inl dm_), some (.inl mn), some (.inl tk_), some (.inl k5_), some (.inl s6_), some (.inl k7_)], [.inl k7_, .inl (8 * k5_), .inr (.inr (some (152, 0))), .inl (320 * (S_.1 13 0 29) + 8 * s6_ + k7_), .inr (.inr (some (144, 0)))], S_)) rfl ?_
        refine sm_T_bin (w := 8 * k5_ + k7_) rfl (bi_add (by omega) (by omega) (by omega)) ?_
        refine sm_T_iald (n := 320) rfl rfl (by omega) (by omega) ?_
        have bx3_ : 0 ≤ S_.2.2.1 152 0 (8 * k5_ + k7_).toNat ∧ S_.2.2.1 152 0 (8 * k5_ + k7_).toNat ≤ 2047 := hI_.2 152 0 _
        refine sm_T_iast (n := 5120) rfl rfl (by omega) (by omega) ?_
        have hIx4_ : gi (sm_aI S_ 144 0 (320 * (S_.1 13 0 29) + 8 * s6_ + k7_).toNat (S_.2.2.1 152 0 (8 * k5_ + k7_).toNat)) := gi_aI hI_ (show 0 ≤ (S_.2.2.1 152 0 (8 * k5_ + k7_).toNat) ∧ (S_.2.2.1 152 0 (8 * k5_ + k7_).toNat) ≤ 2047 from ⟨by omega, by omega⟩)
        have hFx5_ : ai_fr (sx_W vw_345) S0_ (sm_aI S_ 144 0 (320 * (S_.1 13 0 29) + 8 * s6_ + k7_).toNat (S_.2.2.1 152 0 (8 * k5_ + k7_).toNat)) := ai_fr_tr hF_ (ai_fr_aI rfl)
        refine sm_T_inc (a := 7) (z := 1) (v := k7_) (w := k7_ + 1) rfl rfl (by omega) (by omega) (by omega) ?_
        refine sm_T_go 1 (c1 := (173, [some (.inr (.inr (some (13, 0)))), some (.inl nm_), some (.inl dm_), some (.inl mn), some (.inl tk_), some (.inl k5_), some (.inl s6_), some (.inl (k7_ + 1))], [], sm_aI S_ 144 0 (320 * (S_.1 13 0 29) + 8 * s6_ + k7_).toNat (S_.2.2.1 152 0 (8 * k5_ + k7_).toNat))) rfl ?_
        refine ih_.2.2.2 dm_ mn tk_ k5_ s6_ (k7_ + 1) (sm_aI S_ 144 0 (320 * (S_.1 13 0 29) + 8 * s6_ + k7_).toNat (S_.2.2.1 152 0 (8 * k5_ + k7_).toNat)) hIx4_ hFx5_ ⟨?_, ?_, ?_, ?_, trivial⟩ ?_
        · omega
        · exact hq_
        · refine ⟨h3_.1, h3_.2.1, h3_.2.2.1, fun i_ hi_ => ?_⟩
          rw [rd_ne (show (152 : Nat) ≠ 144 by decide)]
          by_cases w_ : i_ < k7_.toNat
          · rw [rd_eq, if_neg (by omega)]; exact h3_.2.2.2 i_ w_
          · rw [rd_eq, if_pos (by omega), show i_ = k7_.toNat by omega]; exact congrArg (S_.2.2.1 152 0) (by omega)
        · obtain ⟨G_, o_, i9_, z1_, z2_, z3_, z4_, z5_, z6_, z7_, z8_⟩ := h1_
          refine ⟨G_, o_, i9_, z1_, aro_cg hB_ dM_ z2_ (fun i_ _ => by rw [rd_ne (by decide)]), rgl_fr (w_ := ([], [144], [])) z3_ (ai_fr_aI rfl) rfl rfl rfl rfl rfl rfl, z4_, z5_, fun q_ s_ hs_ h0s hl_ => rwv_cg (z6_ q_ s_ hs_ h0s hl_) (fun k9_ hk9_ => ?_), mfr_fr (w_ := ([], [144], [])) z7_ (ai_fr_aI rfl) rfl rfl rfl rfl rfl rfl rfl rfl, fun j_ hj_ => by rw [rd_eq, if_neg (by omega)]; exact z8_ j_ hj_⟩
          have l1_ := z2_.1.1 s_ hs_ h0s hs_
          have l2_ := ((hB_.2 d_ (by omega)).2 s_ hs_).2.2.1
          have ne_ : s_ ≠ s6_.toNat := fun z_ => by rw [z_] at hl_; have := h3_.2.2.1; omega
          rw [rd_eq, if_neg (by omega)]
        · omega
set_option maxHeartbeats 2000000 in
set_option maxRecDepth 20000 in
theorem vc_345 {sc_ : Nat × (Nat → Int)} (nm_ : Int) (b_ : Nat → Int) (n_ : Nat) (T_ : Nat) (F_ : Nat) (I_ : Nat) (A_ : pA) (B_ : pA) (X_ : Nat → gQ → gE → Option (gQ × gE)) (M_ : Nat) (fr_ : Nat) (q0_ : gQ) (E_ : gE) (O_ : gO) (p_ : Nat) (d_ : Nat) (p1_ : Nat) (p2_ : Nat) (p3_ : Nat) (p4_ : Nat) (p5_ : Nat) (pe_ : Nat) (y_ : Nat) (l_ : List (pR × Nat)) (S0_ : sm_S) (hI_ : gi S0_) (ht_ : rtab b_ n_ T_ S0_) (hx_ : rg b_ n_ T_ (.inr p_) S0_) (hm1_ : (S0_.1 13 0 27) = 1) (hen_ : r_e1 b_ n_ T_ B_ M_ fr_ S0_) (hA_ : a_ok b_ n_ A_ M_) (hxx_ : a_ex A_ B_ M_) (hX_ : ∀ d_ q_ e_ z_, X_ d_ q_ e_ = some z_ → q_.1.length ≤ z_.1.1.length) (hte_ : ten B_ M_ (A_.1 M_) E_ O_) (hev_ : rev fr_ (A_.1 M_) E_ O_ (q0_.1.length ≤ 1001) S0_) (hg_ : rgl F_ q0_.1 S0_) (hd1_ : d_ < M_ ∧ fr_ + 1 ≤ 15 ∧ nm_ = (A_.1 M_ : Int) ∧ A_.1 M_ < B_.1 M_) (h5_ : B_.2.2.2.2 (40 * M_ + A_.1 M_) = (d_ : Int)) (ha1_ : p_ad b_ n_ p_ = .inr p1_) (hk1_ : lx_kd b_ n_ p_ ≠ 0 ∧ lx_kd b_ n_ p1_ ≠ 0 ∧ lx_kd b_ n_ p2_ ≠ 0) (ha2_ : p_ad b_ n_ p1_ = .inr p2_) (ha3_ : p_ad b_ n_ p2_ = .inr p3_) (h40_ : p_nd b_ n_ 40 p3_ = .inr p4_) (hu_ : uch b_ n_ A_ M_ d_ l_ 0 p4_ pe_) (h41_ : p_nd b_ n_ 41 pe_ = .inr p5_) (h59_ : p_nd b_ n_ 59 p5_ = .inr y_) (hE_ : E_ (A_.1 M_) = []) (hO_ : O_ (A_.1 M_) = none) (hfc_ : q0_.2.2 ≤ 200) (hE8_ : ∀ s_, s_ < 40 → (E_ s_).length ≤ 8) : sm_T (mt_P sc_) 9 345 (0, [some (.inr (.inr (some (13, 0)))), some (.inl nm_), none, none, none, none, none, none], [], S0_) (fun ro9_ => ∃ u_ S1_, ro9_ = (.inl u_, S1_, 0) ∧ vq_345 nm_ b_ n_ T_ F_ I_ A_ B_ X_ M_ fr_ q0_ E_ O_ p_ d_ p1_ p2_ p3_ p4_ p5_ pe_ y_ l_ S0_ u_ S1_) := by
  have hF_ : ai_fr (sx_W vw_345) S0_ S0_ := ai_fr_rf
  have n13_ : S0_.2.2.1 130 0 (40 * S0_.1 13 0 28 + nm_).toNat = (d_ : Int) := by rw [show (40 * S0_.1 13 0 28 + nm_).toNat = 40 * M_ + A_.1 M_ by have q9_ := hen_.2.1; have q8_ := hd1_.2.2.1; omega, ((hen_.2.2.2 M_ (Nat.le_refl _)).2 (A_.1 M_) hd1_.2.2.2).2.2.2.1]; exact h5_
  have M15_ := hA_.1
  have dM_ := hd1_.1
  have B40_ := (hen_.1.2 d_ (by omega)).1
  have BM40_ := (hen_.1.2 M_ (Nat.le_refl _)).1
  have rp3_ := rg_p3 (x_ := S0_.1 13 0 9 + 3) ht_ hx_ hk1_.1 ha1_ hk1_.2.1 ha2_ hk1_.2.2 ha3_ rfl
  have rp4_ := rp3_.2
  have hT_ := ht_.2.1
  have t3_ : rtab b_ n_ T_ (sm_pI S0_ 13 0 9 (S0_.1 13 0 9 + 3)) := rtab_fr (w_ := ([(13, 9)], [], [])) ht_ (ai_fr_pI rfl) rfl rfl rfl rfl rfl
  have bx1_ : 0 ≤ S0_.1 13 0 28 ∧ S0_.1 13 0 28 ≤ 15 := hI_.1 13 0 28 rfl
  refine sm_T_go 5 (c1 := (10, [some (.inr (.inr (some (13, 0)))), some (.inl nm_), none, none, none, none, none, none], [.inl (S0_.1 13 0 28), .inl 40, .inr (.inr (some (130, 0)))], S0_)) rfl ?_
  refine sm_T_bin (w := 40 * (S0_.1 13 0 28)) rfl (bi_mul (by omega) (by omega) (by omega)) ?_
  refine sm_T_go 1 (c1 := (12, [some (.inr (.inr (some (13, 0)))), some (.inl nm_), none, none, none, none, none, none], [.inl nm_, .inl (40 * (S0_.1 13 0 28)), .inr (.inr (some (130, 0)))], S0_)) rfl ?_
  refine sm_T_bin (w := 40 * (S0_.1 13 0 28) + nm_) rfl (bi_add (by omega) (by omega) (by omega)) ?_
  refine sm_T_iald (n := 640) rfl rfl (by omega) (by omega) ?_
  have bx2_ : 0 ≤ S0_.2.2.1 130 0 (40 * (S0_.1 13 0 28) + nm_).toNat ∧ S0_.2.2.1 130 0 (40 * (S0_.1 13 0 28) + nm_).toNat ≤ 2147483647 := hI_.2 130 0 _
  have bx3_ : 0 ≤ S0_.1 13 0 9 ∧ S0_.1 13 0 9 ≤ 1280 := hI_.1 13 0 9 rfl
  refine sm_T_go 5 (c1 := (21, [some (.inr (.inr (some (13, 0)))), some (.inl nm_), some (.inl (S0_.2.2.1 130 0 (40 * (S0_.1 13 0 28) + nm_).toNat)), none, none, none, none, none], [.inl 3, .inl (S0_.1 13 0 9), .inr (.inr (some (13, 0)))], S0_)) rfl ?_
  refine sm_T_bin (w := (S0_.1 13 0 9) + 3) rfl (bi_add (by omega) (by omega) (by omega)) ?_
  have hIx4_ : gi (sm_pI S0_ 13 0 9 ((S0_.1 13 0 9) + 3)) := gi_pI hI_ (show 0 ≤ (S0_.1 13 0 9) + 3 ∧ (S0_.1 13 0 9) + 3 ≤ 1280 from ⟨by omega, by omega⟩)
  have hFx5_ : ai_fr (sx_W vw_345) S0_ (sm_pI S0_ 13 0 9 ((S0_.1 13 0 9) + 3)) := ai_fr_tr hF_ (ai_fr_pI rfl)
  refine sm_T_go 4 (c1 := (28, [some (.inr (.inr (some (13, 0)))), some (.inl nm_), some (.inl (S0_.2.2.1 130 0 (40 * (S0_.1 13 0 28) + nm_).toNat)), none, none, none, none, none], [.inl 1, .inl (S0_.2.2.1 130 0 (40 * (S0_.1 13 0 28) + nm_).toNat), .inr (.inr (some (13, 0)))], sm_pI S0_ 13 0 9 ((S0_.1 13 0 9) + 3))) rfl ?_
  refine sm_T_cal (d1 := 0) (Q1 := vq_305 (S0_.2.2.1 130 0 (40 * (S0_.1 13 0 28) + nm_).toNat) 1 b_ n_ T_ B_ d_ (sm_pI S0_ 13 0 9 ((S0_.1 13 0 9) + 3))) rfl rfl (by decide) (vc_305 (S0_.2.2.1 130 0 (40 * (S0_.1 13 0 28) + nm_).toNat) 1 b_ n_ T_ B_ d_ (sm_pI S0_ 13 0 9 ((S0_.1 13 0 9) + 3)) hIx4_ (by exact ⟨n13_, by omega⟩) (by exact hen_.2.2.2 d_ (by omega)) (by exact B40_)) (fun u_ Sx6_ px9_ => ?_)
  obtain ⟨rfl, vx11_, rfl, px9_⟩ := px9_
  have e28_ : vx11_ = (p_cn (g_in B_ d_) (B_.1 d_) : Int) := px9_
  refine sm_T_go 3 (c1 := (35, [some (.inr (.inr (some (13, 0)))), some (.inl nm_), some (.inl (S0_.2.2.1 130 0 (40 * (S0_.1 13 0 28) + nm_).toNat)), some (.inl vx11_), none, none, none, none], [.inl 40, .inr (.inr (some (13, 0)))], sm_pI S0_ 13 0 9 ((S0_.1 13 0 9) + 3))) rfl ?_
  refine sm_T_cal (d1 := 3) (Q1 := vq_300 40 b_ n_ T_ (.inr p3_) (sm_pI S0_ 13 0 9 ((S0_.1 13 0 9) + 3))) rfl rfl (by decide) (vc_300 40 b_ n_ T_ (.inr p3_) (sm_pI S0_ 13 0 9 ((S0_.1 13 0 9) + 3)) hIx4_ (by exact t3_) (by exact rp3_.1) (by decide)) (fun u_ Sx12_ px15_ => ?_)
  obtain ⟨rfl, hIx13_, hFx14_, px15_⟩ := px15_
  have hFx16_ : ai_fr (sx_W vw_345) S0_ Sx12_ := ai_fr_tr hFx5_ (fr_le hFx14_ rfl)
  have g35_ := px15_
  rw [pb_r rfl, h40_] at g35_
  have r35_ := rgl_fr (w_ := vw_300) (rgl_fr (w_ := ([(13, 9)], [], [])) hg_ (ai_fr_pI rfl) rfl rfl rfl rfl rfl rfl) hFx14_ rfl rfl rfl rfl rfl rfl
  have q35_ := miq_fr (S_ := (sm_pI S0_ 13 0 9 ((S0_.1 13 0 9) + 3))) (miq_fr (w_ := ([(13, 9)], [], [])) (miq_rf (fr_ := fr_)) (ai_fr_pI rfl) rfl rfl rfl rfl rfl rfl rfl rfl) hFx14_ rfl rfl rfl rfl rfl rfl rfl rfl
  refine sm_T_go 2 (c1 := (41, [some (.inr (.inr (some (13, 0)))), some (.inl nm_), some (.inl (S0_.2.2.1 130 0 (40 * (S0_.1 13 0 28) + nm_).toNat)), some (.inl vx11_), some (.inl 0), none, none, none], [], Sx12_)) rfl ?_
  refine (vl_345 nm_ b_ n_ T_ F_ I_ A_ B_ X_ M_ fr_ q0_ E_ O_ p_ d_ p1_ p2_ p3_ p4_ p5_ pe_ y_ l_ S0_ ht_ hx_ hm1_ hen_ hA_ hxx_ hX_ hte_ hev_ hg_ hd1_ h5_ ha1_ hk1_ ha2_ ha3_ h40_ hu_ h41_ h59_ hE_ hO_ hfc_ hE8_ _).1 (S0_.2.2.1 130 0 (40 * (S0_.1 13 0 28) + nm_).toNat) vx11_ 0 Sx12_ hIx13_ hFx16_ ⟨?_, ?_, ?_, trivial⟩ (Nat.lt_succ_self _)
  · exact ⟨n13_, e28_, by decide⟩
  · exact q35_
  · refine ⟨l_, 0, p4_, [cw 15 (A_.1 M_ : Int) 0], q0_.1, fun _ => [], hu_, Nat.zero_le _, rfl, rfl, ev_15 (fc_ := 0) hd1_.2.2.2 BM40_ hE_ hO_ hfc_, aro_0, r35_, g35_⟩
