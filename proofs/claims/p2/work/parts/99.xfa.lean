/-! the class reader: modules ended; written by wip/p55/gen/vg -/

/-! the_ design -/
theorem ai_fr_pR {S_ : sm_S} {W_ : ai_W} {t_ i_ k_ : Nat} {y_ : Option Nat} (h_ : W_.2.2 t_ k_ = true) : ai_fr W_ S_ (sm_pR S_ t_ i_ k_ y_) := ⟨fun _ _ _ _ => rfl, fun t'_ i'_ k'_ q_ => sm_up_ne (fun g_ => by obtain ⟨rfl, rfl, rfl⟩ := g_; rw [h_] at q_; cases q_), fun _ _ _ _ => ⟨rfl, rfl⟩⟩
theorem en_st {b_ : Nat → Int} {n_ M_ i_ q_ : Nat} {A_ : pA} {N_ : Nat → Nat} {c_ : List Int} {S_ : sm_S} {x_ z_ : Int} (hd_ : dr b_ n_ A_ N_ M_ c_ S_) (hn_ : nc b_ n_ N_ M_ S_) (hc_ : ct b_ n_ q_ S_) (hx_ : x_ = (M_ : Int) + 1) : ct b_ n_ q_ (sm_aI (sm_pI S_ 7 0 3 x_) 76 0 i_ z_) ∧ br b_ n_ A_ N_ (M_ + 1) c_ (sm_aI (sm_pI S_ 7 0 3 x_) 76 0 i_ z_) := by
  have f_ : ai_fr (sx_W ([(7, 3)], [76], [])) S_ (sm_aI (sm_pI S_ 7 0 3 x_) 76 0 i_ z_) := ai_fr_tr (ai_fr_pI rfl) (ai_fr_aI rfl)
  have hM_ := hd_.1.2.1.1
  refine ⟨ct_fr hc_ f_ rfl rfl rfl rfl rfl rfl rfl, ?_, by omega, fun m_ hm_ => ⟨a_ok_le hd_.1.2.1 (by omega), ?_⟩, ⟨by omega, fun m_ hm_ => ?_⟩, cr_fr hd_.2.2 f_ rfl rfl rfl⟩
  · show (sm_pI S_ 7 0 3 x_).1 7 0 3 = ((M_ + 1 : Nat) : Int)
    rw [rf_eq, hx_]
    push_cast
    rfl
  · have y_ := hd_.1.2.2 m_ (by omega)
    unfold er1 at y_ ⊢
    rw [fr_arr (t := 77) f_ rfl, fr_arr (t := 78) f_ rfl, fr_arr (t := 79) f_ rfl, fr_arr (t := 80) f_ rfl, fr_arr (t := 81) f_ rfl]
    exact y_
  · rw [fr_arr (t := 75) f_ rfl]
    by_cases e_ : m_ = M_
    · rw [e_]; exact hn_
    · exact hd_.2.1.2 m_ (by omega)
def p_it (b_ : Nat → Int) (n_ : Nat) (A_ : pA) (N_ : Nat → Nat) (M_ : Nat) (c_ : List Int) (p_ : Nat) : Option (pE pT) := if lx_kd b_ n_ p_ = 4 then some (p_in b_ n_ A_ M_ c_ p_) else if lx_kd b_ n_ p_ = 5 then some (p_va b_ n_ A_ M_ 1 c_ p_) else if lx_kd b_ n_ p_ = 6 then some (p_va b_ n_ A_ M_ 2 c_ p_) else if lx_kd b_ n_ p_ = 7 then some (p_re b_ n_ A_ M_ c_ p_) else if lx_kd b_ n_ p_ = 8 then some (p_us b_ n_ A_ N_ M_ c_ p_) else if lx_kd b_ n_ p_ = 1 then some (p_ne b_ n_ A_ M_ c_ p_) else none
abbrev pD : Type := pA × (Nat → Nat) × Nat × (Nat → Nat) × List Int
def p_dl (b_ : Nat → Int) (n_ : Nat) : Nat → pA → (Nat → Nat) → Nat → (Nat → Nat) → List Int → Nat → pE pD
  | 0, _, _, _, _, _, _ => .inl (0, 0)
  | f_ + 1, A_, N_, M_, mc_, c_, p_ => match p_it b_ n_ A_ N_ M_ c_ p_ with
    | some x_ => pb x_ fun r_ => p_dl b_ n_ f_ r_.1 N_ M_ mc_ r_.2.1 r_.2.2
    | none => pb (p_en b_ n_ A_ N_ M_ p_) fun y_ => match y_ with
      | none => .inr (A_, N_, M_ + 1, n_up mc_ (M_ + 1) c_.length, c_)
      | some x_ => p_dl b_ n_ f_ x_.1 x_.2.1 (M_ + 1) (n_up mc_ (M_ + 1) c_.length) c_ x_.2.2
def p_de (b_ : Nat → Int) (n_ : Nat) : pE pD := if lx_kd b_ n_ (lx_k b_ n_ 0) = -1 then .inl (1, lx_k b_ n_ 0) else pb (p_bm b_ n_ (fun _ => 0, fun _ => 0, fun _ => 0, fun _ => 0, fun _ => 0) (fun _ => 0) 0 (lx_k b_ n_ 0)) fun x_ => p_dl b_ n_ (n_ + 1) x_.1 x_.2.1 0 (fun _ => 0) [] x_.2.2
theorem dl_i {b_ : Nat → Int} {n_ f_ M_ p_ : Nat} {A_ : pA} {N_ mc_ : Nat → Nat} {c_ : List Int} {x_ : pE pT} (h_ : p_it b_ n_ A_ N_ M_ c_ p_ = some x_) : p_dl b_ n_ (f_ + 1) A_ N_ M_ mc_ c_ p_ = pb x_ fun r_ => p_dl b_ n_ f_ r_.1 N_ M_ mc_ r_.2.1 r_.2.2 := by
  rw [p_dl, h_]
theorem dl_n {b_ : Nat → Int} {n_ f_ M_ p_ : Nat} {A_ : pA} {N_ mc_ : Nat → Nat} {c_ : List Int} (h_ : p_it b_ n_ A_ N_ M_ c_ p_ = none) : p_dl b_ n_ (f_ + 1) A_ N_ M_ mc_ c_ p_ = pb (p_en b_ n_ A_ N_ M_ p_) fun y_ => match y_ with
      | none => .inr (A_, N_, M_ + 1, n_up mc_ (M_ + 1) c_.length, c_)
      | some x_ => p_dl b_ n_ f_ x_.1 x_.2.1 (M_ + 1) (n_up mc_ (M_ + 1) c_.length) c_ x_.2.2 := by
  rw [p_dl, h_]
/-! Reader.endModule -/
def vw_117 : sx_Wl := ([(7, 3), (10, 2), (10, 3), (10, 4), (10, 5), (10, 6), (10, 7), (10, 8)], [75, 76, 77], [])
def vq_117 (b_ : Nat → Int) (n_ : Nat) (A_ : pA) (N_ : Nat → Nat) (M_ : Nat) (c_ : List Int) (p_ : Nat) (S0_ : sm_S) (u_ : Option sm_V) (S1_ : sm_S) : Prop := ∃ v_ : Int, u_ = some (.inl v_) ∧ gi S1_ ∧ ai_fr (sx_W vw_117) S0_ S1_ ∧ (∃ y_, p_en b_ n_ A_ N_ M_ p_ = .inr y_ ∧ (S1_.2.2.1 76 0 (M_ + 1)) = (c_.length : Int) ∧ (∀ m_ : Nat, m_ ≤ M_ → (S1_.2.2.1 76 0 (m_)) = (S0_.2.2.1 76 0 (m_))) ∧ ((v_ = 0 ∧ y_ = none ∧ br b_ n_ A_ N_ (M_ + 1) c_ S1_) ∨ (v_ = 1 ∧ ∃ x_, y_ = some x_ ∧ ct b_ n_ x_.2.2 S1_ ∧ dr b_ n_ x_.1 x_.2.1 (M_ + 1) c_ S1_ ∧ nc b_ n_ x_.2.1 (M_ + 1) S1_ ∧ p_ < x_.2.2)))
def vx_117 (b_ : Nat → Int) (n_ : Nat) (A_ : pA) (N_ : Nat → Nat) (M_ : Nat) (c_ : List Int) (p_ : Nat) (S0_ : sm_S) (S1_ : sm_S) : Prop := gi S1_ ∧ ai_fr (sx_W vw_117) S0_ S1_ ∧ (∃ e_, p_en b_ n_ A_ N_ M_ p_ = .inl e_ ∧ ter S1_ e_)
set_option maxHeartbeats 400000 in
theorem vc_117 {sc_ : Nat × (Nat → Int)} (b_ : Nat → Int) (n_ : Nat) (A_ : pA) (N_ : Nat → Nat) (M_ : Nat) (c_ : List Int) (p_ : Nat) (S0_ : sm_S) (hI_ : gi S0_) (hc_ : ct b_ n_ p_ S0_) (hd_ : dr b_ n_ A_ N_ M_ c_ S0_) (hn_ : nc b_ n_ N_ M_ S0_) : sm_T (mt_P sc_) 4 117 (0, [some (.inr (.inr (some (7, 0))))], [], S0_) (fun r_ => (∃ u_ S1_, r_ = (.inl u_, S1_, 0) ∧ vq_117 b_ n_ A_ N_ M_ c_ p_ S0_ u_ S1_) ∨ ∃ S1_, r_ = (.inr 2, S1_, 1) ∧ vx_117 b_ n_ A_ N_ M_ c_ p_ S0_ S1_) := by
  have hF_ : ai_fr (sx_W vw_117) S0_ S0_ := ai_fr_rf
  have st0_ := hc_.2.2.2.2.2.1
  have kd0_ := hc_.2.2.2.2.2.2.2.1
  have hp0_ := hc_.2.2.2.1
  have hn1_ := hc_.2.2.1
  refine sm_T_go 3 (c1 := (6, [some (.inr (.inr (some (7, 0))))], [.inl 125, .inr (.inr (some (10, 0)))], S0_)) rfl ?_
  refine sm_T_calx (d1 := 2) (Q1 := vq_188 125 b_ n_ p_ S0_) (Q2 := vx_188 125 b_ n_ p_ S0_) rfl rfl (by decide) (vc_188 125 b_ n_ p_ S0_ hI_ (by exact hc_)) rfl (fun Sx1_ px4_ => ?_) (fun u_ Sx1_ px4_ => ?_)
  · obtain ⟨hIx2_, hFx3_, px4_⟩ := px4_
    refine Or.inr ⟨_, rfl, hIx2_, ai_fr_tr hF_ (fr_le hFx3_ rfl), ?_⟩
    obtain ⟨e_, w1_, w2_⟩ := px4_
    refine ⟨e_, ?_, w2_⟩
    unfold p_en; rw [pb_l w1_]
  obtain ⟨rfl, hIx2_, hFx3_, px4_⟩ := px4_
  have hFx5_ : ai_fr (sx_W vw_117) S0_ Sx1_ := ai_fr_tr hF_ (fr_le hFx3_ rfl)
  obtain ⟨r1_, a1_, c1_⟩ := px4_
  have k1_ := p_nd_ok (by decide) hc_.2.2.2.1 a1_
  have d1_ := dr_fr hd_ hFx3_ rfl rfl rfl rfl rfl rfl rfl rfl rfl rfl
  have st1_ := c1_.2.2.2.2.2.1
  have kd1_ := c1_.2.2.2.2.2.2.2.1
  have hp1_ := c1_.2.2.2.1
  have n1_ := nc_fr hn_ hFx3_ rfl
  have hM9_ := d1_.1.1
  have hM8_ := d1_.1.2.1.1
  have mc9_ : Sx1_.2.2.1 76 0 = S0_.2.2.1 76 0 := fr_arr hFx3_ rfl
  have cz9_ : Sx1_.1 7 0 2 = (c_.length : Int) := d1_.2.2.2.1
  have bx6_ : 0 ≤ Sx1_.1 7 0 3 ∧ Sx1_.1 7 0 3 ≤ 16 := hIx2_.1 7 0 3 rfl
  refine sm_T_go 4 (c1 := (15, [some (.inr (.inr (some (7, 0))))], [.inl 1, .inl (Sx1_.1 7 0 3), .inr (.inr (some (7, 0)))], Sx1_)) rfl ?_
  refine sm_T_bin (w := (Sx1_.1 7 0 3) + 1) rfl (bi_add (by omega) (by omega) (by omega)) ?_
  have hIx7_ : gi (sm_pI Sx1_ 7 0 3 ((Sx1_.1 7 0 3) + 1)) := gi_pI hIx2_ (show 0 ≤ (Sx1_.1 7 0 3) + 1 ∧ (Sx1_.1 7 0 3) + 1 ≤ 16 from ⟨by omega, by omega⟩)
  have hFx8_ : ai_fr (sx_W vw_117) S0_ (sm_pI Sx1_ 7 0 3 ((Sx1_.1 7 0 3) + 1)) := ai_fr_tr hFx5_ (ai_fr_pI rfl)
  have bx9_ : 0 ≤ Sx1_.1 7 0 2 ∧ Sx1_.1 7 0 2 ≤ 65536 := hIx2_.1 7 0 2 rfl
  refine sm_T_go 7 (c1 := (31, [some (.inr (.inr (some (7, 0))))], [.inl (Sx1_.1 7 0 2), .inl ((Sx1_.1 7 0 3) + 1), .inr (.inr (some (76, 0)))], sm_pI Sx1_ 7 0 3 ((Sx1_.1 7 0 3) + 1))) rfl ?_
  refine sm_T_iast (n := 17) rfl rfl (by omega) (by omega) ?_
  have hIx10_ : gi (sm_aI (sm_pI Sx1_ 7 0 3 ((Sx1_.1 7 0 3) + 1)) 76 0 ((Sx1_.1 7 0 3) + 1).toNat (Sx1_.1 7 0 2)) := gi_aI hIx7_ (show 0 ≤ (Sx1_.1 7 0 2) ∧ (Sx1_.1 7 0 2) ≤ 65536 from ⟨by omega, by omega⟩)
  have hFx11_ : ai_fr (sx_W vw_117) S0_ (sm_aI (sm_pI Sx1_ 7 0 3 ((Sx1_.1 7 0 3) + 1)) 76 0 ((Sx1_.1 7 0 3) + 1).toNat (Sx1_.1 7 0 2)) := ai_fr_tr hFx8_ (ai_fr_aI rfl)
  have bx12_ : (-128) ≤ Sx1_.1 10 0 2 ∧ Sx1_.1 10 0 2 ≤ 257 := hIx2_.1 10 0 2 rfl
  refine sm_T_go 3 (c1 := (39, [some (.inr (.inr (some (7, 0))))], [.inl (Sx1_.1 10 0 2)], sm_aI (sm_pI Sx1_ 7 0 3 ((Sx1_.1 7 0 3) + 1)) 76 0 ((Sx1_.1 7 0 3) + 1).toNat (Sx1_.1 7 0 2))) rfl ?_
  refine sm_T_b0 (a := 1) (z := 5) rfl (fun cx13_ => ?_) (fun cx13_ => ?_)
  · have cx13_ : (Sx1_.1 10 0 2) ≠ 0 := of_decide_eq_true cx13_
    refine sm_T_go 1 (c1 := (45, [some (.inr (.inr (some (7, 0))))], [.inr (.inr (some (7, 0)))], sm_aI (sm_pI Sx1_ 7 0 3 ((Sx1_.1 7 0 3) + 1)) 76 0 ((Sx1_.1 7 0 3) + 1).toNat (Sx1_.1 7 0 2))) rfl ?_
    refine sm_T_calx (d1 := 3) (Q1 := vq_116 b_ n_ A_ N_ (M_ + 1) c_ r1_ (sm_aI (sm_pI Sx1_ 7 0 3 ((Sx1_.1 7 0 3) + 1)) 76 0 ((Sx1_.1 7 0 3) + 1).toNat (Sx1_.1 7 0 2))) (Q2 := vx_116 b_ n_ A_ N_ (M_ + 1) c_ r1_ (sm_aI (sm_pI Sx1_ 7 0 3 ((Sx1_.1 7 0 3) + 1)) 76 0 ((Sx1_.1 7 0 3) + 1).toNat (Sx1_.1 7 0 2))) rfl rfl (by decide) (vc_116 b_ n_ A_ N_ (M_ + 1) c_ r1_ (sm_aI (sm_pI Sx1_ 7 0 3 ((Sx1_.1 7 0 3) + 1)) 76 0 ((Sx1_.1 7 0 3) + 1).toNat (Sx1_.1 7 0 2)) hIx10_ (by exact (en_st d1_ n1_ c1_ (show _ = (M_ : Int) + 1 by rw [← hM9_])).1) (by exact (en_st d1_ n1_ c1_ (show _ = (M_ : Int) + 1 by rw [← hM9_])).2)) rfl (fun Sx14_ px17_ => ?_) (fun u_ Sx14_ px17_ => ?_)
    · obtain ⟨hIx15_, hFx16_, px17_⟩ := px17_
      refine Or.inr ⟨_, rfl, hIx15_, ai_fr_tr hFx11_ (fr_le hFx16_ rfl), ?_⟩
      obtain ⟨e_, w1_, w2_⟩ := px17_
      refine ⟨e_, ?_, w2_⟩
      unfold p_en; rw [pb_r a1_, if_neg (by omega), pb_l w1_]
    obtain ⟨rfl, hIx15_, hFx16_, px17_⟩ := px17_
    have hFx18_ : ai_fr (sx_W vw_117) S0_ Sx14_ := ai_fr_tr hFx11_ (fr_le hFx16_ rfl)
    obtain ⟨x4_, a4_, c4_, d4_, n4_, lt4_⟩ := px17_
    have m4_ := fr_arr (t := 76) (i := 0) hFx16_ rfl
    refine sm_T_go 1 (c1 := (49, [some (.inr (.inr (some (7, 0))))], [.inl 1], Sx14_)) rfl ?_
    refine sm_T_rz rfl (by omega) (Or.inl ⟨_, _, rfl, _, rfl, hIx15_, hFx18_, ?_⟩)
    refine ⟨some x4_, by unfold p_en; rw [pb_r a1_, if_neg (by omega), pb_r a4_], ?_, fun m_ hm_ => ?_, Or.inr ⟨rfl, x4_, rfl, c4_, d4_, n4_, by omega⟩⟩
    · rw [m4_]; (try simp only [rd_eq, rd_ne, rf_eq, rf_nk, rf_nt, rd_fa, rd_af, rd_fl, rd_al, rd_lf, rd_la, rd_leq, rd_lne, rd_fr, rd_ar, ne_eq, Nat.reduceEqDiff, not_false_eq_true]); rw [if_pos (by omega)]; exact cz9_
    · rw [m4_]; (try simp only [rd_eq, rd_ne, rf_eq, rf_nk, rf_nt, rd_fa, rd_af, rd_fl, rd_al, rd_lf, rd_la, rd_leq, rd_lne, rd_fr, rd_ar, ne_eq, Nat.reduceEqDiff, not_false_eq_true]); rw [if_neg (by omega), mc9_]
  · have cx13_ : ¬ ((Sx1_.1 10 0 2) ≠ 0) := of_decide_eq_false cx13_
    refine sm_T_go 1 (c1 := (43, [some (.inr (.inr (some (7, 0))))], [.inl 0], sm_aI (sm_pI Sx1_ 7 0 3 ((Sx1_.1 7 0 3) + 1)) 76 0 ((Sx1_.1 7 0 3) + 1).toNat (Sx1_.1 7 0 2))) rfl ?_
    refine sm_T_rz rfl (by omega) (Or.inl ⟨_, _, rfl, _, rfl, hIx10_, hFx11_, ?_⟩)
    refine ⟨none, by unfold p_en; rw [pb_r a1_, if_pos (by omega)], ?_, fun m_ hm_ => ?_, Or.inl ⟨rfl, rfl, (en_st d1_ n1_ c1_ (show _ = (M_ : Int) + 1 by rw [← hM9_])).2⟩⟩
    · (try simp only [rd_eq, rd_ne, rf_eq, rf_nk, rf_nt, rd_fa, rd_af, rd_fl, rd_al, rd_lf, rd_la, rd_leq, rd_lne, rd_fr, rd_ar, ne_eq, Nat.reduceEqDiff, not_false_eq_true]); rw [if_pos (by omega)]; exact cz9_
    · (try simp only [rd_eq, rd_ne, rf_eq, rf_nk, rf_nt, rd_fa, rd_af, rd_fl, rd_al, rd_lf, rd_la, rd_leq, rd_lne, rd_fr, rd_ar, ne_eq, Nat.reduceEqDiff, not_false_eq_true]); rw [if_neg (by omega), mc9_]
