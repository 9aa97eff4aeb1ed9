/-! 99.x2k -/
section
/-! Reader.finishChoice -/
def vw_152 : sx_Wl := ([(7, 2), (7, 14), (7, 16), (7, 17), (10, 6), (10, 7)], [74, 84], [])
def vq_152 (o_ : List (Int × Nat)) (g_ : List Int) (c_ : List Int) (k_ : Int) (t_ : Nat) (x_ : Int) (y_ : Int) (z_ : Int) (S0_ : sm_S) (u_ : Option sm_V) (S1_ : sm_S) : Prop := u_ = none ∧ gi S1_ ∧ ai_fr (sx_W vw_152) S0_ S1_ ∧ (y_ = x_ ∧ xs false o_ (y_ :: g_) (7 :: c_) S1_ ∧ (S1_.1 7 0 17) = (S0_.1 7 0 17) - 1)
def vx_152 (o_ : List (Int × Nat)) (g_ : List Int) (c_ : List Int) (k_ : Int) (t_ : Nat) (x_ : Int) (y_ : Int) (z_ : Int) (S0_ : sm_S) (S1_ : sm_S) : Prop := gi S1_ ∧ ai_fr (sx_W vw_152) S0_ S1_ ∧ (y_ ≠ x_ ∧ ter S1_ (13, t_))
theorem vc_152 {sc_ : Nat × (Nat → Int)} (o_ : List (Int × Nat)) (g_ : List Int) (c_ : List Int) (k_ : Int) (t_ : Nat) (x_ : Int) (y_ : Int) (z_ : Int) (S0_ : sm_S) (hI_ : gi S0_) (hx_ : xs false ((k_, t_) :: o_) (x_ :: y_ :: z_ :: g_) c_ S0_) (ho_ : 1 ≤ (S0_.1 7 0 17)) (hl0_ : o_.length ≤ 487) (hg0_ : g_.length ≤ 485) (hc_ : c_.length ≤ 65535) (ht_ : t_ ≤ 1280) : sm_T (mt_P sc_) 1 152 (0, [some (.inr (.inr (some (7, 0))))], [], S0_) (fun r_ => (∃ u_ S1_, r_ = (.inl u_, S1_, 0) ∧ vq_152 o_ g_ c_ k_ t_ x_ y_ z_ S0_ u_ S1_) ∨ ∃ S1_, r_ = (.inr 2, S1_, 1) ∧ vx_152 o_ g_ c_ k_ t_ x_ y_ z_ S0_ S1_) := by
  have hF_ : ai_fr (sx_W vw_152) S0_ S0_ := ai_fr_rf
  obtain ⟨x1_, x2_, x3_, x4_, x5_, x6_, x7_⟩ := id hx_
  have x8_ : S0_.1 7 0 14 = (o_.length : Int) + 1 := by rw [x1_]; simp
  have x9_ : S0_.1 7 0 16 = (g_.length : Int) + 3 := by rw [x2_]; simp only [List.length_cons]; push_cast; omega
  have l1_ : (S0_.1 7 0 14 - 1).toNat = (o_.map fun x_ => (x_.2 : Int)).length := by rw [List.length_map]; omega
  have l2_ : (S0_.1 7 0 16 - 2).toNat = (z_ :: g_).length := by simp only [List.length_cons]; omega
  have l3_ : (S0_.1 7 0 16 - 1).toNat = (y_ :: z_ :: g_).length := by simp only [List.length_cons]; omega
  have l4_ : (S0_.1 7 0 16 - 3).toNat = g_.length := by omega
  have e1_ : S0_.2.2.1 83 0 (S0_.1 7 0 14 - 1).toNat = (t_ : Int) := by rw [l1_]; exact x4_.1
  have e2_ : S0_.2.2.1 84 0 (S0_.1 7 0 16 - 2).toNat = y_ := by rw [l2_]; exact x5_.2.1
  have e3_ : S0_.2.2.1 84 0 (S0_.1 7 0 16 - 1).toNat = x_ := by rw [l3_]; exact x5_.1
  have b1_ : 0 ≤ S0_.1 7 0 14 ∧ S0_.1 7 0 14 ≤ 488 := hI_.1 7 0 14 rfl
  refine sm_T_go 4 (c1 := (6, [some (.inr (.inr (some (7, 0))))], [.inl 1, .inl (S0_.1 7 0 14), .inr (.inr (some (7, 0)))], S0_)) rfl ?_
  refine sm_T_bin (w := (S0_.1 7 0 14) - 1) rfl (bi_sub (by omega) (by omega) (by omega)) ?_
  have hI2_ : gi (sm_pI S0_ 7 0 14 ((S0_.1 7 0 14) - 1)) := gi_pI hI_ (show 0 ≤ (S0_.1 7 0 14) - 1 ∧ (S0_.1 7 0 14) - 1 ≤ 488 from ⟨by omega, by omega⟩)
  have hF3_ : ai_fr (sx_W vw_152) S0_ (sm_pI S0_ 7 0 14 ((S0_.1 7 0 14) - 1)) := ai_fr_tr hF_ (ai_fr_pI rfl)
  have b4_ : 0 ≤ S0_.1 7 0 17 ∧ S0_.1 7 0 17 ≤ 60 := hI_.1 7 0 17 rfl
  refine sm_T_go 5 (c1 := (16, [some (.inr (.inr (some (7, 0))))], [.inl 1, .inl (S0_.1 7 0 17), .inr (.inr (some (7, 0)))], sm_pI S0_ 7 0 14 ((S0_.1 7 0 14) - 1))) rfl ?_
  refine sm_T_bin (w := (S0_.1 7 0 17) - 1) rfl (bi_sub (by omega) (by omega) (by omega)) ?_
  have hI5_ : gi (sm_pI (sm_pI S0_ 7 0 14 ((S0_.1 7 0 14) - 1)) 7 0 17 ((S0_.1 7 0 17) - 1)) := gi_pI hI2_ (show 0 ≤ (S0_.1 7 0 17) - 1 ∧ (S0_.1 7 0 17) - 1 ≤ 60 from ⟨by omega, by omega⟩)
  have hF6_ : ai_fr (sx_W vw_152) S0_ (sm_pI (sm_pI S0_ 7 0 14 ((S0_.1 7 0 14) - 1)) 7 0 17 ((S0_.1 7 0 17) - 1)) := ai_fr_tr hF3_ (ai_fr_pI rfl)
  have b7_ : 0 ≤ S0_.1 7 0 16 ∧ S0_.1 7 0 16 ≤ 488 := hI_.1 7 0 16 rfl
  refine sm_T_go 5 (c1 := (26, [some (.inr (.inr (some (7, 0))))], [.inl 2, .inl (S0_.1 7 0 16), .inr (.inr (some (7, 0)))], sm_pI (sm_pI S0_ 7 0 14 ((S0_.1 7 0 14) - 1)) 7 0 17 ((S0_.1 7 0 17) - 1))) rfl ?_
  refine sm_T_bin (w := (S0_.1 7 0 16) - 2) rfl (bi_sub (by omega) (by omega) (by omega)) ?_
  have hI8_ : gi (sm_pI (sm_pI (sm_pI S0_ 7 0 14 ((S0_.1 7 0 14) - 1)) 7 0 17 ((S0_.1 7 0 17) - 1)) 7 0 16 ((S0_.1 7 0 16) - 2)) := gi_pI hI5_ (show 0 ≤ (S0_.1 7 0 16) - 2 ∧ (S0_.1 7 0 16) - 2 ≤ 488 from ⟨by omega, by omega⟩)
  have hF9_ : ai_fr (sx_W vw_152) S0_ (sm_pI (sm_pI (sm_pI S0_ 7 0 14 ((S0_.1 7 0 14) - 1)) 7 0 17 ((S0_.1 7 0 17) - 1)) 7 0 16 ((S0_.1 7 0 16) - 2)) := ai_fr_tr hF6_ (ai_fr_pI rfl)
  refine sm_T_go 5 (c1 := (38, [some (.inr (.inr (some (7, 0))))], [.inl ((S0_.1 7 0 16) - 2), .inr (.inr (some (84, 0)))], sm_pI (sm_pI (sm_pI S0_ 7 0 14 ((S0_.1 7 0 14) - 1)) 7 0 17 ((S0_.1 7 0 17) - 1)) 7 0 16 ((S0_.1 7 0 16) - 2))) rfl ?_
  refine sm_T_iald (n := 488) rfl rfl (by omega) (by omega) ?_
  have b10_ : 0 ≤ S0_.2.2.1 84 0 ((S0_.1 7 0 16) - 2).toNat ∧ S0_.2.2.1 84 0 ((S0_.1 7 0 16) - 2).toNat ≤ 255 := hI_.2 84 0 _
  refine sm_T_go 5 (c1 := (48, [some (.inr (.inr (some (7, 0))))], [.inl 1, .inl ((S0_.1 7 0 16) - 2), .inr (.inr (some (84, 0))), .inl (S0_.2.2.1 84 0 ((S0_.1 7 0 16) - 2).toNat)], sm_pI (sm_pI (sm_pI S0_ 7 0 14 ((S0_.1 7 0 14) - 1)) 7 0 17 ((S0_.1 7 0 17) - 1)) 7 0 16 ((S0_.1 7 0 16) - 2))) rfl ?_
  refine sm_T_bin (w := (S0_.1 7 0 16) - 1) rfl (bi_add (by omega) (by omega) (by omega)) ?_
  refine sm_T_iald (n := 488) rfl rfl (by omega) (by omega) ?_
  have b11_ : 0 ≤ S0_.2.2.1 84 0 ((S0_.1 7 0 16) - 1).toNat ∧ S0_.2.2.1 84 0 ((S0_.1 7 0 16) - 1).toNat ≤ 255 := hI_.2 84 0 _
  refine sm_T_br (a := 0) (z := 21) rfl (fun c12_ => ?_) (fun c12_ => ?_)
  · have c12_ : (S0_.2.2.1 84 0 ((S0_.1 7 0 16) - 2).toNat) = (S0_.2.2.1 84 0 ((S0_.1 7 0 16) - 1).toNat) := of_decide_eq_true c12_
    refine sm_T_go 5 (c1 := (80, [some (.inr (.inr (some (7, 0))))], [.inl 1, .inl ((S0_.1 7 0 16) - 2), .inr (.inr (some (84, 0)))], sm_pI (sm_pI (sm_pI S0_ 7 0 14 ((S0_.1 7 0 14) - 1)) 7 0 17 ((S0_.1 7 0 17) - 1)) 7 0 16 ((S0_.1 7 0 16) - 2))) rfl ?_
    refine sm_T_bin (w := (S0_.1 7 0 16) - 3) rfl (bi_sub (by omega) (by omega) (by omega)) ?_
    refine sm_T_go 4 (c1 := (89, [some (.inr (.inr (some (7, 0))))], [.inl ((S0_.1 7 0 16) - 2), .inr (.inr (some (84, 0))), .inl ((S0_.1 7 0 16) - 3), .inr (.inr (some (84, 0)))], sm_pI (sm_pI (sm_pI S0_ 7 0 14 ((S0_.1 7 0 14) - 1)) 7 0 17 ((S0_.1 7 0 17) - 1)) 7 0 16 ((S0_.1 7 0 16) - 2))) rfl ?_
    refine sm_T_iald (n := 488) rfl rfl (by omega) (by omega) ?_
    refine sm_T_iast (n := 488) rfl rfl (by omega) (by omega) ?_
    have hI13_ : gi (sm_aI (sm_pI (sm_pI (sm_pI S0_ 7 0 14 ((S0_.1 7 0 14) - 1)) 7 0 17 ((S0_.1 7 0 17) - 1)) 7 0 16 ((S0_.1 7 0 16) - 2)) 84 0 ((S0_.1 7 0 16) - 3).toNat (S0_.2.2.1 84 0 ((S0_.1 7 0 16) - 2).toNat)) := gi_aI hI8_ (show 0 ≤ (S0_.2.2.1 84 0 ((S0_.1 7 0 16) - 2).toNat) ∧ (S0_.2.2.1 84 0 ((S0_.1 7 0 16) - 2).toNat) ≤ 255 from ⟨by omega, by omega⟩)
    have hF14_ : ai_fr (sx_W vw_152) S0_ (sm_aI (sm_pI (sm_pI (sm_pI S0_ 7 0 14 ((S0_.1 7 0 14) - 1)) 7 0 17 ((S0_.1 7 0 17) - 1)) 7 0 16 ((S0_.1 7 0 16) - 2)) 84 0 ((S0_.1 7 0 16) - 3).toNat (S0_.2.2.1 84 0 ((S0_.1 7 0 16) - 2).toNat)) := ai_fr_tr hF9_ (ai_fr_aI rfl)
    refine sm_T_go 4 (c1 := (96, [some (.inr (.inr (some (7, 0))))], [.inl 0, .inl 0, .inl 7, .inr (.inr (some (7, 0)))], sm_aI (sm_pI (sm_pI (sm_pI S0_ 7 0 14 ((S0_.1 7 0 14) - 1)) 7 0 17 ((S0_.1 7 0 17) - 1)) 7 0 16 ((S0_.1 7 0 16) - 2)) 84 0 ((S0_.1 7 0 16) - 3).toNat (S0_.2.2.1 84 0 ((S0_.1 7 0 16) - 2).toNat))) rfl ?_
    refine sm_T_cal (d1 := 0) (Q1 := vq_140 7 0 0 o_ (y_ :: g_) c_ (sm_aI (sm_pI (sm_pI (sm_pI S0_ 7 0 14 ((S0_.1 7 0 14) - 1)) 7 0 17 ((S0_.1 7 0 17) - 1)) 7 0 16 ((S0_.1 7 0 16) - 2)) 84 0 ((S0_.1 7 0 16) - 3).toNat (S0_.2.2.1 84 0 ((S0_.1 7 0 16) - 2).toNat))) rfl rfl (by decide) (vc_140 7 0 0 o_ (y_ :: g_) c_ (sm_aI (sm_pI (sm_pI (sm_pI S0_ 7 0 14 ((S0_.1 7 0 14) - 1)) 7 0 17 ((S0_.1 7 0 17) - 1)) 7 0 16 ((S0_.1 7 0 16) - 2)) 84 0 ((S0_.1 7 0 16) - 3).toNat (S0_.2.2.1 84 0 ((S0_.1 7 0 16) - 2).toNat)) hI13_ (by refine ⟨?_, ?_, stk_ot x3_.2 (by decide), stk_ot x4_.2 (by decide), stk_pu l4_ e2_ x5_.2.2.2, x6_, fun z_ => ⟨(x7_ z_).1, stk_ot (x7_ z_).2 (by decide)⟩⟩; ((try simp only [rd_eq, rd_ne, rf_eq, rf_nk, rf_nt, rd_fa, rd_af, rd_fl, rd_al, rd_lf, rd_la, rd_leq, rd_lne, rd_fr, rd_ar, ne_eq, Nat.reduceEqDiff, not_false_eq_true]); omega); ((try simp only [rd_eq, rd_ne, rf_eq, rf_nk, rf_nt, rd_fa, rd_af, rd_fl, rd_al, rd_lf, rd_la, rd_leq, rd_lne, rd_fr, rd_ar, ne_eq, Nat.reduceEqDiff, not_false_eq_true]); simp only [List.length_cons]; push_cast; omega)) (by decide) (by decide) (by decide) (by exact hc_)) (fun u_ S15_ p18_ => ?_)
    obtain ⟨rfl, hI16_, hF17_, p18_⟩ := p18_
    have hF19_ : ai_fr (sx_W vw_152) S0_ S15_ := ai_fr_tr hF14_ (fr_le hF17_ rfl)
    have e96_ := p18_
    have f96_ := hF17_.1 7 0 17 rfl
    refine sm_T_rv rfl (Or.inl ⟨_, _, rfl, rfl, hI16_, hF19_, ?_⟩)
    rw [cw_0] at e96_
    refine ⟨by omega, e96_, ?_⟩
    rw [f96_]
    (try simp only [rd_eq, rd_ne, rf_eq, rf_nk, rf_nt, rd_fa, rd_af, rd_fl, rd_al, rd_lf, rd_la, rd_leq, rd_lne, rd_fr, rd_ar, ne_eq, Nat.reduceEqDiff, not_false_eq_true])
  · have c12_ : ¬ ((S0_.2.2.1 84 0 ((S0_.1 7 0 16) - 2).toNat) = (S0_.2.2.1 84 0 ((S0_.1 7 0 16) - 1).toNat)) := of_decide_eq_false c12_
    refine sm_T_go 7 (c1 := (67, [some (.inr (.inr (some (7, 0))))], [.inl ((S0_.1 7 0 14) - 1), .inr (.inr (some (83, 0))), .inl 13, .inr (.inr (some (10, 0)))], sm_pI (sm_pI (sm_pI S0_ 7 0 14 ((S0_.1 7 0 14) - 1)) 7 0 17 ((S0_.1 7 0 17) - 1)) 7 0 16 ((S0_.1 7 0 16) - 2))) rfl ?_
    refine sm_T_iald (n := 488) rfl rfl (by omega) (by omega) ?_
    have b20_ : 0 ≤ S0_.2.2.1 83 0 ((S0_.1 7 0 14) - 1).toNat ∧ S0_.2.2.1 83 0 ((S0_.1 7 0 14) - 1).toNat ≤ 1280 := hI_.2 83 0 _
    refine sm_T_calx (d1 := 0) (Q1 := vq_187 13 (S0_.2.2.1 83 0 ((S0_.1 7 0 14) - 1).toNat) (sm_pI (sm_pI (sm_pI S0_ 7 0 14 ((S0_.1 7 0 14) - 1)) 7 0 17 ((S0_.1 7 0 17) - 1)) 7 0 16 ((S0_.1 7 0 16) - 2))) (Q2 := vx_187 13 (S0_.2.2.1 83 0 ((S0_.1 7 0 14) - 1).toNat) (sm_pI (sm_pI (sm_pI S0_ 7 0 14 ((S0_.1 7 0 14) - 1)) 7 0 17 ((S0_.1 7 0 17) - 1)) 7 0 16 ((S0_.1 7 0 16) - 2))) rfl rfl (by decide) (vc_187 13 (S0_.2.2.1 83 0 ((S0_.1 7 0 14) - 1).toNat) (sm_pI (sm_pI (sm_pI S0_ 7 0 14 ((S0_.1 7 0 14) - 1)) 7 0 17 ((S0_.1 7 0 17) - 1)) 7 0 16 ((S0_.1 7 0 16) - 2)) hI8_ (by decide) (by omega)) rfl (fun S21_ p24_ => ?_) (fun u_ S21_ p24_ => ?_)
    · obtain ⟨hI22_, hF23_, p24_⟩ := p24_
      refine Or.inr ⟨_, rfl, hI22_, ai_fr_tr hF9_ (fr_le hF23_ rfl), ?_⟩
      exact ⟨by omega, p24_.1, p24_.2.trans e1_⟩
    · exact (p24_.2.2.2).elim
end
/-! 99.x3a -/
section
/-! the class reader: settling, openings; written by wip/p55/gen/vg -/
/-! Reader.applyFrom -/
def vw_148 : sx_Wl := ([(7, 2), (7, 14), (7, 16), (10, 6), (10, 7)], [74, 84], [])
def vq_148 (ls_ : Int) (md_ : Bool) (o_ : List (Int × Nat)) (g_ : List Int) (c_ : List Int) (S0_ : sm_S) (u_ : Option sm_V) (S1_ : sm_S) : Prop := u_ = none ∧ gi S1_ ∧ ai_fr (sx_W vw_148) S0_ S1_ ∧ (∃ s_, p_se md_ ls_ o_ g_ c_ = .inr s_ ∧ xs md_ s_.1 s_.2.1 s_.2.2 S1_)
def vx_148 (ls_ : Int) (md_ : Bool) (o_ : List (Int × Nat)) (g_ : List Int) (c_ : List Int) (S0_ : sm_S) (S1_ : sm_S) : Prop := gi S1_ ∧ ai_fr (sx_W vw_148) S0_ S1_ ∧ (∃ e_, p_se md_ ls_ o_ g_ c_ = .inl e_ ∧ ter S1_ e_)
set_option maxHeartbeats 400000 in
set_option maxRecDepth 20000 in
theorem vl_148 {sc_ : Nat × (Nat → Int)} (ls_ : Int) (md_ : Bool) (o_ : List (Int × Nat)) (g_ : List Int) (c_ : List Int) (S0_ : sm_S) (hx_ : xs md_ o_ g_ c_ S0_) (hs_ : s_ok md_ 1 (o_, g_, c_)) (hl_ : 1 ≤ ls_) (hc_ : c_.length + o_.length ≤ 65535) : ∀ nn_ : Nat, (∀ (i_ : Int) (S_ : sm_S), gi S_ → ai_fr (sx_W vw_148) S0_ S_ → ((0 ≤ i_ ∧ i_ ≤ 6) ∧ (∃ o1_ g1_ c1_, p_se md_ ls_ o_ g_ c_ = p_se md_ ls_ o1_ g1_ c1_ ∧ xs md_ o1_ g1_ c1_ S_ ∧ s_ok md_ 1 (o1_, g1_, c1_) ∧ c1_.length + o1_.length ≤ 65535 ∧ o_tp o1_ ≤ 5 - i_) ∧ True) → ((6 - i_).toNat) < nn_ → sm_T (mt_P sc_) 2 148 (2, [some (.inr (.inr (some (7, 0)))), some (.inl ls_), some (.inl i_), none, none, none], [], S_) (fun r_ => (∃ u_ S1_, r_ = (.inl u_, S1_, 0) ∧ vq_148 ls_ md_ o_ g_ c_ S0_ u_ S1_) ∨ ∃ S1_, r_ = (.inr 2, S1_, 1) ∧ vx_148 ls_ md_ o_ g_ c_ S0_ S1_)) := by
  intro nn_
  induction nn_ with
  | zero => exact fun _ _ _ _ _ h_ => absurd h_ (Nat.not_lt_zero _)
  | succ nn_ ih_ =>
    rintro i_ S_ hI_ hF_ ⟨h0_, h1_, -⟩ hm_
    obtain ⟨o1_, g1_, c1_, y1_, y2_, y3_, y4_, y5_⟩ := h1_
    refine sm_T_go 2 (c1 := (4, [some (.inr (.inr (some (7, 0)))), some (.inl ls_), some (.inl i_), none, none, none], [.inl 5, .inl i_], S_)) rfl ?_
    refine sm_T_br (a := 4) (z := 185) rfl (fun cx1_ => ?_) (fun cx1_ => ?_)
    · have cx1_ : 5 < i_ := of_decide_eq_true cx1_
      refine sm_T_rv rfl (Or.inl ⟨_, _, rfl, rfl, hI_, hF_, ?_⟩)
      exact ⟨(o1_, g1_, c1_), by rw [y1_]; exact p_se_st (by omega), y2_⟩
    · have cx1_ : ¬ (5 < i_) := of_decide_eq_false cx1_
      refine sm_T_go 1 (c1 := (8, [some (.inr (.inr (some (7, 0)))), some (.inl ls_), some (.inl i_), none, none, none], [.inr (.inr (some (7, 0)))], S_)) rfl ?_
      refine sm_T_cal (d1 := 0) (Q1 := vq_147 md_ o1_ g1_ c1_ S_) rfl rfl (by decide) (vc_147 md_ o1_ g1_ c1_ S_ hI_ (by exact y2_)) (fun u_ Sx2_ px5_ => ?_)
      obtain ⟨rfl, vx7_, rfl, px5_⟩ := px5_
      have e8_ := px5_
      refine sm_T_go 1 (c1 := (12, [some (.inr (.inr (some (7, 0)))), some (.inl ls_), some (.inl i_), none, none, none], [.inl ls_, .inl vx7_], S_)) rfl ?_
      refine sm_T_br (a := 2) (z := 177) rfl (fun cx8_ => ?_) (fun cx8_ => ?_)
      · have cx8_ : vx7_ < ls_ := of_decide_eq_true cx8_
        refine sm_T_rv rfl (Or.inl ⟨_, _, rfl, rfl, hI_, hF_, ?_⟩)
        exact ⟨(o1_, g1_, c1_), by rw [y1_]; exact p_se_st (by omega), y2_⟩
      · have cx8_ : ¬ (vx7_ < ls_) := of_decide_eq_false cx8_
        obtain ⟨k1_, t1_, o2_, rfl, e9_⟩ := o_tp_c (o_ := o1_) (by omega)
        obtain ⟨b1_, a1_, g2_, rfl⟩ := s_ok_2 (by omega) y3_
        obtain ⟨x1_, x2_, x3_, x4_, x5_, x6_, x7_⟩ := id y2_
        have hlt_ := o_ok_lt y3_.1 (by omega)
        have z1_ : S_.1 7 0 14 = (o2_.length : Int) + 1 := by rw [x1_]; simp
        have z2_ : S_.1 7 0 16 = (g2_.length : Int) + 2 := by rw [x2_]; simp only [List.length_cons]; push_cast; omega
        have l1_ : (S_.1 7 0 14 - 1).toNat = (o2_.map fun x_ => x_.1).length := by rw [List.length_map]; omega
        have l2_ : (S_.1 7 0 14 - 1).toNat = (o2_.map fun x_ => (x_.2 : Int)).length := by rw [List.length_map]; omega
        have l3_ : (S_.1 7 0 16 - 1).toNat = (a1_ :: g2_).length := by simp only [List.length_cons]; omega
        have l4_ : (S_.1 7 0 16 - 2).toNat = g2_.length := by omega
        have e3_ : S_.2.2.1 82 0 (S_.1 7 0 14 - 1).toNat = k1_ := by rw [l1_]; exact x3_.1
        have e4_ : S_.2.2.1 83 0 (S_.1 7 0 14 - 1).toNat = (t1_ : Int) := by rw [l2_]; exact x4_.1
        have e5_ : S_.2.2.1 84 0 (S_.1 7 0 16 - 1).toNat = b1_ := by rw [l3_]; exact x5_.1
        have e6_ : S_.2.2.1 84 0 (S_.1 7 0 16 - 2).toNat = a1_ := by rw [l4_]; exact x5_.2.1
        have bx9_ : 0 ≤ S_.1 7 0 16 ∧ S_.1 7 0 16 ≤ 488 := hI_.1 7 0 16 rfl
        refine sm_T_go 3 (c1 := (20, [some (.inr (.inr (some (7, 0)))), some (.inl ls_), some (.inl i_), none, none, none], [.inl 1, .inl (S_.1 7 0 16)], S_)) rfl ?_
        refine sm_T_br (a := 5) (z := 169) rfl (fun cx10_ => ?_) (fun cx10_ => ?_)
        · have cx10_ : (S_.1 7 0 16) ≤ 1 := of_decide_eq_true cx10_
          exfalso; omega
        · have cx10_ : ¬ ((S_.1 7 0 16) ≤ 1) := of_decide_eq_false cx10_
          have bx11_ : 0 ≤ S_.1 7 0 14 ∧ S_.1 7 0 14 ≤ 488 := hI_.1 7 0 14 rfl
          refine sm_T_go 4 (c1 := (29, [some (.inr (.inr (some (7, 0)))), some (.inl ls_), some (.inl i_), none, none, none], [.inl 1, .inl (S_.1 7 0 14), .inr (.inr (some (7, 0)))], S_)) rfl ?_
          refine sm_T_bin (w := (S_.1 7 0 14) - 1) rfl (bi_sub (by omega) (by omega) (by omega)) ?_
          have hIx12_ : gi (sm_pI S_ 7 0 14 ((S_.1 7 0 14) - 1)) := gi_pI hI_ (show 0 ≤ (S_.1 7 0 14) - 1 ∧ (S_.1 7 0 14) - 1 ≤ 488 from ⟨by omega, by omega⟩)
          have hFx13_ : ai_fr (sx_W vw_148) S0_ (sm_pI S_ 7 0 14 ((S_.1 7 0 14) - 1)) := ai_fr_tr hF_ (ai_fr_pI rfl)
          refine sm_T_go 5 (c1 := (39, [some (.inr (.inr (some (7, 0)))), some (.inl ls_), some (.inl i_), none, none, none], [.inl 1, .inl (S_.1 7 0 16), .inr (.inr (some (7, 0)))], sm_pI S_ 7 0 14 ((S_.1 7 0 14) - 1))) rfl ?_
          refine sm_T_bin (w := (S_.1 7 0 16) - 1) rfl (bi_sub (by omega) (by omega) (by omega)) ?_
          have hIx14_ : gi (sm_pI (sm_pI S_ 7 0 14 ((S_.1 7 0 14) - 1)) 7 0 16 ((S_.1 7 0 16) - 1)) := gi_pI hIx12_ (show 0 ≤ (S_.1 7 0 16) - 1 ∧ (S_.1 7 0 16) - 1 ≤ 488 from ⟨by omega, by omega⟩)
          have hFx15_ : ai_fr (sx_W vw_148) S0_ (sm_pI (sm_pI S_ 7 0 14 ((S_.1 7 0 14) - 1)) 7 0 16 ((S_.1 7 0 16) - 1)) := ai_fr_tr hFx13_ (ai_fr_pI rfl)
          refine sm_T_go 5 (c1 := (51, [some (.inr (.inr (some (7, 0)))), some (.inl ls_), some (.inl i_), none, none, none], [.inl ((S_.1 7 0 14) - 1), .inr (.inr (some (82, 0)))], sm_pI (sm_pI S_ 7 0 14 ((S_.1 7 0 14) - 1)) 7 0 16 ((S_.1 7 0 16) - 1))) rfl ?_
          refine sm_T_iald (n := 488) rfl rfl (by omega) (by omega) ?_
          have bx16_ : (-4) ≤ S_.2.2.1 82 0 ((S_.1 7 0 14) - 1).toNat ∧ S_.2.2.1 82 0 ((S_.1 7 0 14) - 1).toNat ≤ 5 := hI_.2 82 0 _
          refine sm_T_go 5 (c1 := (61, [some (.inr (.inr (some (7, 0)))), some (.inl ls_), some (.inl i_), some (.inl (S_.2.2.1 82 0 ((S_.1 7 0 14) - 1).toNat)), none, none], [.inl ((S_.1 7 0 16) - 1), .inr (.inr (some (84, 0)))], sm_pI (sm_pI S_ 7 0 14 ((S_.1 7 0 14) - 1)) 7 0 16 ((S_.1 7 0 16) - 1))) rfl ?_
          refine sm_T_iald (n := 488) rfl rfl (by omega) (by omega) ?_
          have bx17_ : 0 ≤ S_.2.2.1 84 0 ((S_.1 7 0 16) - 1).toNat ∧ S_.2.2.1 84 0 ((S_.1 7 0 16) - 1).toNat ≤ 255 := hI_.2 84 0 _
          refine sm_T_go 6 (c1 := (73, [some (.inr (.inr (some (7, 0)))), some (.inl ls_), some (.inl i_), some (.inl (S_.2.2.1 82 0 ((S_.1 7 0 14) - 1).toNat)), some (.inl (S_.2.2.1 84 0 ((S_.1 7 0 16) - 1).toNat)), none], [.inl 1, .inl ((S_.1 7 0 16) - 1), .inr (.inr (some (84, 0)))], sm_pI (sm_pI S_ 7 0 14 ((S_.1 7 0 14) - 1)) 7 0 16 ((S_.1 7 0 16) - 1))) rfl ?_
          refine sm_T_bin (w := (S_.1 7 0 16) - 2) rfl (bi_sub (by omega) (by omega) (by omega)) ?_
          refine sm_T_iald (n := 488) rfl rfl (by omega) (by omega) ?_
          have bx18_ : 0 ≤ S_.2.2.1 84 0 ((S_.1 7 0 16) - 2).toNat ∧ S_.2.2.1 84 0 ((S_.1 7 0 16) - 2).toNat ≤ 255 := hI_.2 84 0 _
          refine sm_T_go 2 (c1 := (78, [some (.inr (.inr (some (7, 0)))), some (.inl ls_), some (.inl i_), some (.inl (S_.2.2.1 82 0 ((S_.1 7 0 14) - 1).toNat)), some (.inl (S_.2.2.1 84 0 ((S_.1 7 0 16) - 1).toNat)), some (.inl (S_.2.2.1 84 0 ((S_.1 7 0 16) - 2).toNat))], [.inr (.inr (some (7, 0)))], sm_pI (sm_pI S_ 7 0 14 ((S_.1 7 0 14) - 1)) 7 0 16 ((S_.1 7 0 16) - 1))) rfl ?_
          cases qx19_ : S_.2.1 7 0 11 with
          | none =>
            refine sm_T_gr rfl rfl qx19_ ?_
            have hmd_ : md_ = false := xs_n y2_ qx19_
            subst hmd_
            refine sm_T_go 3 (c1 := (133, [some (.inr (.inr (some (7, 0)))), some (.inl ls_), some (.inl i_), some (.inl (S_.2.2.1 82 0 ((S_.1 7 0 14) - 1).toNat)), some (.inl (S_.2.2.1 84 0 ((S_.1 7 0 16) - 1).toNat)), some (.inl (S_.2.2.1 84 0 ((S_.1 7 0 16) - 2).toNat))], [.inl (S_.2.2.1 84 0 ((S_.1 7 0 16) - 1).toNat), .inl (S_.2.2.1 84 0 ((S_.1 7 0 16) - 2).toNat)], sm_pI (sm_pI S_ 7 0 14 ((S_.1 7 0 14) - 1)) 7 0 16 ((S_.1 7 0 16) - 1))) rfl ?_
            refine sm_T_br (a := 0) (z := 21) rfl (fun cx21_ => ?_) (fun cx21_ => ?_)
            · have cx21_ : (S_.2.2.1 84 0 ((S_.1 7 0 16) - 2).toNat) = (S_.2.2.1 84 0 ((S_.1 7 0 16) - 1).toNat) := of_decide_eq_true cx21_
              refine sm_T_go 5 (c1 := (163, [some (.inr (.inr (some (7, 0)))), some (.inl ls_), some (.inl i_), some (.inl (S_.2.2.1 82 0 ((S_.1 7 0 14) - 1).toNat)), some (.inl (S_.2.2.1 84 0 ((S_.1 7 0 16) - 1).toNat)), some (.inl (S_.2.2.1 84 0 ((S_.1 7 0 16) - 2).toNat))], [.inl 1, .inl ((S_.1 7 0 16) - 1), .inr (.inr (some (84, 0)))], sm_pI (sm_pI S_ 7 0 14 ((S_.1 7 0 14) - 1)) 7 0 16 ((S_.1 7 0 16) - 1))) rfl ?_
              refine sm_T_bin (w := (S_.1 7 0 16) - 2) rfl (bi_sub (by omega) (by omega) (by omega)) ?_
              refine sm_T_go 2 (c1 := (166, [some (.inr (.inr (some (7, 0)))), some (.inl ls_), some (.inl i_), some (.inl (S_.2.2.1 82 0 ((S_.1 7 0 14) - 1).toNat)), some (.inl (S_.2.2.1 84 0 ((S_.1 7 0 16) - 1).toNat)), some (.inl (S_.2.2.1 84 0 ((S_.1 7 0 16) - 2).toNat))], [.inl 4, .inl (S_.2.2.1 82 0 ((S_.1 7 0 14) - 1).toNat), .inl ((S_.1 7 0 16) - 2), .inr (.inr (some (84, 0)))], sm_pI (sm_pI S_ 7 0 14 ((S_.1 7 0 14) - 1)) 7 0 16 ((S_.1 7 0 16) - 1))) rfl ?_
              refine sm_T_br (a := 1) (z := 7) rfl (fun cx22_ => ?_) (fun cx22_ => ?_)
              · have cx22_ : (S_.2.2.1 82 0 ((S_.1 7 0 14) - 1).toNat) ≠ 4 := of_decide_eq_true cx22_
                refine sm_T_go 1 (c1 := (175, [some (.inr (.inr (some (7, 0)))), some (.inl ls_), some (.inl i_), some (.inl (S_.2.2.1 82 0 ((S_.1 7 0 14) - 1).toNat)), some (.inl (S_.2.2.1 84 0 ((S_.1 7 0 16) - 1).toNat)), some (.inl (S_.2.2.1 84 0 ((S_.1 7 0 16) - 2).toNat))], [.inl (S_.2.2.1 84 0 ((S_.1 7 0 16) - 2).toNat), .inl ((S_.1 7 0 16) - 2), .inr (.inr (some (84, 0)))], sm_pI (sm_pI S_ 7 0 14 ((S_.1 7 0 14) - 1)) 7 0 16 ((S_.1 7 0 16) - 1))) rfl ?_
                refine sm_T_iast (n := 488) rfl rfl (by omega) (by omega) ?_
                have hIx23_ : gi (sm_aI (sm_pI (sm_pI S_ 7 0 14 ((S_.1 7 0 14) - 1)) 7 0 16 ((S_.1 7 0 16) - 1)) 84 0 ((S_.1 7 0 16) - 2).toNat (S_.2.2.1 84 0 ((S_.1 7 0 16) - 2).toNat)) := gi_aI hIx14_ (show 0 ≤ (S_.2.2.1 84 0 ((S_.1 7 0 16) - 2).toNat) ∧ (S_.2.2.1 84 0 ((S_.1 7 0 16) - 2).toNat) ≤ 255 from ⟨by omega, by omega⟩)
                have hFx24_ : ai_fr (sx_W vw_148) S0_ (sm_aI (sm_pI (sm_pI S_ 7 0 14 ((S_.1 7 0 14) - 1)) 7 0 16 ((S_.1 7 0 16) - 1)) 84 0 ((S_.1 7 0 16) - 2).toNat (S_.2.2.1 84 0 ((S_.1 7 0 16) - 2).toNat)) := ai_fr_tr hFx15_ (ai_fr_aI rfl)
                refine sm_T_go 4 (c1 := (180, [some (.inr (.inr (some (7, 0)))), some (.inl ls_), some (.inl i_), some (.inl (S_.2.2.1 82 0 ((S_.1 7 0 14) - 1).toNat)), some (.inl (S_.2.2.1 84 0 ((S_.1 7 0 16) - 1).toNat)), some (.inl (S_.2.2.1 84 0 ((S_.1 7 0 16) - 2).toNat))], [.inl 0, .inl 0, .inl (S_.2.2.1 82 0 ((S_.1 7 0 14) - 1).toNat), .inr (.inr (some (7, 0)))], sm_aI (sm_pI (sm_pI S_ 7 0 14 ((S_.1 7 0 14) - 1)) 7 0 16 ((S_.1 7 0 16) - 1)) 84 0 ((S_.1 7 0 16) - 2).toNat (S_.2.2.1 84 0 ((S_.1 7 0 16) - 2).toNat))) rfl ?_
                refine sm_T_cal (d1 := 0) (Q1 := vq_140 (S_.2.2.1 82 0 ((S_.1 7 0 14) - 1).toNat) 0 0 o2_ ((if k1_ = 4 then 1 else a1_) :: g2_) c1_ (sm_aI (sm_pI (sm_pI S_ 7 0 14 ((S_.1 7 0 14) - 1)) 7 0 16 ((S_.1 7 0 16) - 1)) 84 0 ((S_.1 7 0 16) - 2).toNat (S_.2.2.1 84 0 ((S_.1 7 0 16) - 2).toNat))) rfl rfl (by decide) (vc_140 (S_.2.2.1 82 0 ((S_.1 7 0 14) - 1).toNat) 0 0 o2_ ((if k1_ = 4 then 1 else a1_) :: g2_) c1_ (sm_aI (sm_pI (sm_pI S_ 7 0 14 ((S_.1 7 0 14) - 1)) 7 0 16 ((S_.1 7 0 16) - 1)) 84 0 ((S_.1 7 0 16) - 2).toNat (S_.2.2.1 84 0 ((S_.1 7 0 16) - 2).toNat)) hIx23_ (by refine ⟨?_, ?_, stk_ot x3_.2 (by decide), stk_ot x4_.2 (by decide), stk_pu l4_ ?_ x5_.2.2, x6_, fun z_ => ⟨(x7_ z_).1, stk_ot (x7_ z_).2 (by decide)⟩⟩; ((try simp only [rd_eq, rd_ne, rf_eq, rf_nk, rf_nt, rd_fa, rd_af, rd_fl, rd_al, rd_lf, rd_la, rd_leq, rd_lne, rd_fr, rd_ar, ne_eq, Nat.reduceEqDiff, not_false_eq_true]); omega); ((try simp only [rd_eq, rd_ne, rf_eq, rf_nk, rf_nt, rd_fa, rd_af, rd_fl, rd_al, rd_lf, rd_la, rd_leq, rd_lne, rd_fr, rd_ar, ne_eq, Nat.reduceEqDiff, not_false_eq_true]); simp only [List.length_cons]; push_cast; omega); (first | (rw [if_pos (by omega)]) | (rw [if_neg (by omega)]; exact e6_))) (by omega) (by decide) (by decide) (by simp only [List.length_cons] at y4_; omega)) (fun u_ Sx25_ px28_ => ?_)
                obtain ⟨rfl, hIx26_, hFx27_, px28_⟩ := px28_
                have hFx29_ : ai_fr (sx_W vw_148) S0_ Sx25_ := ai_fr_tr hFx24_ (fr_le hFx27_ rfl)
                have e180_ := px28_
                rw [cw_0, e3_] at e180_
                refine sm_T_inc (a := 2) (z := 1) (v := i_) (w := i_ + 1) rfl rfl (by omega) (by omega) (by omega) ?_
                refine sm_T_go 1 (c1 := (2, [some (.inr (.inr (some (7, 0)))), some (.inl ls_), some (.inl (i_ + 1)), some (.inl (S_.2.2.1 82 0 ((S_.1 7 0 14) - 1).toNat)), some (.inl (S_.2.2.1 84 0 ((S_.1 7 0 16) - 1).toNat)), some (.inl (S_.2.2.1 84 0 ((S_.1 7 0 16) - 2).toNat))], [], Sx25_)) rfl ?_
                refine sm_T_wk [some (.inr (.inr (some (7, 0)))), some (.inl ls_), some (.inl (i_ + 1)), none, none, none] (by exact ⟨rfl, rfl, rfl, trivial⟩) ?_
                refine ih_ (i_ + 1) Sx25_ hIx26_ hFx29_ ⟨?_, ?_, trivial⟩ ?_
                · omega
                · refine ⟨o2_, (if k1_ = 4 then 1 else a1_) :: g2_, k1_ :: c1_, ?_, e180_, ?_, ?_, ?_⟩
                  · rw [y1_]; exact p_se_f rfl (by omega) (by omega)
                  · exact s_ok_ap (by omega) (by split <;> omega) y3_
                  · simp only [List.length_cons] at y4_ ⊢; omega
                  · omega
                · omega
              · have cx22_ : ¬ ((S_.2.2.1 82 0 ((S_.1 7 0 14) - 1).toNat) ≠ 4) := of_decide_eq_false cx22_
                refine sm_T_go 2 (c1 := (175, [some (.inr (.inr (some (7, 0)))), some (.inl ls_), some (.inl i_), some (.inl (S_.2.2.1 82 0 ((S_.1 7 0 14) - 1).toNat)), some (.inl (S_.2.2.1 84 0 ((S_.1 7 0 16) - 1).toNat)), some (.inl (S_.2.2.1 84 0 ((S_.1 7 0 16) - 2).toNat))], [.inl 1, .inl ((S_.1 7 0 16) - 2), .inr (.inr (some (84, 0)))], sm_pI (sm_pI S_ 7 0 14 ((S_.1 7 0 14) - 1)) 7 0 16 ((S_.1 7 0 16) - 1))) rfl ?_
                refine sm_T_iast (n := 488) rfl rfl (by omega) (by omega) ?_
                have hIx30_ : gi (sm_aI (sm_pI (sm_pI S_ 7 0 14 ((S_.1 7 0 14) - 1)) 7 0 16 ((S_.1 7 0 16) - 1)) 84 0 ((S_.1 7 0 16) - 2).toNat 1) := gi_aI hIx14_ (show 0 ≤ 1 ∧ 1 ≤ 255 from ⟨by omega, by omega⟩)
                have hFx31_ : ai_fr (sx_W vw_148) S0_ (sm_aI (sm_pI (sm_pI S_ 7 0 14 ((S_.1 7 0 14) - 1)) 7 0 16 ((S_.1 7 0 16) - 1)) 84 0 ((S_.1 7 0 16) - 2).toNat 1) := ai_fr_tr hFx15_ (ai_fr_aI rfl)
                refine sm_T_go 4 (c1 := (180, [some (.inr (.inr (some (7, 0)))), some (.inl ls_), some (.inl i_), some (.inl (S_.2.2.1 82 0 ((S_.1 7 0 14) - 1).toNat)), some (.inl (S_.2.2.1 84 0 ((S_.1 7 0 16) - 1).toNat)), some (.inl (S_.2.2.1 84 0 ((S_.1 7 0 16) - 2).toNat))], [.inl 0, .inl 0, .inl (S_.2.2.1 82 0 ((S_.1 7 0 14) - 1).toNat), .inr (.inr (some (7, 0)))], sm_aI (sm_pI (sm_pI S_ 7 0 14 ((S_.1 7 0 14) - 1)) 7 0 16 ((S_.1 7 0 16) - 1)) 84 0 ((S_.1 7 0 16) - 2).toNat 1)) rfl ?_
                refine sm_T_cal (d1 := 0) (Q1 := vq_140 (S_.2.2.1 82 0 ((S_.1 7 0 14) - 1).toNat) 0 0 o2_ ((if k1_ = 4 then 1 else a1_) :: g2_) c1_ (sm_aI (sm_pI (sm_pI S_ 7 0 14 ((S_.1 7 0 14) - 1)) 7 0 16 ((S_.1 7 0 16) - 1)) 84 0 ((S_.1 7 0 16) - 2).toNat 1)) rfl rfl (by decide) (vc_140 (S_.2.2.1 82 0 ((S_.1 7 0 14) - 1).toNat) 0 0 o2_ ((if k1_ = 4 then 1 else a1_) :: g2_) c1_ (sm_aI (sm_pI (sm_pI S_ 7 0 14 ((S_.1 7 0 14) - 1)) 7 0 16 ((S_.1 7 0 16) - 1)) 84 0 ((S_.1 7 0 16) - 2).toNat 1) hIx30_ (by refine ⟨?_, ?_, stk_ot x3_.2 (by decide), stk_ot x4_.2 (by decide), stk_pu l4_ ?_ x5_.2.2, x6_, fun z_ => ⟨(x7_ z_).1, stk_ot (x7_ z_).2 (by decide)⟩⟩; ((try simp only [rd_eq, rd_ne, rf_eq, rf_nk, rf_nt, rd_fa, rd_af, rd_fl, rd_al, rd_lf, rd_la, rd_leq, rd_lne, rd_fr, rd_ar, ne_eq, Nat.reduceEqDiff, not_false_eq_true]); omega); ((try simp only [rd_eq, rd_ne, rf_eq, rf_nk, rf_nt, rd_fa, rd_af, rd_fl, rd_al, rd_lf, rd_la, rd_leq, rd_lne, rd_fr, rd_ar, ne_eq, Nat.reduceEqDiff, not_false_eq_true]); simp only [List.length_cons]; push_cast; omega); (first | (rw [if_pos (by omega)]) | (rw [if_neg (by omega)]; exact e6_))) (by omega) (by decide) (by decide) (by simp only [List.length_cons] at y4_; omega)) (fun u_ Sx32_ px35_ => ?_)
                obtain ⟨rfl, hIx33_, hFx34_, px35_⟩ := px35_
                have hFx36_ : ai_fr (sx_W vw_148) S0_ Sx32_ := ai_fr_tr hFx31_ (fr_le hFx34_ rfl)
                have e180_ := px35_
                rw [cw_0, e3_] at e180_
                refine sm_T_inc (a := 2) (z := 1) (v := i_) (w := i_ + 1) rfl rfl (by omega) (by omega) (by omega) ?_
                refine sm_T_go 1 (c1 := (2, [some (.inr (.inr (some (7, 0)))), some (.inl ls_), some (.inl (i_ + 1)), some (.inl (S_.2.2.1 82 0 ((S_.1 7 0 14) - 1).toNat)), some (.inl (S_.2.2.1 84 0 ((S_.1 7 0 16) - 1).toNat)), some (.inl (S_.2.2.1 84 0 ((S_.1 7 0 16) - 2).toNat))], [], Sx32_)) rfl ?_
                refine sm_T_wk [some (.inr (.inr (some (7, 0)))), some (.inl ls_), some (.inl (i_ + 1)), none, none, none] (by exact ⟨rfl, rfl, rfl, trivial⟩) ?_
                refine ih_ (i_ + 1) Sx32_ hIx33_ hFx36_ ⟨?_, ?_, trivial⟩ ?_
                · omega
                · refine ⟨o2_, (if k1_ = 4 then 1 else a1_) :: g2_, k1_ :: c1_, ?_, e180_, ?_, ?_, ?_⟩
                  · rw [y1_]; exact p_se_f rfl (by omega) (by omega)
                  · exact s_ok_ap (by omega) (by split <;> omega) y3_
                  · simp only [List.length_cons] at y4_ ⊢; omega
                  · omega
                · omega
            · have cx21_ : ¬ ((S_.2.2.1 84 0 ((S_.1 7 0 16) - 2).toNat) = (S_.2.2.1 84 0 ((S_.1 7 0 16) - 1).toNat)) := of_decide_eq_false cx21_
              refine sm_T_go 7 (c1 := (150, [some (.inr (.inr (some (7, 0)))), some (.inl ls_), some (.inl i_), some (.inl (S_.2.2.1 82 0 ((S_.1 7 0 14) - 1).toNat)), some (.inl (S_.2.2.1 84 0 ((S_.1 7 0 16) - 1).toNat)), some (.inl (S_.2.2.1 84 0 ((S_.1 7 0 16) - 2).toNat))], [.inl ((S_.1 7 0 14) - 1), .inr (.inr (some (83, 0))), .inl 13, .inr (.inr (some (10, 0)))], sm_pI (sm_pI S_ 7 0 14 ((S_.1 7 0 14) - 1)) 7 0 16 ((S_.1 7 0 16) - 1))) rfl ?_
              refine sm_T_iald (n := 488) rfl rfl (by omega) (by omega) ?_
              have bx37_ : 0 ≤ S_.2.2.1 83 0 ((S_.1 7 0 14) - 1).toNat ∧ S_.2.2.1 83 0 ((S_.1 7 0 14) - 1).toNat ≤ 1280 := hI_.2 83 0 _
              refine sm_T_calx (d1 := 0) (Q1 := vq_187 13 (S_.2.2.1 83 0 ((S_.1 7 0 14) - 1).toNat) (sm_pI (sm_pI S_ 7 0 14 ((S_.1 7 0 14) - 1)) 7 0 16 ((S_.1 7 0 16) - 1))) (Q2 := vx_187 13 (S_.2.2.1 83 0 ((S_.1 7 0 14) - 1).toNat) (sm_pI (sm_pI S_ 7 0 14 ((S_.1 7 0 14) - 1)) 7 0 16 ((S_.1 7 0 16) - 1))) rfl rfl (by decide) (vc_187 13 (S_.2.2.1 83 0 ((S_.1 7 0 14) - 1).toNat) (sm_pI (sm_pI S_ 7 0 14 ((S_.1 7 0 14) - 1)) 7 0 16 ((S_.1 7 0 16) - 1)) hIx14_ (by decide) (by omega)) rfl (fun Sx38_ px41_ => ?_) (fun u_ Sx38_ px41_ => ?_)
              · obtain ⟨hIx39_, hFx40_, px41_⟩ := px41_
                refine Or.inr ⟨_, rfl, hIx39_, ai_fr_tr hFx15_ (fr_le hFx40_ rfl), ?_⟩
                refine ⟨(13, t1_), ?_, px41_.1, px41_.2.trans e4_⟩
                rw [y1_]; exact p_se_e rfl (by omega) (by omega)
              · exact (px41_.2.2.2).elim
          | some jx20_ =>
            refine sm_T_gr rfl rfl qx19_ ?_
            have hmd_ : md_ = true := xs_s y2_ qx19_
            subst hmd_
            refine sm_T_go 6 (c1 := (93, [some (.inr (.inr (some (7, 0)))), some (.inl ls_), some (.inl i_), some (.inl (S_.2.2.1 82 0 ((S_.1 7 0 14) - 1).toNat)), some (.inl (S_.2.2.1 84 0 ((S_.1 7 0 16) - 1).toNat)), some (.inl (S_.2.2.1 84 0 ((S_.1 7 0 16) - 2).toNat))], [.inl 1, .inl ((S_.1 7 0 16) - 1), .inr (.inr (some (84, 0)))], sm_pI (sm_pI S_ 7 0 14 ((S_.1 7 0 14) - 1)) 7 0 16 ((S_.1 7 0 16) - 1))) rfl ?_
            refine sm_T_bin (w := (S_.1 7 0 16) - 2) rfl (bi_sub (by omega) (by omega) (by omega)) ?_
            refine sm_T_go 2 (c1 := (96, [some (.inr (.inr (some (7, 0)))), some (.inl ls_), some (.inl i_), some (.inl (S_.2.2.1 82 0 ((S_.1 7 0 14) - 1).toNat)), some (.inl (S_.2.2.1 84 0 ((S_.1 7 0 16) - 1).toNat)), some (.inl (S_.2.2.1 84 0 ((S_.1 7 0 16) - 2).toNat))], [.inl 1, .inl (S_.2.2.1 82 0 ((S_.1 7 0 14) - 1).toNat), .inl ((S_.1 7 0 16) - 2), .inr (.inr (some (84, 0)))], sm_pI (sm_pI S_ 7 0 14 ((S_.1 7 0 14) - 1)) 7 0 16 ((S_.1 7 0 16) - 1))) rfl ?_
            refine sm_T_br (a := 1) (z := 11) rfl (fun cx43_ => ?_) (fun cx43_ => ?_)
            · have cx43_ : (S_.2.2.1 82 0 ((S_.1 7 0 14) - 1).toNat) ≠ 1 := of_decide_eq_true cx43_
              refine sm_T_go 2 (c1 := (109, [some (.inr (.inr (some (7, 0)))), some (.inl ls_), some (.inl i_), some (.inl (S_.2.2.1 82 0 ((S_.1 7 0 14) - 1).toNat)), some (.inl (S_.2.2.1 84 0 ((S_.1 7 0 16) - 1).toNat)), some (.inl (S_.2.2.1 84 0 ((S_.1 7 0 16) - 2).toNat))], [.inl 2, .inl (S_.2.2.1 82 0 ((S_.1 7 0 14) - 1).toNat), .inl ((S_.1 7 0 16) - 2), .inr (.inr (some (84, 0)))], sm_pI (sm_pI S_ 7 0 14 ((S_.1 7 0 14) - 1)) 7 0 16 ((S_.1 7 0 16) - 1))) rfl ?_
              refine sm_T_br (a := 1) (z := 11) rfl (fun cx44_ => ?_) (fun cx44_ => ?_)
              · have cx44_ : (S_.2.2.1 82 0 ((S_.1 7 0 14) - 1).toNat) ≠ 2 := of_decide_eq_true cx44_
                refine sm_T_go 2 (c1 := (124, [some (.inr (.inr (some (7, 0)))), some (.inl ls_), some (.inl i_), some (.inl (S_.2.2.1 82 0 ((S_.1 7 0 14) - 1).toNat)), some (.inl (S_.2.2.1 84 0 ((S_.1 7 0 16) - 1).toNat)), some (.inl (S_.2.2.1 84 0 ((S_.1 7 0 16) - 2).toNat))], [.inl (S_.2.2.1 84 0 ((S_.1 7 0 16) - 1).toNat), .inl (S_.2.2.1 84 0 ((S_.1 7 0 16) - 2).toNat), .inl ((S_.1 7 0 16) - 2), .inr (.inr (some (84, 0)))], sm_pI (sm_pI S_ 7 0 14 ((S_.1 7 0 14) - 1)) 7 0 16 ((S_.1 7 0 16) - 1))) rfl ?_
                refine sm_T_bin (w := (i_and (S_.2.2.1 84 0 ((S_.1 7 0 16) - 2).toNat) (S_.2.2.1 84 0 ((S_.1 7 0 16) - 1).toNat))) rfl rfl ?_
                have bx45_ := (i_by (x_ := (S_.2.2.1 84 0 ((S_.1 7 0 16) - 2).toNat)) (y_ := (S_.2.2.1 84 0 ((S_.1 7 0 16) - 1).toNat)) ⟨by omega, by omega⟩ ⟨by omega, by omega⟩).2.2
                refine sm_T_iast (n := 488) rfl rfl (by omega) (by omega) ?_
                have hIx46_ : gi (sm_aI (sm_pI (sm_pI S_ 7 0 14 ((S_.1 7 0 14) - 1)) 7 0 16 ((S_.1 7 0 16) - 1)) 84 0 ((S_.1 7 0 16) - 2).toNat (i_and (S_.2.2.1 84 0 ((S_.1 7 0 16) - 2).toNat) (S_.2.2.1 84 0 ((S_.1 7 0 16) - 1).toNat))) := gi_aI hIx14_ (show 0 ≤ (i_and (S_.2.2.1 84 0 ((S_.1 7 0 16) - 2).toNat) (S_.2.2.1 84 0 ((S_.1 7 0 16) - 1).toNat)) ∧ (i_and (S_.2.2.1 84 0 ((S_.1 7 0 16) - 2).toNat) (S_.2.2.1 84 0 ((S_.1 7 0 16) - 1).toNat)) ≤ 255 from ⟨by omega, by omega⟩)
                have hFx47_ : ai_fr (sx_W vw_148) S0_ (sm_aI (sm_pI (sm_pI S_ 7 0 14 ((S_.1 7 0 14) - 1)) 7 0 16 ((S_.1 7 0 16) - 1)) 84 0 ((S_.1 7 0 16) - 2).toNat (i_and (S_.2.2.1 84 0 ((S_.1 7 0 16) - 2).toNat) (S_.2.2.1 84 0 ((S_.1 7 0 16) - 1).toNat))) := ai_fr_tr hFx15_ (ai_fr_aI rfl)
                refine sm_T_go 1 (c1 := (183, [some (.inr (.inr (some (7, 0)))), some (.inl ls_), some (.inl i_), some (.inl (S_.2.2.1 82 0 ((S_.1 7 0 14) - 1).toNat)), some (.inl (S_.2.2.1 84 0 ((S_.1 7 0 16) - 1).toNat)), some (.inl (S_.2.2.1 84 0 ((S_.1 7 0 16) - 2).toNat))], [], sm_aI (sm_pI (sm_pI S_ 7 0 14 ((S_.1 7 0 14) - 1)) 7 0 16 ((S_.1 7 0 16) - 1)) 84 0 ((S_.1 7 0 16) - 2).toNat (i_and (S_.2.2.1 84 0 ((S_.1 7 0 16) - 2).toNat) (S_.2.2.1 84 0 ((S_.1 7 0 16) - 1).toNat)))) rfl ?_
                refine sm_T_inc (a := 2) (z := 1) (v := i_) (w := i_ + 1) rfl rfl (by omega) (by omega) (by omega) ?_
                refine sm_T_go 1 (c1 := (2, [some (.inr (.inr (some (7, 0)))), some (.inl ls_), some (.inl (i_ + 1)), some (.inl (S_.2.2.1 82 0 ((S_.1 7 0 14) - 1).toNat)), some (.inl (S_.2.2.1 84 0 ((S_.1 7 0 16) - 1).toNat)), some (.inl (S_.2.2.1 84 0 ((S_.1 7 0 16) - 2).toNat))], [], sm_aI (sm_pI (sm_pI S_ 7 0 14 ((S_.1 7 0 14) - 1)) 7 0 16 ((S_.1 7 0 16) - 1)) 84 0 ((S_.1 7 0 16) - 2).toNat (i_and (S_.2.2.1 84 0 ((S_.1 7 0 16) - 2).toNat) (S_.2.2.1 84 0 ((S_.1 7 0 16) - 1).toNat)))) rfl ?_
                refine sm_T_wk [some (.inr (.inr (some (7, 0)))), some (.inl ls_), some (.inl (i_ + 1)), none, none, none] (by exact ⟨rfl, rfl, rfl, trivial⟩) ?_
                refine ih_ (i_ + 1) (sm_aI (sm_pI (sm_pI S_ 7 0 14 ((S_.1 7 0 14) - 1)) 7 0 16 ((S_.1 7 0 16) - 1)) 84 0 ((S_.1 7 0 16) - 2).toNat (i_and (S_.2.2.1 84 0 ((S_.1 7 0 16) - 2).toNat) (S_.2.2.1 84 0 ((S_.1 7 0 16) - 1).toNat))) hIx46_ hFx47_ ⟨?_, ?_, trivial⟩ ?_
                · omega
                · refine ⟨o2_, p_lo k1_ a1_ b1_ :: g2_, c1_, ?_, ?_, ?_, ?_, ?_⟩
                  · rw [y1_]; exact p_se_t rfl (by omega)
                  · refine ⟨?_, ?_, stk_ot x3_.2 (by decide), stk_ot x4_.2 (by decide), stk_pu l4_ ?_ x5_.2.2, x6_, fun z_ => absurd z_ (by decide)⟩
                    · (try simp only [rd_eq, rd_ne, rf_eq, rf_nk, rf_nt, rd_fa, rd_af, rd_fl, rd_al, rd_lf, rd_la, rd_leq, rd_lne, rd_fr, rd_ar, ne_eq, Nat.reduceEqDiff, not_false_eq_true]); omega
                    · (try simp only [rd_eq, rd_ne, rf_eq, rf_nk, rf_nt, rd_fa, rd_af, rd_fl, rd_al, rd_lf, rd_la, rd_leq, rd_lne, rd_fr, rd_ar, ne_eq, Nat.reduceEqDiff, not_false_eq_true]); simp only [List.length_cons]; push_cast; omega
                    · unfold p_lo; rw [e5_, e6_]; first | (rw [if_pos (by omega)]) | (rw [if_neg (by omega), if_pos (by omega)]) | (rw [if_neg (by omega), if_neg (by omega)])
                  · exact s_ok_ap (by omega) (p_lo_b ⟨by omega, by omega⟩ ⟨by omega, by omega⟩) y3_
                  · simp only [List.length_cons] at y4_; omega
                  · omega
                · omega
              · have cx44_ : ¬ ((S_.2.2.1 82 0 ((S_.1 7 0 14) - 1).toNat) ≠ 2) := of_decide_eq_false cx44_
                refine sm_T_go 2 (c1 := (116, [some (.inr (.inr (some (7, 0)))), some (.inl ls_), some (.inl i_), some (.inl (S_.2.2.1 82 0 ((S_.1 7 0 14) - 1).toNat)), some (.inl (S_.2.2.1 84 0 ((S_.1 7 0 16) - 1).toNat)), some (.inl (S_.2.2.1 84 0 ((S_.1 7 0 16) - 2).toNat))], [.inl (S_.2.2.1 84 0 ((S_.1 7 0 16) - 1).toNat), .inl (S_.2.2.1 84 0 ((S_.1 7 0 16) - 2).toNat), .inl ((S_.1 7 0 16) - 2), .inr (.inr (some (84, 0)))], sm_pI (sm_pI S_ 7 0 14 ((S_.1 7 0 14) - 1)) 7 0 16 ((S_.1 7 0 16) - 1))) rfl ?_
                refine sm_T_bin (w := (i_xor (S_.2.2.1 84 0 ((S_.1 7 0 16) - 2).toNat) (S_.2.2.1 84 0 ((S_.1 7 0 16) - 1).toNat))) rfl rfl ?_
                have bx48_ := (i_by (x_ := (S_.2.2.1 84 0 ((S_.1 7 0 16) - 2).toNat)) (y_ := (S_.2.2.1 84 0 ((S_.1 7 0 16) - 1).toNat)) ⟨by omega, by omega⟩ ⟨by omega, by omega⟩).2.1
                refine sm_T_go 1 (c1 := (125, [some (.inr (.inr (some (7, 0)))), some (.inl ls_), some (.inl i_), some (.inl (S_.2.2.1 82 0 ((S_.1 7 0 14) - 1).toNat)), some (.inl (S_.2.2.1 84 0 ((S_.1 7 0 16) - 1).toNat)), some (.inl (S_.2.2.1 84 0 ((S_.1 7 0 16) - 2).toNat))], [.inl (i_xor (S_.2.2.1 84 0 ((S_.1 7 0 16) - 2).toNat) (S_.2.2.1 84 0 ((S_.1 7 0 16) - 1).toNat)), .inl ((S_.1 7 0 16) - 2), .inr (.inr (some (84, 0)))], sm_pI (sm_pI S_ 7 0 14 ((S_.1 7 0 14) - 1)) 7 0 16 ((S_.1 7 0 16) - 1))) rfl ?_
                refine sm_T_iast (n := 488) rfl rfl (by omega) (by omega) ?_
                have hIx49_ : gi (sm_aI (sm_pI (sm_pI S_ 7 0 14 ((S_.1 7 0 14) - 1)) 7 0 16 ((S_.1 7 0 16) - 1)) 84 0 ((S_.1 7 0 16) - 2).toNat (i_xor (S_.2.2.1 84 0 ((S_.1 7 0 16) - 2).toNat) (S_.2.2.1 84 0 ((S_.1 7 0 16) - 1).toNat))) := gi_aI hIx14_ (show 0 ≤ (i_xor (S_.2.2.1 84 0 ((S_.1 7 0 16) - 2).toNat) (S_.2.2.1 84 0 ((S_.1 7 0 16) - 1).toNat)) ∧ (i_xor (S_.2.2.1 84 0 ((S_.1 7 0 16) - 2).toNat) (S_.2.2.1 84 0 ((S_.1 7 0 16) - 1).toNat)) ≤ 255 from ⟨by omega, by omega⟩)
                have hFx50_ : ai_fr (sx_W vw_148) S0_ (sm_aI (sm_pI (sm_pI S_ 7 0 14 ((S_.1 7 0 14) - 1)) 7 0 16 ((S_.1 7 0 16) - 1)) 84 0 ((S_.1 7 0 16) - 2).toNat (i_xor (S_.2.2.1 84 0 ((S_.1 7 0 16) - 2).toNat) (S_.2.2.1 84 0 ((S_.1 7 0 16) - 1).toNat))) := ai_fr_tr hFx15_ (ai_fr_aI rfl)
                refine sm_T_go 1 (c1 := (183, [some (.inr (.inr (some (7, 0)))), some (.inl ls_), some (.inl i_), some (.inl (S_.2.2.1 82 0 ((S_.1 7 0 14) - 1).toNat)), some (.inl (S_.2.2.1 84 0 ((S_.1 7 0 16) - 1).toNat)), some (.inl (S_.2.2.1 84 0 ((S_.1 7 0 16) - 2).toNat))], [], sm_aI (sm_pI (sm_pI S_ 7 0 14 ((S_.1 7 0 14) - 1)) 7 0 16 ((S_.1 7 0 16) - 1)) 84 0 ((S_.1 7 0 16) - 2).toNat (i_xor (S_.2.2.1 84 0 ((S_.1 7 0 16) - 2).toNat) (S_.2.2.1 84 0 ((S_.1 7 0 16) - 1).toNat)))) rfl ?_
                refine sm_T_inc (a := 2) (z := 1) (v := i_) (w := i_ + 1) rfl rfl (by omega) (by omega) (by omega) ?_
                refine sm_T_go 1 (c1 := (2, [some (.inr (.inr (some (7, 0)))), some (.inl ls_), some (.inl (i_ + 1)), some (.inl (S_.2.2.1 82 0 ((S_.1 7 0 14) - 1).toNat)), some (.inl (S_.2.2.1 84 0 ((S_.1 7 0 16) - 1).toNat)), some (.inl (S_.2.2.1 84 0 ((S_.1 7 0 16) - 2).toNat))], [], sm_aI (sm_pI (sm_pI S_ 7 0 14 ((S_.1 7 0 14) - 1)) 7 0 16 ((S_.1 7 0 16) - 1)) 84 0 ((S_.1 7 0 16) - 2).toNat (i_xor (S_.2.2.1 84 0 ((S_.1 7 0 16) - 2).toNat) (S_.2.2.1 84 0 ((S_.1 7 0 16) - 1).toNat)))) rfl ?_
                refine sm_T_wk [some (.inr (.inr (some (7, 0)))), some (.inl ls_), some (.inl (i_ + 1)), none, none, none] (by exact ⟨rfl, rfl, rfl, trivial⟩) ?_
                refine ih_ (i_ + 1) (sm_aI (sm_pI (sm_pI S_ 7 0 14 ((S_.1 7 0 14) - 1)) 7 0 16 ((S_.1 7 0 16) - 1)) 84 0 ((S_.1 7 0 16) - 2).toNat (i_xor (S_.2.2.1 84 0 ((S_.1 7 0 16) - 2).toNat) (S_.2.2.1 84 0 ((S_.1 7 0 16) - 1).toNat))) hIx49_ hFx50_ ⟨?_, ?_, trivial⟩ ?_
                · omega
                · refine ⟨o2_, p_lo k1_ a1_ b1_ :: g2_, c1_, ?_, ?_, ?_, ?_, ?_⟩
                  · rw [y1_]; exact p_se_t rfl (by omega)
                  · refine ⟨?_, ?_, stk_ot x3_.2 (by decide), stk_ot x4_.2 (by decide), stk_pu l4_ ?_ x5_.2.2, x6_, fun z_ => absurd z_ (by decide)⟩
                    · (try simp only [rd_eq, rd_ne, rf_eq, rf_nk, rf_nt, rd_fa, rd_af, rd_fl, rd_al, rd_lf, rd_la, rd_leq, rd_lne, rd_fr, rd_ar, ne_eq, Nat.reduceEqDiff, not_false_eq_true]); omega
                    · (try simp only [rd_eq, rd_ne, rf_eq, rf_nk, rf_nt, rd_fa, rd_af, rd_fl, rd_al, rd_lf, rd_la, rd_leq, rd_lne, rd_fr, rd_ar, ne_eq, Nat.reduceEqDiff, not_false_eq_true]); simp only [List.length_cons]; push_cast; omega
                    · unfold p_lo; rw [e5_, e6_]; first | (rw [if_pos (by omega)]) | (rw [if_neg (by omega), if_pos (by omega)]) | (rw [if_neg (by omega), if_neg (by omega)])
                  · exact s_ok_ap (by omega) (p_lo_b ⟨by omega, by omega⟩ ⟨by omega, by omega⟩) y3_
                  · simp only [List.length_cons] at y4_; omega
                  · omega
                · omega
            · have cx43_ : ¬ ((S_.2.2.1 82 0 ((S_.1 7 0 14) - 1).toNat) ≠ 1) := of_decide_eq_false cx43_
              refine sm_T_go 2 (c1 := (103, [some (.inr (.inr (some (7, 0)))), some (.inl ls_), some (.inl i_), some (.inl (S_.2.2.1 82 0 ((S_.1 7 0 14) - 1).toNat)), some (.inl (S_.2.2.1 84 0 ((S_.1 7 0 16) - 1).toNat)), some (.inl (S_.2.2.1 84 0 ((S_.1 7 0 16) - 2).toNat))], [.inl (S_.2.2.1 84 0 ((S_.1 7 0 16) - 1).toNat), .inl (S_.2.2.1 84 0 ((S_.1 7 0 16) - 2).toNat), .inl ((S_.1 7 0 16) - 2), .inr (.inr (some (84, 0)))], sm_pI (sm_pI S_ 7 0 14 ((S_.1 7 0 14) - 1)) 7 0 16 ((S_.1 7 0 16) - 1))) rfl ?_
              refine sm_T_bin (w := (i_or (S_.2.2.1 84 0 ((S_.1 7 0 16) - 2).toNat) (S_.2.2.1 84 0 ((S_.1 7 0 16) - 1).toNat))) rfl rfl ?_
              have bx51_ := (i_by (x_ := (S_.2.2.1 84 0 ((S_.1 7 0 16) - 2).toNat)) (y_ := (S_.2.2.1 84 0 ((S_.1 7 0 16) - 1).toNat)) ⟨by omega, by omega⟩ ⟨by omega, by omega⟩).1
              refine sm_T_go 1 (c1 := (125, [some (.inr (.inr (some (7, 0)))), some (.inl ls_), some (.inl i_), some (.inl (S_.2.2.1 82 0 ((S_.1 7 0 14) - 1).toNat)), some (.inl (S_.2.2.1 84 0 ((S_.1 7 0 16) - 1).toNat)), some (.inl (S_.2.2.1 84 0 ((S_.1 7 0 16) - 2).toNat))], [.inl (i_or (S_.2.2.1 84 0 ((S_.1 7 0 16) - 2).toNat) (S_.2.2.1 84 0 ((S_.1 7 0 16) - 1).toNat)), .inl ((S_.1 7 0 16) - 2), .inr (.inr (some (84, 0)))], sm_pI (sm_pI S_ 7 0 14 ((S_.1 7 0 14) - 1)) 7 0 16 ((S_.1 7 0 16) - 1))) rfl ?_
              refine sm_T_iast (n := 488) rfl rfl (by omega) (by omega) ?_
              have hIx52_ : gi (sm_aI (sm_pI (sm_pI S_ 7 0 14 ((S_.1 7 0 14) - 1)) 7 0 16 ((S_.1 7 0 16) - 1)) 84 0 ((S_.1 7 0 16) - 2).toNat (i_or (S_.2.2.1 84 0 ((S_.1 7 0 16) - 2).toNat) (S_.2.2.1 84 0 ((S_.1 7 0 16) - 1).toNat))) := gi_aI hIx14_ (show 0 ≤ (i_or (S_.2.2.1 84 0 ((S_.1 7 0 16) - 2).toNat) (S_.2.2.1 84 0 ((S_.1 7 0 16) - 1).toNat)) ∧ (i_or (S_.2.2.1 84 0 ((S_.1 7 0 16) - 2).toNat) (S_.2.2.1 84 0 ((S_.1 7 0 16) - 1).toNat)) ≤ 255 from ⟨by omega, by omega⟩)
              have hFx53_ : ai_fr (sx_W vw_148) S0_ (sm_aI (sm_pI (sm_pI S_ 7 0 14 ((S_.1 7 0 14) - 1)) 7 0 16 ((S_.1 7 0 16) - 1)) 84 0 ((S_.1 7 0 16) - 2).toNat (i_or (S_.2.2.1 84 0 ((S_.1 7 0 16) - 2).toNat) (S_.2.2.1 84 0 ((S_.1 7 0 16) - 1).toNat))) := ai_fr_tr hFx15_ (ai_fr_aI rfl)
              refine sm_T_go 1 (c1 := (183, [some (.inr (.inr (some (7, 0)))), some (.inl ls_), some (.inl i_), some (.inl (S_.2.2.1 82 0 ((S_.1 7 0 14) - 1).toNat)), some (.inl (S_.2.2.1 84 0 ((S_.1 7 0 16) - 1).toNat)), some (.inl (S_.2.2.1 84 0 ((S_.1 7 0 16) - 2).toNat))], [], sm_aI (sm_pI (sm_pI S_ 7 0 14 ((S_.1 7 0 14) - 1)) 7 0 16 ((S_.1 7 0 16) - 1)) 84 0 ((S_.1 7 0 16) - 2).toNat (i_or (S_.2.2.1 84 0 ((S_.1 7 0 16) - 2).toNat) (S_.2.2.1 84 0 ((S_.1 7 0 16) - 1).toNat)))) rfl ?_
              refine sm_T_inc (a := 2) (z := 1) (v := i_) (w := i_ + 1) rfl rfl (by omega) (by omega) (by omega) ?_
              refine sm_T_go 1 (c1 := (2, [some (.inr (.inr (some (7, 0)))), some (.inl ls_), some (.inl (i_ + 1)), some (.inl (S_.2.2.1 82 0 ((S_.1 7 0 14) - 1).toNat)), some (.inl (S_.2.2.1 84 0 ((S_.1 7 0 16) - 1).toNat)), some (.inl (S_.2.2.1 84 0 ((S_.1 7 0 16) - 2).toNat))], [], sm_aI (sm_pI (sm_pI S_ 7 0 14 ((S_.1 7 0 14) - 1)) 7 0 16 ((S_.1 7 0 16) - 1)) 84 0 ((S_.1 7 0 16) - 2).toNat (i_or (S_.2.2.1 84 0 ((S_.1 7 0 16) - 2).toNat) (S_.2.2.1 84 0 ((S_.1 7 0 16) - 1).toNat)))) rfl ?_
              refine sm_T_wk [some (.inr (.inr (some (7, 0)))), some (.inl ls_), some (.inl (i_ + 1)), none, none, none] (by exact ⟨rfl, rfl, rfl, trivial⟩) ?_
              refine ih_ (i_ + 1) (sm_aI (sm_pI (sm_pI S_ 7 0 14 ((S_.1 7 0 14) - 1)) 7 0 16 ((S_.1 7 0 16) - 1)) 84 0 ((S_.1 7 0 16) - 2).toNat (i_or (S_.2.2.1 84 0 ((S_.1 7 0 16) - 2).toNat) (S_.2.2.1 84 0 ((S_.1 7 0 16) - 1).toNat))) hIx52_ hFx53_ ⟨?_, ?_, trivial⟩ ?_
              · omega
              · refine ⟨o2_, p_lo k1_ a1_ b1_ :: g2_, c1_, ?_, ?_, ?_, ?_, ?_⟩
                · rw [y1_]; exact p_se_t rfl (by omega)
                · refine ⟨?_, ?_, stk_ot x3_.2 (by decide), stk_ot x4_.2 (by decide), stk_pu l4_ ?_ x5_.2.2, x6_, fun z_ => absurd z_ (by decide)⟩
                  · (try simp only [rd_eq, rd_ne, rf_eq, rf_nk, rf_nt, rd_fa, rd_af, rd_fl, rd_al, rd_lf, rd_la, rd_leq, rd_lne, rd_fr, rd_ar, ne_eq, Nat.reduceEqDiff, not_false_eq_true]); omega
                  · (try simp only [rd_eq, rd_ne, rf_eq, rf_nk, rf_nt, rd_fa, rd_af, rd_fl, rd_al, rd_lf, rd_la, rd_leq, rd_lne, rd_fr, rd_ar, ne_eq, Nat.reduceEqDiff, not_false_eq_true]); simp only [List.length_cons]; push_cast; omega
                  · unfold p_lo; rw [e5_, e6_]; first | (rw [if_pos (by omega)]) | (rw [if_neg (by omega), if_pos (by omega)]) | (rw [if_neg (by omega), if_neg (by omega)])
                · exact s_ok_ap (by omega) (p_lo_b ⟨by omega, by omega⟩ ⟨by omega, by omega⟩) y3_
                · simp only [List.length_cons] at y4_; omega
                · omega
              · omega
set_option maxHeartbeats 400000 in
set_option maxRecDepth 20000 in
theorem vc_148 {sc_ : Nat × (Nat → Int)} (ls_ : Int) (md_ : Bool) (o_ : List (Int × Nat)) (g_ : List Int) (c_ : List Int) (S0_ : sm_S) (hI_ : gi S0_) (hx_ : xs md_ o_ g_ c_ S0_) (hs_ : s_ok md_ 1 (o_, g_, c_)) (hl_ : 1 ≤ ls_) (hc_ : c_.length + o_.length ≤ 65535) : sm_T (mt_P sc_) 2 148 (0, [some (.inr (.inr (some (7, 0)))), some (.inl ls_), none, none, none, none], [], S0_) (fun r_ => (∃ u_ S1_, r_ = (.inl u_, S1_, 0) ∧ vq_148 ls_ md_ o_ g_ c_ S0_ u_ S1_) ∨ ∃ S1_, r_ = (.inr 2, S1_, 1) ∧ vx_148 ls_ md_ o_ g_ c_ S0_ S1_) := by
  have hF_ : ai_fr (sx_W vw_148) S0_ S0_ := ai_fr_rf
  refine sm_T_go 2 (c1 := (2, [some (.inr (.inr (some (7, 0)))), some (.inl ls_), some (.inl 0), none, none, none], [], S0_)) rfl ?_
  refine (vl_148 ls_ md_ o_ g_ c_ S0_ hx_ hs_ hl_ hc_ _) 0 S0_ hI_ hF_ ⟨?_, ?_, trivial⟩ (Nat.lt_succ_self _)
  · omega
  · refine ⟨o_, g_, c_, rfl, hx_, hs_, hc_, ?_⟩
    have := o_tp5 hs_.1
    show o_tp o_ ≤ 5 - 0
    have : o_tp o_ ≤ 5 := this.2
    omega
end
/-! 99.x3b -/
section
/-! Reader.openUp -/
def vw_136 : sx_Wl := ([(7, 14), (7, 17), (10, 6), (10, 7)], [82, 83], [])
def vq_136 (k_ : Int) (md_ : Bool) (o_ : List (Int × Nat)) (g_ : List Int) (c_ : List Int) (b_ : Nat → Int) (n_ : Nat) (p_ : Nat) (S0_ : sm_S) (u_ : Option sm_V) (S1_ : sm_S) : Prop := u_ = none ∧ gi S1_ ∧ ai_fr (sx_W vw_136) S0_ S1_ ∧ (o_mk o_ ≠ 60 ∧ xr md_ ((k_, p_) :: o_) g_ c_ S1_)
def vx_136 (k_ : Int) (md_ : Bool) (o_ : List (Int × Nat)) (g_ : List Int) (c_ : List Int) (b_ : Nat → Int) (n_ : Nat) (p_ : Nat) (S0_ : sm_S) (S1_ : sm_S) : Prop := gi S1_ ∧ ai_fr (sx_W vw_136) S0_ S1_ ∧ (o_mk o_ = 60 ∧ ter S1_ (3, p_))
set_option maxHeartbeats 400000 in
theorem vc_136 {sc_ : Nat × (Nat → Int)} (k_ : Int) (md_ : Bool) (o_ : List (Int × Nat)) (g_ : List Int) (c_ : List Int) (b_ : Nat → Int) (n_ : Nat) (p_ : Nat) (S0_ : sm_S) (hI_ : gi S0_) (hx_ : xr md_ o_ g_ c_ S0_) (hc_ : ct b_ n_ p_ S0_) (hk_ : -4 ≤ k_ ∧ k_ ≤ -1) (ho_ : o_.length ≤ 487) : sm_T (mt_P sc_) 1 136 (0, [some (.inr (.inr (some (7, 0)))), some (.inl k_)], [], S0_) (fun r_ => (∃ u_ S1_, r_ = (.inl u_, S1_, 0) ∧ vq_136 k_ md_ o_ g_ c_ b_ n_ p_ S0_ u_ S1_) ∨ ∃ S1_, r_ = (.inr 2, S1_, 1) ∧ vx_136 k_ md_ o_ g_ c_ b_ n_ p_ S0_ S1_) := by
  have hF_ : ai_fr (sx_W vw_136) S0_ S0_ := ai_fr_rf
  obtain ⟨hx0_, hx1_⟩ := id hx_
  have e3_ := hc_.2.2.2.2.2.1
  have hn1_ := hc_.2.2.1
  have hp1_ := hc_.2.2.2.1
  have bx1_ : 0 ≤ S0_.1 7 0 17 ∧ S0_.1 7 0 17 ≤ 60 := hI_.1 7 0 17 rfl
  refine sm_T_go 3 (c1 := (6, [some (.inr (.inr (some (7, 0)))), some (.inl k_)], [.inl 60, .inl (S0_.1 7 0 17)], S0_)) rfl ?_
  refine sm_T_br (a := 1) (z := 18) rfl (fun cx2_ => ?_) (fun cx2_ => ?_)
  · have cx2_ : (S0_.1 7 0 17) ≠ 60 := of_decide_eq_true cx2_
    refine sm_T_go 4 (c1 := (30, [some (.inr (.inr (some (7, 0)))), some (.inl k_)], [.inl 1, .inl (S0_.1 7 0 17), .inr (.inr (some (7, 0)))], S0_)) rfl ?_
    refine sm_T_bin (w := (S0_.1 7 0 17) + 1) rfl (bi_add (by omega) (by omega) (by omega)) ?_
    have hIx3_ : gi (sm_pI S0_ 7 0 17 ((S0_.1 7 0 17) + 1)) := gi_pI hI_ (show 0 ≤ (S0_.1 7 0 17) + 1 ∧ (S0_.1 7 0 17) + 1 ≤ 60 from ⟨by omega, by omega⟩)
    have hFx4_ : ai_fr (sx_W vw_136) S0_ (sm_pI S0_ 7 0 17 ((S0_.1 7 0 17) + 1)) := ai_fr_tr hF_ (ai_fr_pI rfl)
    refine sm_T_go 3 (c1 := (36, [some (.inr (.inr (some (7, 0)))), some (.inl k_)], [.inl k_, .inr (.inr (some (7, 0)))], sm_pI S0_ 7 0 17 ((S0_.1 7 0 17) + 1))) rfl ?_
    refine sm_T_cal (d1 := 0) (Q1 := vq_137 k_ md_ o_ g_ c_ b_ n_ p_ (sm_pI S0_ 7 0 17 ((S0_.1 7 0 17) + 1))) rfl rfl (by decide) (vc_137 k_ md_ o_ g_ c_ b_ n_ p_ (sm_pI S0_ 7 0 17 ((S0_.1 7 0 17) + 1)) hIx3_ (by exact hx0_) (by exact hc_) (by omega) (by exact ho_)) (fun u_ Sx5_ px8_ => ?_)
    obtain ⟨rfl, hIx6_, hFx7_, px8_⟩ := px8_
    have hFx9_ : ai_fr (sx_W vw_136) S0_ Sx5_ := ai_fr_tr hFx4_ (fr_le hFx7_ rfl)
    have e36_ := px8_
    have f36_ := hFx7_.1 7 0 17 rfl
    refine sm_T_rv rfl (Or.inl ⟨_, _, rfl, rfl, hIx6_, hFx9_, ?_⟩)
    refine ⟨by omega, e36_, ?_⟩
    rw [f36_]
    (try simp only [rd_eq, rd_ne, rf_eq, rf_nk, rf_nt, rd_fa, rd_af, rd_fl, rd_al, rd_lf, rd_la, rd_leq, rd_lne, rd_fr, rd_ar, ne_eq, Nat.reduceEqDiff, not_false_eq_true])
    show _ = (((if k_ < 0 then 1 else 0) + o_mk o_ : Nat) : Int)
    rw [if_pos (by omega)]
    push_cast
    omega
  · have cx2_ : ¬ ((S0_.1 7 0 17) ≠ 60) := of_decide_eq_false cx2_
    have bx10_ : 0 ≤ S0_.1 10 0 3 ∧ S0_.1 10 0 3 ≤ 1280 := hI_.1 10 0 3 rfl
    refine sm_T_go 6 (c1 := (21, [some (.inr (.inr (some (7, 0)))), some (.inl k_)], [.inl (S0_.1 10 0 3), .inl 3, .inr (.inr (some (10, 0)))], S0_)) rfl ?_
    refine sm_T_calx (d1 := 0) (Q1 := vq_187 3 (S0_.1 10 0 3) S0_) (Q2 := vx_187 3 (S0_.1 10 0 3) S0_) rfl rfl (by decide) (vc_187 3 (S0_.1 10 0 3) S0_ hI_ (by decide) (by omega)) rfl (fun Sx11_ px14_ => ?_) (fun u_ Sx11_ px14_ => ?_)
    · obtain ⟨hIx12_, hFx13_, px14_⟩ := px14_
      refine Or.inr ⟨_, rfl, hIx12_, ai_fr_tr hF_ (fr_le hFx13_ rfl), ?_⟩
      exact ⟨by omega, px14_.1, px14_.2.trans e3_⟩
    · exact (px14_.2.2.2).elim
end
/-! 99.x3c -/
section
/-! Reader.readOpenings -/
def vw_135 : sx_Wl := ([(7, 14), (7, 17), (10, 2), (10, 3), (10, 4), (10, 5), (10, 6), (10, 7), (10, 8)], [82, 83], [])
def vq_135 (b_ : Nat → Int) (n_ : Nat) (md_ : Bool) (pr_ : pPr) (R_ : pE pR) (o_ : List (Int × Nat)) (g_ : List Int) (c_ : List Int) (p_ : Nat) (S0_ : sm_S) (u_ : Option sm_V) (S1_ : sm_S) : Prop := ∃ v_ : Int, u_ = some (.inl v_) ∧ gi S1_ ∧ ai_fr (sx_W vw_135) S0_ S1_ ∧ (∃ (t_ : Bool) (o1_ : List (Int × Nat)) (q_ : Nat), v_ = (if t_ = true then 1 else 0) ∧ xr md_ o1_ g_ c_ S1_ ∧ ct b_ n_ q_ S1_ ∧ x_ok b_ n_ md_ (0, t_, q_, o1_, g_, c_) ∧ p_xx b_ n_ md_ pr_ (0, t_, q_, o1_, g_, c_) R_ ∧ lx_kd b_ n_ q_ ≠ 33 ∧ lx_kd b_ n_ q_ ≠ 40 ∧ p_ ≤ q_)
def vx_135 (b_ : Nat → Int) (n_ : Nat) (md_ : Bool) (pr_ : pPr) (R_ : pE pR) (o_ : List (Int × Nat)) (g_ : List Int) (c_ : List Int) (p_ : Nat) (S0_ : sm_S) (S1_ : sm_S) : Prop := gi S1_ ∧ ai_fr (sx_W vw_135) S0_ S1_ ∧ (∃ e_, R_ = .inl e_ ∧ ter S1_ e_)
set_option maxHeartbeats 400000 in
theorem vl_135 {sc_ : Nat × (Nat → Int)} (b_ : Nat → Int) (n_ : Nat) (md_ : Bool) (pr_ : pPr) (R_ : pE pR) (o_ : List (Int × Nat)) (g_ : List Int) (c_ : List Int) (p_ : Nat) (S0_ : sm_S) (hx_ : xr md_ o_ g_ c_ S0_) (hc_ : ct b_ n_ p_ S0_) (hpr_ : pr_ok b_ n_ pr_) (hok_ : x_ok b_ n_ md_ (0, false, p_, o_, g_, c_)) (hR_ : p_xx b_ n_ md_ pr_ (0, false, p_, o_, g_, c_) R_) : ∀ nn_ : Nat, (∀ (t_ : Int) (i_ : Int) (S_ : sm_S), gi S_ → ai_fr (sx_W vw_135) S0_ S_ → ((0 ≤ i_ ∧ i_ ≤ (S_.1 10 0 3)) ∧ (∃ (tb_ : Bool) (o1_ : List (Int × Nat)) (q_ : Nat), t_ = (if tb_ = true then 1 else 0) ∧ xr md_ o1_ g_ c_ S_ ∧ ct b_ n_ q_ S_ ∧ x_ok b_ n_ md_ (0, tb_, q_, o1_, g_, c_) ∧ p_xx b_ n_ md_ pr_ (0, tb_, q_, o1_, g_, c_) R_ ∧ p_ ≤ q_) ∧ True) → ((1300 - (S_.1 10 0 3)).toNat) < nn_ → sm_T (mt_P sc_) 2 135 (4, [some (.inr (.inr (some (7, 0)))), some (.inl t_), some (.inl i_)], [], S_) (fun r_ => (∃ u_ S1_, r_ = (.inl u_, S1_, 0) ∧ vq_135 b_ n_ md_ pr_ R_ o_ g_ c_ p_ S0_ u_ S1_) ∨ ∃ S1_, r_ = (.inr 2, S1_, 1) ∧ vx_135 b_ n_ md_ pr_ R_ o_ g_ c_ p_ S0_ S1_)) := by
  intro nn_
  induction nn_ with
  | zero => exact fun _ _ _ _ _ _ h_ => absurd h_ (Nat.not_lt_zero _)
  | succ nn_ ih_ =>
    rintro t_ i_ S_ hI_ hF_ ⟨h0_, h1_, -⟩ hm_
    obtain ⟨tb_, o1_, q_, y1_, y2_, y3_, y4_, y5_, y6_⟩ := h1_
    have e3_ := y3_.2.2.2.2.2.1
    have e2_ := y3_.2.2.2.2.2.2.2.1
    have hn1_ := y3_.2.2.1
    have hp1_ := y3_.2.2.2.1
    have hol_ := o_lim y4_.2.1.1 y4_.2.1.2.1
    have hol1_ : o1_.length ≤ 365 := hol_.1
    refine sm_T_go 1 (c1 := (5, [some (.inr (.inr (some (7, 0)))), some (.inl t_), some (.inl i_)], [.inl i_], S_)) rfl ?_
    refine sm_T_nt (u := some (.inl 65536)) (S1 := S_) rfl rfl rfl ?_
    refine sm_T_br (a := 3) (z := 74) rfl (fun cx1_ => ?_) (fun cx1_ => ?_)
    · have cx1_ : 65536 ≤ i_ := of_decide_eq_true cx1_
      exfalso; omega
    · have cx1_ : ¬ (65536 ≤ i_) := of_decide_eq_false cx1_
      have bx2_ : (-128) ≤ S_.1 10 0 2 ∧ S_.1 10 0 2 ≤ 257 := hI_.1 10 0 2 rfl
      refine sm_T_go 4 (c1 := (19, [some (.inr (.inr (some (7, 0)))), some (.inl t_), some (.inl i_)], [.inl 33, .inl (S_.1 10 0 2)], S_)) rfl ?_
      refine sm_T_br (a := 1) (z := 16) rfl (fun cx3_ => ?_) (fun cx3_ => ?_)
      · have cx3_ : (S_.1 10 0 2) ≠ 33 := of_decide_eq_true cx3_
        refine sm_T_go 4 (c1 := (44, [some (.inr (.inr (some (7, 0)))), some (.inl t_), some (.inl i_)], [.inl 40, .inl (S_.1 10 0 2)], S_)) rfl ?_
        refine sm_T_br (a := 1) (z := 22) rfl (fun cx4_ => ?_) (fun cx4_ => ?_)
        · have cx4_ : (S_.1 10 0 2) ≠ 40 := of_decide_eq_true cx4_
          refine sm_T_go 1 (c1 := (67, [some (.inr (.inr (some (7, 0)))), some (.inl t_), some (.inl i_)], [.inl t_], S_)) rfl ?_
          refine sm_T_rz rfl (by omega) (Or.inl ⟨_, _, rfl, _, rfl, hI_, hF_, ?_⟩)
          refine ⟨tb_, o1_, q_, y1_, y2_, y3_, y4_, y5_, by omega, by omega, y6_⟩
        · have cx4_ : ¬ ((S_.1 10 0 2) ≠ 40) := of_decide_eq_false cx4_
          refine sm_T_go 2 (c1 := (49, [some (.inr (.inr (some (7, 0)))), some (.inl t_), some (.inl i_)], [.inl t_, .inr (.inr (some (7, 0)))], S_)) rfl ?_
          refine sm_T_b0 (a := 0) (z := 8) rfl (fun cx5_ => ?_) (fun cx5_ => ?_)
          · have cx5_ : t_ = 0 := of_decide_eq_true cx5_
            have ht_ : tb_ = false := by cases tb_; rfl; (rw [if_pos rfl] at y1_; omega)
            refine sm_T_go 1 (c1 := (58, [some (.inr (.inr (some (7, 0)))), some (.inl t_), some (.inl i_)], [.inl (-1), .inr (.inr (some (7, 0)))], S_)) rfl ?_
            refine sm_T_calx (d1 := 1) (Q1 := vq_136 (-1) md_ o1_ g_ c_ b_ n_ q_ S_) (Q2 := vx_136 (-1) md_ o1_ g_ c_ b_ n_ q_ S_) rfl rfl (by decide) (vc_136 (-1) md_ o1_ g_ c_ b_ n_ q_ S_ hI_ (by exact y2_) (by exact y3_) (by decide) (by omega)) rfl (fun Sx6_ px9_ => ?_) (fun u_ Sx6_ px9_ => ?_)
            · obtain ⟨hIx7_, hFx8_, px9_⟩ := px9_
              refine Or.inr ⟨_, rfl, hIx7_, ai_fr_tr hF_ (fr_le hFx8_ rfl), ?_⟩
              exact ⟨(3, q_), p_er y5_ (pA_x (by omega) px9_.1), px9_.2⟩
            obtain ⟨rfl, hIx7_, hFx8_, px9_⟩ := px9_
            have hFx10_ : ai_fr (sx_W vw_135) S0_ Sx6_ := ai_fr_tr hF_ (fr_le hFx8_ rfl)
            have ex11_ : Sx6_.1 10 0 2 = S_.1 10 0 2 := hFx8_.1 10 0 2 rfl
            have e58_ := px9_
            have y9_ := ct_fr y3_ hFx8_ rfl rfl rfl rfl rfl rfl rfl
            have e3_ := y9_.2.2.2.2.2.1
            refine sm_T_go 5 (c1 := (72, [some (.inr (.inr (some (7, 0)))), some (.inl 0), some (.inl i_)], [.inr (.inr (some (10, 0)))], Sx6_)) rfl ?_
            refine sm_T_calx (d1 := 1) (Q1 := vq_191 b_ n_ (lx_en b_ n_ q_) Sx6_) (Q2 := vx_191 b_ n_ (lx_en b_ n_ q_) Sx6_) rfl rfl (by decide) (vc_191 b_ n_ (lx_en b_ n_ q_) Sx6_ hIx7_ (by exact y9_.1) (by exact y9_.2.1) (by exact y9_.2.2.1) (by exact y9_.2.2.2.2.2.2.1) (by exact (lx_en_le (b := b_) y9_.2.2.2.1).2)) rfl (fun Sx12_ px15_ => ?_) (fun u_ Sx12_ px15_ => ?_)
            · obtain ⟨hIx13_, hFx14_, px15_⟩ := px15_
              refine Or.inr ⟨_, rfl, hIx13_, ai_fr_tr hFx10_ (fr_le hFx14_ rfl), ?_⟩
              refine ⟨(1, lx_nx b_ n_ q_), ?_, px15_.2⟩
              first | exact p_er y5_ (by rw [pA_b (by omega), p_ad_x px15_.1]; rfl) | exact p_er y5_ (by rw [pA_o (by omega) e58_.1, p_ad_x px15_.1]; rfl)
            obtain ⟨rfl, hIx13_, hFx14_, px15_⟩ := px15_
            have hFx16_ : ai_fr (sx_W vw_135) S0_ Sx12_ := ai_fr_tr hFx10_ (fr_le hFx14_ rfl)
            have e72_ := px15_
            have f72_ := hFx14_
            have s72_ := e72_.2.2.2.2.2.1
            refine sm_T_inc (a := 2) (z := 1) (v := i_) (w := i_ + 1) rfl rfl (by omega) (by omega) (by omega) ?_
            refine sm_T_go 1 (c1 := (4, [some (.inr (.inr (some (7, 0)))), some (.inl 0), some (.inl (i_ + 1))], [], Sx12_)) rfl ?_
            refine ih_ 0 (i_ + 1) Sx12_ hIx13_ hFx16_ ⟨?_, ?_, trivial⟩ ?_
            · have k1_ := p_ad_ok hp1_ (by omega) (p_ad_c e72_)
              have s73_ : _ = ((lx_nx b_ n_ q_ : Nat) : Int) := s72_
              omega
            · have k1_ := p_ad_ok hp1_ (by omega) (p_ad_c e72_)
              first | (have k2_ := p_go (y_ := (0, !tb_, lx_nx b_ n_ q_, o1_, g_, c_)) hn1_ hpr_ y4_ y5_ (by rw [pA_b (by omega), p_ad_c e72_]; rfl); exact ⟨!tb_, o1_, lx_nx b_ n_ q_, by rw [ht_]; rfl, xr_fr y2_ f72_ rfl rfl rfl rfl rfl rfl rfl rfl rfl, e72_, k2_.1, k2_.2, by omega⟩) | (have k2_ := p_go (y_ := (0, false, lx_nx b_ n_ q_, (if tb_ = true then -2 else -1, q_) :: o1_, g_, c_)) hn1_ hpr_ y4_ y5_ (by rw [pA_o (by omega) e58_.1, p_ad_c e72_]; rfl); refine ⟨false, _, lx_nx b_ n_ q_, rfl, xr_fr ?_ f72_ rfl rfl rfl rfl rfl rfl rfl rfl rfl, e72_, k2_.1, k2_.2, by omega⟩; rw [ht_]; exact e58_.2)
            · (have k1_ := p_ad_ok hp1_ (by omega) (p_ad_c e72_)); (have s73_ : _ = ((lx_nx b_ n_ q_ : Nat) : Int) := s72_); omega
          · have cx5_ : ¬ (t_ = 0) := of_decide_eq_false cx5_
            have ht_ : tb_ = true := by cases tb_; (rw [if_neg (by decide)] at y1_; omega); rfl
            refine sm_T_go 2 (c1 := (58, [some (.inr (.inr (some (7, 0)))), some (.inl t_), some (.inl i_)], [.inl (-2), .inr (.inr (some (7, 0)))], S_)) rfl ?_
            refine sm_T_calx (d1 := 1) (Q1 := vq_136 (-2) md_ o1_ g_ c_ b_ n_ q_ S_) (Q2 := vx_136 (-2) md_ o1_ g_ c_ b_ n_ q_ S_) rfl rfl (by decide) (vc_136 (-2) md_ o1_ g_ c_ b_ n_ q_ S_ hI_ (by exact y2_) (by exact y3_) (by decide) (by omega)) rfl (fun Sx17_ px20_ => ?_) (fun u_ Sx17_ px20_ => ?_)
            · obtain ⟨hIx18_, hFx19_, px20_⟩ := px20_
              refine Or.inr ⟨_, rfl, hIx18_, ai_fr_tr hF_ (fr_le hFx19_ rfl), ?_⟩
              exact ⟨(3, q_), p_er y5_ (pA_x (by omega) px20_.1), px20_.2⟩
            obtain ⟨rfl, hIx18_, hFx19_, px20_⟩ := px20_
            have hFx21_ : ai_fr (sx_W vw_135) S0_ Sx17_ := ai_fr_tr hF_ (fr_le hFx19_ rfl)
            have ex22_ : Sx17_.1 10 0 2 = S_.1 10 0 2 := hFx19_.1 10 0 2 rfl
            have e58_ := px20_
            have y9_ := ct_fr y3_ hFx19_ rfl rfl rfl rfl rfl rfl rfl
            have e3_ := y9_.2.2.2.2.2.1
            refine sm_T_go 5 (c1 := (72, [some (.inr (.inr (some (7, 0)))), some (.inl 0), some (.inl i_)], [.inr (.inr (some (10, 0)))], Sx17_)) rfl ?_
            refine sm_T_calx (d1 := 1) (Q1 := vq_191 b_ n_ (lx_en b_ n_ q_) Sx17_) (Q2 := vx_191 b_ n_ (lx_en b_ n_ q_) Sx17_) rfl rfl (by decide) (vc_191 b_ n_ (lx_en b_ n_ q_) Sx17_ hIx18_ (by exact y9_.1) (by exact y9_.2.1) (by exact y9_.2.2.1) (by exact y9_.2.2.2.2.2.2.1) (by exact (lx_en_le (b := b_) y9_.2.2.2.1).2)) rfl (fun Sx23_ px26_ => ?_) (fun u_ Sx23_ px26_ => ?_)
            · obtain ⟨hIx24_, hFx25_, px26_⟩ := px26_
              refine Or.inr ⟨_, rfl, hIx24_, ai_fr_tr hFx21_ (fr_le hFx25_ rfl), ?_⟩
              refine ⟨(1, lx_nx b_ n_ q_), ?_, px26_.2⟩
              first | exact p_er y5_ (by rw [pA_b (by omega), p_ad_x px26_.1]; rfl) | exact p_er y5_ (by rw [pA_o (by omega) e58_.1, p_ad_x px26_.1]; rfl)
            obtain ⟨rfl, hIx24_, hFx25_, px26_⟩ := px26_
            have hFx27_ : ai_fr (sx_W vw_135) S0_ Sx23_ := ai_fr_tr hFx21_ (fr_le hFx25_ rfl)
            have e72_ := px26_
            have f72_ := hFx25_
            have s72_ := e72_.2.2.2.2.2.1
            refine sm_T_inc (a := 2) (z := 1) (v := i_) (w := i_ + 1) rfl rfl (by omega) (by omega) (by omega) ?_
            refine sm_T_go 1 (c1 := (4, [some (.inr (.inr (some (7, 0)))), some (.inl 0), some (.inl (i_ + 1))], [], Sx23_)) rfl ?_
            refine ih_ 0 (i_ + 1) Sx23_ hIx24_ hFx27_ ⟨?_, ?_, trivial⟩ ?_
            · have k1_ := p_ad_ok hp1_ (by omega) (p_ad_c e72_)
              have s73_ : _ = ((lx_nx b_ n_ q_ : Nat) : Int) := s72_
              omega
            · have k1_ := p_ad_ok hp1_ (by omega) (p_ad_c e72_)
              first | (have k2_ := p_go (y_ := (0, !tb_, lx_nx b_ n_ q_, o1_, g_, c_)) hn1_ hpr_ y4_ y5_ (by rw [pA_b (by omega), p_ad_c e72_]; rfl); exact ⟨!tb_, o1_, lx_nx b_ n_ q_, by rw [ht_]; rfl, xr_fr y2_ f72_ rfl rfl rfl rfl rfl rfl rfl rfl rfl, e72_, k2_.1, k2_.2, by omega⟩) | (have k2_ := p_go (y_ := (0, false, lx_nx b_ n_ q_, (if tb_ = true then -2 else -1, q_) :: o1_, g_, c_)) hn1_ hpr_ y4_ y5_ (by rw [pA_o (by omega) e58_.1, p_ad_c e72_]; rfl); refine ⟨false, _, lx_nx b_ n_ q_, rfl, xr_fr ?_ f72_ rfl rfl rfl rfl rfl rfl rfl rfl rfl, e72_, k2_.1, k2_.2, by omega⟩; rw [ht_]; exact e58_.2)
            · (have k1_ := p_ad_ok hp1_ (by omega) (p_ad_c e72_)); (have s73_ : _ = ((lx_nx b_ n_ q_ : Nat) : Int) := s72_); omega
      · have cx3_ : ¬ ((S_.1 10 0 2) ≠ 33) := of_decide_eq_false cx3_
        have y9_ := y3_
        refine sm_T_go 1 (c1 := (23, [some (.inr (.inr (some (7, 0)))), some (.inl t_), some (.inl i_)], [.inl t_], S_)) rfl ?_
        refine sm_T_b0 (a := 1) (z := 7) rfl (fun cx28_ => ?_) (fun cx28_ => ?_)
        · have cx28_ : t_ ≠ 0 := of_decide_eq_true cx28_
          have ht_ : tb_ = true := by cases tb_; (rw [if_neg (by decide)] at y1_; omega); rfl
          refine sm_T_go 5 (c1 := (72, [some (.inr (.inr (some (7, 0)))), some (.inl 0), some (.inl i_)], [.inr (.inr (some (10, 0)))], S_)) rfl ?_
          refine sm_T_calx (d1 := 1) (Q1 := vq_191 b_ n_ (lx_en b_ n_ q_) S_) (Q2 := vx_191 b_ n_ (lx_en b_ n_ q_) S_) rfl rfl (by decide) (vc_191 b_ n_ (lx_en b_ n_ q_) S_ hI_ (by exact y9_.1) (by exact y9_.2.1) (by exact y9_.2.2.1) (by exact y9_.2.2.2.2.2.2.1) (by exact (lx_en_le (b := b_) y9_.2.2.2.1).2)) rfl (fun Sx29_ px32_ => ?_) (fun u_ Sx29_ px32_ => ?_)
          · obtain ⟨hIx30_, hFx31_, px32_⟩ := px32_
            refine Or.inr ⟨_, rfl, hIx30_, ai_fr_tr hF_ (fr_le hFx31_ rfl), ?_⟩
            refine ⟨(1, lx_nx b_ n_ q_), ?_, px32_.2⟩
            first | exact p_er y5_ (by rw [pA_b (by omega), p_ad_x px32_.1]; rfl) | exact p_er y5_ (by rw [pA_o (by omega) e58_.1, p_ad_x px32_.1]; rfl)
          obtain ⟨rfl, hIx30_, hFx31_, px32_⟩ := px32_
          have hFx33_ : ai_fr (sx_W vw_135) S0_ Sx29_ := ai_fr_tr hF_ (fr_le hFx31_ rfl)
          have e72_ := px32_
          have f72_ := hFx31_
          have s72_ := e72_.2.2.2.2.2.1
          refine sm_T_inc (a := 2) (z := 1) (v := i_) (w := i_ + 1) rfl rfl (by omega) (by omega) (by omega) ?_
          refine sm_T_go 1 (c1 := (4, [some (.inr (.inr (some (7, 0)))), some (.inl 0), some (.inl (i_ + 1))], [], Sx29_)) rfl ?_
          refine ih_ 0 (i_ + 1) Sx29_ hIx30_ hFx33_ ⟨?_, ?_, trivial⟩ ?_
          · have k1_ := p_ad_ok hp1_ (by omega) (p_ad_c e72_)
            have s73_ : _ = ((lx_nx b_ n_ q_ : Nat) : Int) := s72_
            omega
          · have k1_ := p_ad_ok hp1_ (by omega) (p_ad_c e72_)
            first | (have k2_ := p_go (y_ := (0, !tb_, lx_nx b_ n_ q_, o1_, g_, c_)) hn1_ hpr_ y4_ y5_ (by rw [pA_b (by omega), p_ad_c e72_]; rfl); exact ⟨!tb_, o1_, lx_nx b_ n_ q_, by rw [ht_]; rfl, xr_fr y2_ f72_ rfl rfl rfl rfl rfl rfl rfl rfl rfl, e72_, k2_.1, k2_.2, by omega⟩) | (have k2_ := p_go (y_ := (0, false, lx_nx b_ n_ q_, (if tb_ = true then -2 else -1, q_) :: o1_, g_, c_)) hn1_ hpr_ y4_ y5_ (by rw [pA_o (by omega) e58_.1, p_ad_c e72_]; rfl); refine ⟨false, _, lx_nx b_ n_ q_, rfl, xr_fr ?_ f72_ rfl rfl rfl rfl rfl rfl rfl rfl rfl, e72_, k2_.1, k2_.2, by omega⟩; rw [ht_]; exact e58_.2)
          · (have k1_ := p_ad_ok hp1_ (by omega) (p_ad_c e72_)); (have s73_ : _ = ((lx_nx b_ n_ q_ : Nat) : Int) := s72_); omega
        · have cx28_ : ¬ (t_ ≠ 0) := of_decide_eq_false cx28_
          have ht_ : tb_ = false := by cases tb_; rfl; (rw [if_pos rfl] at y1_; omega)
          refine sm_T_go 6 (c1 := (72, [some (.inr (.inr (some (7, 0)))), some (.inl 1), some (.inl i_)], [.inr (.inr (some (10, 0)))], S_)) rfl ?_
          refine sm_T_calx (d1 := 1) (Q1 := vq_191 b_ n_ (lx_en b_ n_ q_) S_) (Q2 := vx_191 b_ n_ (lx_en b_ n_ q_) S_) rfl rfl (by decide) (vc_191 b_ n_ (lx_en b_ n_ q_) S_ hI_ (by exact y9_.1) (by exact y9_.2.1) (by exact y9_.2.2.1) (by exact y9_.2.2.2.2.2.2.1) (by exact (lx_en_le (b := b_) y9_.2.2.2.1).2)) rfl (fun Sx34_ px37_ => ?_) (fun u_ Sx34_ px37_ => ?_)
          · obtain ⟨hIx35_, hFx36_, px37_⟩ := px37_
            refine Or.inr ⟨_, rfl, hIx35_, ai_fr_tr hF_ (fr_le hFx36_ rfl), ?_⟩
            refine ⟨(1, lx_nx b_ n_ q_), ?_, px37_.2⟩
            first | exact p_er y5_ (by rw [pA_b (by omega), p_ad_x px37_.1]; rfl) | exact p_er y5_ (by rw [pA_o (by omega) e58_.1, p_ad_x px37_.1]; rfl)
          obtain ⟨rfl, hIx35_, hFx36_, px37_⟩ := px37_
          have hFx38_ : ai_fr (sx_W vw_135) S0_ Sx34_ := ai_fr_tr hF_ (fr_le hFx36_ rfl)
          have e72_ := px37_
          have f72_ := hFx36_
          have s72_ := e72_.2.2.2.2.2.1
          refine sm_T_inc (a := 2) (z := 1) (v := i_) (w := i_ + 1) rfl rfl (by omega) (by omega) (by omega) ?_
          refine sm_T_go 1 (c1 := (4, [some (.inr (.inr (some (7, 0)))), some (.inl 1), some (.inl (i_ + 1))], [], Sx34_)) rfl ?_
          refine ih_ 1 (i_ + 1) Sx34_ hIx35_ hFx38_ ⟨?_, ?_, trivial⟩ ?_
          · have k1_ := p_ad_ok hp1_ (by omega) (p_ad_c e72_)
            have s73_ : _ = ((lx_nx b_ n_ q_ : Nat) : Int) := s72_
            omega
          · have k1_ := p_ad_ok hp1_ (by omega) (p_ad_c e72_)
            first | (have k2_ := p_go (y_ := (0, !tb_, lx_nx b_ n_ q_, o1_, g_, c_)) hn1_ hpr_ y4_ y5_ (by rw [pA_b (by omega), p_ad_c e72_]; rfl); exact ⟨!tb_, o1_, lx_nx b_ n_ q_, by rw [ht_]; rfl, xr_fr y2_ f72_ rfl rfl rfl rfl rfl rfl rfl rfl rfl, e72_, k2_.1, k2_.2, by omega⟩) | (have k2_ := p_go (y_ := (0, false, lx_nx b_ n_ q_, (if tb_ = true then -2 else -1, q_) :: o1_, g_, c_)) hn1_ hpr_ y4_ y5_ (by rw [pA_o (by omega) e58_.1, p_ad_c e72_]; rfl); refine ⟨false, _, lx_nx b_ n_ q_, rfl, xr_fr ?_ f72_ rfl rfl rfl rfl rfl rfl rfl rfl rfl, e72_, k2_.1, k2_.2, by omega⟩; rw [ht_]; exact e58_.2)
          · (have k1_ := p_ad_ok hp1_ (by omega) (p_ad_c e72_)); (have s73_ : _ = ((lx_nx b_ n_ q_ : Nat) : Int) := s72_); omega
set_option maxHeartbeats 400000 in
theorem vc_135 {sc_ : Nat × (Nat → Int)} (b_ : Nat → Int) (n_ : Nat) (md_ : Bool) (pr_ : pPr) (R_ : pE pR) (o_ : List (Int × Nat)) (g_ : List Int) (c_ : List Int) (p_ : Nat) (S0_ : sm_S) (hI_ : gi S0_) (hx_ : xr md_ o_ g_ c_ S0_) (hc_ : ct b_ n_ p_ S0_) (hpr_ : pr_ok b_ n_ pr_) (hok_ : x_ok b_ n_ md_ (0, false, p_, o_, g_, c_)) (hR_ : p_xx b_ n_ md_ pr_ (0, false, p_, o_, g_, c_) R_) : sm_T (mt_P sc_) 2 135 (0, [some (.inr (.inr (some (7, 0)))), none, none], [], S0_) (fun r_ => (∃ u_ S1_, r_ = (.inl u_, S1_, 0) ∧ vq_135 b_ n_ md_ pr_ R_ o_ g_ c_ p_ S0_ u_ S1_) ∨ ∃ S1_, r_ = (.inr 2, S1_, 1) ∧ vx_135 b_ n_ md_ pr_ R_ o_ g_ c_ p_ S0_ S1_) := by
  have hF_ : ai_fr (sx_W vw_135) S0_ S0_ := ai_fr_rf
  refine sm_T_go 4 (c1 := (4, [some (.inr (.inr (some (7, 0)))), some (.inl 0), some (.inl 0)], [], S0_)) rfl ?_
  refine (vl_135 b_ n_ md_ pr_ R_ o_ g_ c_ p_ S0_ hx_ hc_ hpr_ hok_ hR_ _) 0 0 S0_ hI_ hF_ ⟨?_, ?_, trivial⟩ (Nat.lt_succ_self _)
  · have := hc_.2.2.2.2.2.1
    omega
  · exact ⟨false, o_, p_, by decide, hx_, hc_, hok_, hR_, Nat.le_refl _⟩
end
/-! 99.x4a -/
section
/-! the class reader: constants, parts; written by wip/p55/gen/vg -/
/-! Reader.readConstant -/
def vw_142 : sx_Wl := ([(7, 2), (7, 16), (10, 2), (10, 3), (10, 4), (10, 5), (10, 6), (10, 7), (10, 8)], [74, 84], [])
def vq_142 (o_ : List (Int × Nat)) (g_ : List Int) (c_ : List Int) (b_ : Nat → Int) (n_ : Nat) (p_ : Nat) (S0_ : sm_S) (u_ : Option sm_V) (S1_ : sm_S) : Prop := u_ = none ∧ gi S1_ ∧ ai_fr (sx_W vw_142) S0_ S1_ ∧ (∃ r_, p_co b_ n_ p_ = .inr r_ ∧ xr false o_ (r_.2.1 :: g_) (r_.2.2 ++ c_) S1_ ∧ ct b_ n_ r_.1 S1_)
def vx_142 (o_ : List (Int × Nat)) (g_ : List Int) (c_ : List Int) (b_ : Nat → Int) (n_ : Nat) (p_ : Nat) (S0_ : sm_S) (S1_ : sm_S) : Prop := gi S1_ ∧ ai_fr (sx_W vw_142) S0_ S1_ ∧ (∃ e_, p_co b_ n_ p_ = .inl e_ ∧ ter S1_ e_)
set_option maxHeartbeats 400000 in
theorem vc_142 {sc_ : Nat × (Nat → Int)} (o_ : List (Int × Nat)) (g_ : List Int) (c_ : List Int) (b_ : Nat → Int) (n_ : Nat) (p_ : Nat) (S0_ : sm_S) (hI_ : gi S0_) (hx_ : xr false o_ g_ c_ S0_) (hc_ : ct b_ n_ p_ S0_) (hk_ : lx_kd b_ n_ p_ = 2) (ho_ : g_.length ≤ 487) (hl_ : c_.length ≤ 65535) : sm_T (mt_P sc_) 2 142 (0, [some (.inr (.inr (some (7, 0)))), none, none, none], [], S0_) (fun r_ => (∃ u_ S1_, r_ = (.inl u_, S1_, 0) ∧ vq_142 o_ g_ c_ b_ n_ p_ S0_ u_ S1_) ∨ ∃ S1_, r_ = (.inr 2, S1_, 1) ∧ vx_142 o_ g_ c_ b_ n_ p_ S0_ S1_) := by
  have hF_ : ai_fr (sx_W vw_142) S0_ S0_ := ai_fr_rf
  have st0_ := hc_.2.2.2.2.2.1
  have kd0_ := hc_.2.2.2.2.2.2.2.1
  have hp0_ := hc_.2.2.2.1
  have hn1_ := hc_.2.2.1
  have hv0_ := hc_.2.2.2.2.2.2.2.2.2 hk_
  have bx1_ : 0 ≤ S0_.1 10 0 3 ∧ S0_.1 10 0 3 ≤ 1280 := hI_.1 10 0 3 rfl
  have bx2_ : 0 ≤ S0_.1 10 0 5 ∧ S0_.1 10 0 5 ≤ 999999 := hI_.1 10 0 5 rfl
  refine sm_T_go 10 (c1 := (20, [some (.inr (.inr (some (7, 0)))), some (.inl (S0_.1 10 0 3)), some (.inl (S0_.1 10 0 5)), none], [.inr (.inr (some (10, 0)))], S0_)) rfl ?_
  refine sm_T_calx (d1 := 1) (Q1 := vq_191 b_ n_ (lx_en b_ n_ p_) S0_) (Q2 := vx_191 b_ n_ (lx_en b_ n_ p_) S0_) rfl rfl (by decide) (vc_191 b_ n_ (lx_en b_ n_ p_) S0_ hI_ (by exact hc_.1) (by exact hc_.2.1) (by exact hc_.2.2.1) (by exact hc_.2.2.2.2.2.2.1) (by exact (lx_en_le (b := b_) hc_.2.2.2.1).2)) rfl (fun Sx3_ px6_ => ?_) (fun u_ Sx3_ px6_ => ?_)
  · obtain ⟨hIx4_, hFx5_, px6_⟩ := px6_
    refine Or.inr ⟨_, rfl, hIx4_, ai_fr_tr hF_ (fr_le hFx5_ rfl), ?_⟩
    refine ⟨(1, (lx_nx b_ n_ p_)), ?_, px6_.2⟩
    unfold p_co; rw [p_ad_x px6_.1]; rfl
  obtain ⟨rfl, hIx4_, hFx5_, px6_⟩ := px6_
  have hFx7_ : ai_fr (sx_W vw_142) S0_ Sx3_ := ai_fr_tr hF_ (fr_le hFx5_ rfl)
  have c1_ : ct b_ n_ (lx_nx b_ n_ p_) _ := px6_
  have a1_ := p_ad_c px6_
  have x1_ := xr_fr hx_ hFx5_ rfl rfl rfl rfl rfl rfl rfl rfl rfl
  have st1_ := c1_.2.2.2.2.2.1
  have kd1_ := c1_.2.2.2.2.2.2.2.1
  have hp1_ := c1_.2.2.2.1
  have bx8_ : (-128) ≤ Sx3_.1 10 0 2 ∧ Sx3_.1 10 0 2 ≤ 257 := hIx4_.1 10 0 2 rfl
  refine sm_T_go 4 (c1 := (32, [some (.inr (.inr (some (7, 0)))), some (.inl (S0_.1 10 0 3)), some (.inl (S0_.1 10 0 5)), none], [.inl 64, .inl (Sx3_.1 10 0 2)], Sx3_)) rfl ?_
  refine sm_T_br (a := 0) (z := 18) rfl (fun cx9_ => ?_) (fun cx9_ => ?_)
  · have cx9_ : (Sx3_.1 10 0 2) = 64 := of_decide_eq_true cx9_
    refine sm_T_go 2 (c1 := (54, [some (.inr (.inr (some (7, 0)))), some (.inl (S0_.1 10 0 3)), some (.inl (S0_.1 10 0 5)), none], [.inr (.inr (some (10, 0)))], Sx3_)) rfl ?_
    refine sm_T_calx (d1 := 1) (Q1 := vq_191 b_ n_ (lx_en b_ n_ (lx_nx b_ n_ p_)) Sx3_) (Q2 := vx_191 b_ n_ (lx_en b_ n_ (lx_nx b_ n_ p_)) Sx3_) rfl rfl (by decide) (vc_191 b_ n_ (lx_en b_ n_ (lx_nx b_ n_ p_)) Sx3_ hIx4_ (by exact c1_.1) (by exact c1_.2.1) (by exact c1_.2.2.1) (by exact c1_.2.2.2.2.2.2.1) (by exact (lx_en_le (b := b_) c1_.2.2.2.1).2)) rfl (fun Sx10_ px13_ => ?_) (fun u_ Sx10_ px13_ => ?_)
    · obtain ⟨hIx11_, hFx12_, px13_⟩ := px13_
      refine Or.inr ⟨_, rfl, hIx11_, ai_fr_tr hFx7_ (fr_le hFx12_ rfl), ?_⟩
      refine ⟨(1, (lx_nx b_ n_ (lx_nx b_ n_ p_))), ?_, px13_.2⟩
      unfold p_co; rw [a1_]; show (if _ then _ else _) = _; rw [if_pos (by omega), p_ad_x px13_.1]; rfl
    obtain ⟨rfl, hIx11_, hFx12_, px13_⟩ := px13_
    have hFx14_ : ai_fr (sx_W vw_142) S0_ Sx10_ := ai_fr_tr hFx7_ (fr_le hFx12_ rfl)
    have c2_ : ct b_ n_ (lx_nx b_ n_ (lx_nx b_ n_ p_)) _ := px13_
    have a2_ := p_ad_c px13_
    have x2_ := xr_fr x1_ hFx12_ rfl rfl rfl rfl rfl rfl rfl rfl rfl
    have st2_ := c2_.2.2.2.2.2.1
    have kd2_ := c2_.2.2.2.2.2.2.2.1
    have hp2_ := c2_.2.2.2.1
    refine sm_T_go 3 (c1 := (61, [some (.inr (.inr (some (7, 0)))), some (.inl (S0_.1 10 0 3)), some (.inl (S0_.1 10 0 5)), none], [.inl 8, .inl 1, .inr (.inr (some (7, 0)))], Sx10_)) rfl ?_
    refine sm_T_calx (d1 := 1) (Q1 := vq_122 1 8 b_ n_ (lx_nx b_ n_ (lx_nx b_ n_ p_)) Sx10_) (Q2 := vx_122 1 8 b_ n_ (lx_nx b_ n_ (lx_nx b_ n_ p_)) Sx10_) rfl rfl (by decide) (vc_122 1 8 b_ n_ (lx_nx b_ n_ (lx_nx b_ n_ p_)) Sx10_ hIx11_ (by exact c2_)) rfl (fun Sx15_ px18_ => ?_) (fun u_ Sx15_ px18_ => ?_)
    · obtain ⟨hIx16_, hFx17_, px18_⟩ := px18_
      refine Or.inr ⟨_, rfl, hIx16_, ai_fr_tr hFx14_ (fr_le hFx17_ rfl), ?_⟩
      obtain ⟨e_, w1_, w2_⟩ := px18_
      refine ⟨e_, ?_, w2_⟩
      unfold p_co; rw [a1_]; show (if _ then _ else _) = _; rw [if_pos (by omega), a2_]; show pb (p_nu b_ n_ 1 8 _) _ = _; rw [w1_]; rfl
    obtain ⟨vx20_, rfl, hIx16_, hFx17_, px18_⟩ := px18_
    have hFx19_ : ai_fr (sx_W vw_142) S0_ Sx15_ := ai_fr_tr hFx14_ (fr_le hFx17_ rfl)
    have w3_ := px18_
    have w4_ := p_nu_ok w3_
    have c3_ := ct_fr c2_ hFx17_ rfl rfl rfl rfl rfl rfl rfl
    have x3_ := xr_fr x2_ hFx17_ rfl rfl rfl rfl rfl rfl rfl rfl rfl
    refine sm_T_go 3 (c1 := (69, [some (.inr (.inr (some (7, 0)))), some (.inl (S0_.1 10 0 3)), some (.inl (S0_.1 10 0 5)), some (.inl vx20_)], [.inr (.inr (some (10, 0)))], Sx15_)) rfl ?_
    refine sm_T_calx (d1 := 1) (Q1 := vq_191 b_ n_ (lx_en b_ n_ (lx_nx b_ n_ (lx_nx b_ n_ p_))) Sx15_) (Q2 := vx_191 b_ n_ (lx_en b_ n_ (lx_nx b_ n_ (lx_nx b_ n_ p_))) Sx15_) rfl rfl (by decide) (vc_191 b_ n_ (lx_en b_ n_ (lx_nx b_ n_ (lx_nx b_ n_ p_))) Sx15_ hIx16_ (by exact c3_.1) (by exact c3_.2.1) (by exact c3_.2.2.1) (by exact c3_.2.2.2.2.2.2.1) (by exact (lx_en_le (b := b_) c3_.2.2.2.1).2)) rfl (fun Sx21_ px24_ => ?_) (fun u_ Sx21_ px24_ => ?_)
    · obtain ⟨hIx22_, hFx23_, px24_⟩ := px24_
      refine Or.inr ⟨_, rfl, hIx22_, ai_fr_tr hFx19_ (fr_le hFx23_ rfl), ?_⟩
      refine ⟨(1, (lx_nx b_ n_ (lx_nx b_ n_ (lx_nx b_ n_ p_)))), ?_, px24_.2⟩
      unfold p_co; rw [a1_]; show (if _ then _ else _) = _; rw [if_pos (by omega), a2_]; show pb (p_nu b_ n_ 1 8 _) _ = _; rw [w3_]; show pb (p_ad b_ n_ _) _ = _; rw [p_ad_x px24_.1]; rfl
    obtain ⟨rfl, hIx22_, hFx23_, px24_⟩ := px24_
    have hFx25_ : ai_fr (sx_W vw_142) S0_ Sx21_ := ai_fr_tr hFx19_ (fr_le hFx23_ rfl)
    have c4_ : ct b_ n_ (lx_nx b_ n_ (lx_nx b_ n_ (lx_nx b_ n_ p_))) _ := px24_
    have a4_ := p_ad_c px24_
    have x4_ := xr_fr x3_ hFx23_ rfl rfl rfl rfl rfl rfl rfl rfl rfl
    have st4_ := c4_.2.2.2.2.2.1
    have kd4_ := c4_.2.2.2.2.2.2.2.1
    have hp4_ := c4_.2.2.2.1
    refine sm_T_go 2 (c1 := (74, [some (.inr (.inr (some (7, 0)))), some (.inl (S0_.1 10 0 3)), some (.inl (S0_.1 10 0 5)), some (.inl vx20_)], [.inl vx20_, .inl (S0_.1 10 0 5)], Sx21_)) rfl ?_
    refine sm_T_bin (w := (i_shr (S0_.1 10 0 5) vx20_)) rfl rfl ?_
    have bx26_ : (i_shr (S0_.1 10 0 5) vx20_) = (S0_.1 10 0 5) / 2 ^ (vx20_).toNat := i_shrv (by omega) (by omega) (by omega)
    refine sm_T_b0 (a := 0) (z := 13) rfl (fun cx27_ => ?_) (fun cx27_ => ?_)
    · have cx27_ : (i_shr (S0_.1 10 0 5) vx20_) = 0 := of_decide_eq_true cx27_
      refine sm_T_go 4 (c1 := (93, [some (.inr (.inr (some (7, 0)))), some (.inl (S0_.1 10 0 3)), some (.inl (S0_.1 10 0 5)), some (.inl vx20_)], [.inl (S0_.1 10 0 5), .inl vx20_, .inl 8, .inr (.inr (some (7, 0)))], Sx21_)) rfl ?_
      refine sm_T_cal (d1 := 0) (Q1 := vq_140 8 vx20_ (S0_.1 10 0 5) o_ g_ c_ Sx21_) rfl rfl (by decide) (vc_140 8 vx20_ (S0_.1 10 0 5) o_ g_ c_ Sx21_ hIx22_ (by exact x4_.1) (by decide) (by omega) (by omega) (by exact hl_)) (fun u_ Sx28_ px31_ => ?_)
      obtain ⟨rfl, hIx29_, hFx30_, px31_⟩ := px31_
      have hFx32_ : ai_fr (sx_W vw_142) S0_ Sx28_ := ai_fr_tr hFx25_ (fr_le hFx30_ rfl)
      have e93_ := px31_
      have f93_ := hFx30_.1 7 0 17 rfl
      have c93_ := ct_fr c4_ hFx30_ rfl rfl rfl rfl rfl rfl rfl
      refine sm_T_go 2 (c1 := (98, [some (.inr (.inr (some (7, 0)))), some (.inl (S0_.1 10 0 3)), some (.inl (S0_.1 10 0 5)), some (.inl vx20_)], [.inl vx20_, .inr (.inr (some (7, 0)))], Sx28_)) rfl ?_
      refine sm_T_cal (d1 := 0) (Q1 := vq_138 vx20_ false o_ g_ (cw 8 (lx_vl b_ n_ (lx_nx b_ n_ (lx_nx b_ n_ p_))) (lx_vl b_ n_ p_) :: c_) Sx28_) rfl rfl (by decide) (vc_138 vx20_ false o_ g_ (cw 8 (lx_vl b_ n_ (lx_nx b_ n_ (lx_nx b_ n_ p_))) (lx_vl b_ n_ p_) :: c_) Sx28_ hIx29_ (by rw [← hv0_, ← w4_.2.1]; exact e93_) (by omega) (by exact ho_)) (fun u_ Sx33_ px36_ => ?_)
      obtain ⟨rfl, hIx34_, hFx35_, px36_⟩ := px36_
      have hFx37_ : ai_fr (sx_W vw_142) S0_ Sx33_ := ai_fr_tr hFx32_ (fr_le hFx35_ rfl)
      have e98_ := px36_
      have f98_ := hFx35_.1 7 0 17 rfl
      have c98_ := ct_fr c93_ hFx35_ rfl rfl rfl rfl rfl rfl rfl
      refine sm_T_rv rfl (Or.inl ⟨_, _, rfl, rfl, hIx34_, hFx37_, ?_⟩)
      refine ⟨((lx_nx b_ n_ (lx_nx b_ n_ (lx_nx b_ n_ p_))), lx_vl b_ n_ (lx_nx b_ n_ (lx_nx b_ n_ p_)), [cw 8 (lx_vl b_ n_ (lx_nx b_ n_ (lx_nx b_ n_ p_))) (lx_vl b_ n_ p_)]), ?_, ⟨?_, ?_⟩, c98_⟩
      · unfold p_co; rw [a1_]; show (if _ then _ else _) = _; rw [if_pos (by omega), a2_]; show pb (p_nu b_ n_ 1 8 _) _ = _; rw [w3_]; show pb (p_ad b_ n_ _) _ = _; rw [a4_]; show (if _ then _ else _) = _; rw [if_pos (by rw [← hv0_]; omega), w4_.2.1]
      · rw [w4_.2.1] at e98_; exact e98_
      · rw [f98_, f93_]; exact x4_.2
    · have cx27_ : ¬ ((i_shr (S0_.1 10 0 5) vx20_) = 0) := of_decide_eq_false cx27_
      refine sm_T_go 4 (c1 := (85, [some (.inr (.inr (some (7, 0)))), some (.inl (S0_.1 10 0 3)), some (.inl (S0_.1 10 0 5)), some (.inl vx20_)], [.inl (S0_.1 10 0 3), .inl 12, .inr (.inr (some (10, 0)))], Sx21_)) rfl ?_
      refine sm_T_calx (d1 := 0) (Q1 := vq_187 12 (S0_.1 10 0 3) Sx21_) (Q2 := vx_187 12 (S0_.1 10 0 3) Sx21_) rfl rfl (by decide) (vc_187 12 (S0_.1 10 0 3) Sx21_ hIx22_ (by decide) (by omega)) rfl (fun Sx38_ px41_ => ?_) (fun u_ Sx38_ px41_ => ?_)
      · obtain ⟨hIx39_, hFx40_, px41_⟩ := px41_
        refine Or.inr ⟨_, rfl, hIx39_, ai_fr_tr hFx25_ (fr_le hFx40_ rfl), ?_⟩
        refine ⟨(12, p_), ?_, px41_.1, px41_.2.trans st0_⟩
        unfold p_co; rw [a1_]; show (if _ then _ else _) = _; rw [if_pos (by omega), a2_]; show pb (p_nu b_ n_ 1 8 _) _ = _; rw [w3_]; show pb (p_ad b_ n_ _) _ = _; rw [a4_]; show (if _ then _ else _) = _; rw [if_neg (by rw [← hv0_]; omega)]
      · exact (px41_.2.2.2).elim
  · have cx9_ : ¬ ((Sx3_.1 10 0 2) = 64) := of_decide_eq_false cx9_
    have bx43_ : 0 ≤ Sx3_.1 10 0 3 ∧ Sx3_.1 10 0 3 ≤ 1280 := hIx4_.1 10 0 3 rfl
    refine sm_T_go 6 (c1 := (47, [some (.inr (.inr (some (7, 0)))), some (.inl (S0_.1 10 0 3)), some (.inl (S0_.1 10 0 5)), none], [.inl (Sx3_.1 10 0 3), .inl 2, .inr (.inr (some (10, 0)))], Sx3_)) rfl ?_
    refine sm_T_calx (d1 := 0) (Q1 := vq_187 2 (Sx3_.1 10 0 3) Sx3_) (Q2 := vx_187 2 (Sx3_.1 10 0 3) Sx3_) rfl rfl (by decide) (vc_187 2 (Sx3_.1 10 0 3) Sx3_ hIx4_ (by decide) (by omega)) rfl (fun Sx44_ px47_ => ?_) (fun u_ Sx44_ px47_ => ?_)
    · obtain ⟨hIx45_, hFx46_, px47_⟩ := px47_
      refine Or.inr ⟨_, rfl, hIx45_, ai_fr_tr hFx7_ (fr_le hFx46_ rfl), ?_⟩
      refine ⟨(2, (lx_nx b_ n_ p_)), ?_, px47_.1, px47_.2.trans st1_⟩
      unfold p_co; rw [a1_]; show (if _ then _ else _) = _; rw [if_neg (by omega)]
    · exact (px47_.2.2.2).elim
end
/-! 99.x4b -/
section
/-! Reader.namePart -/
def vw_144 : sx_Wl := ([(7, 2), (10, 6), (10, 7)], [74], [])
def vq_144 (s_ : Int) (d_ : Int) (y_ : Int) (o_ : List (Int × Nat)) (g_ : List Int) (c_ : List Int) (b_ : Nat → Int) (n_ : Nat) (p_ : Nat) (A_ : pA) (M_ : Nat) (dd_ : Nat) (S0_ : sm_S) (u_ : Option sm_V) (S1_ : sm_S) : Prop := ∃ v_ : Int, u_ = some (.inl v_) ∧ gi S1_ ∧ ai_fr (sx_W vw_144) S0_ S1_ ∧ (¬ (p_fn b_ n_ A_ dd_ p_ = -1 ∨ A_.2.2.1 (40 * dd_ + (p_fn b_ n_ A_ dd_ p_).toNat) ≠ 1) ∧ v_ = A_.2.2.2.1 (40 * dd_ + (p_fn b_ n_ A_ dd_ p_).toNat) ∧ xr false o_ g_ (cw 10 s_ (p_fn b_ n_ A_ dd_ p_) :: c_) S1_)
def vx_144 (s_ : Int) (d_ : Int) (y_ : Int) (o_ : List (Int × Nat)) (g_ : List Int) (c_ : List Int) (b_ : Nat → Int) (n_ : Nat) (p_ : Nat) (A_ : pA) (M_ : Nat) (dd_ : Nat) (S0_ : sm_S) (S1_ : sm_S) : Prop := gi S1_ ∧ ai_fr (sx_W vw_144) S0_ S1_ ∧ ((p_fn b_ n_ A_ dd_ p_ = -1 ∨ A_.2.2.1 (40 * dd_ + (p_fn b_ n_ A_ dd_ p_).toNat) ≠ 1) ∧ ter S1_ (11, p_))
set_option maxHeartbeats 400000 in
theorem vc_144 {sc_ : Nat × (Nat → Int)} (s_ : Int) (d_ : Int) (y_ : Int) (o_ : List (Int × Nat)) (g_ : List Int) (c_ : List Int) (b_ : Nat → Int) (n_ : Nat) (p_ : Nat) (A_ : pA) (M_ : Nat) (dd_ : Nat) (S0_ : sm_S) (hI_ : gi S0_) (hx_ : xr false o_ g_ c_ S0_) (hc_ : ct b_ n_ p_ S0_) (hr_ : er b_ n_ A_ M_ S0_) (hd_ : d_ = (dd_ : Int) ∧ dd_ ≤ M_) (hy_ : y_ = p_fn b_ n_ A_ dd_ p_) (hs_ : 0 ≤ s_ ∧ s_ < 64) (hl_ : c_.length ≤ 65535) : sm_T (mt_P sc_) 1 144 (0, [some (.inr (.inr (some (7, 0)))), some (.inl s_), some (.inl d_), some (.inl y_), none], [], S0_) (fun r_ => (∃ u_ S1_, r_ = (.inl u_, S1_, 0) ∧ vq_144 s_ d_ y_ o_ g_ c_ b_ n_ p_ A_ M_ dd_ S0_ u_ S1_) ∨ ∃ S1_, r_ = (.inr 2, S1_, 1) ∧ vx_144 s_ d_ y_ o_ g_ c_ b_ n_ p_ A_ M_ dd_ S0_ S1_) := by
  have hF_ : ai_fr (sx_W vw_144) S0_ S0_ := ai_fr_rf
  have st0_ := hc_.2.2.2.2.2.1
  have kd0_ := hc_.2.2.2.2.2.2.2.1
  have hp0_ := hc_.2.2.2.1
  have hn1_ := hc_.2.2.1
  have hM_ := hr_.2.1.1
  have hA_ := (hr_.2.1.2 dd_ hd_.2)
  have hfb_ := p_fd_b (f_ := fun s_ => nm_q b_ n_ (A_.2.1 (40 * dd_ + s_)) p_) (A_.1 dd_)
  have hf0_ : p_fn b_ n_ A_ dd_ p_ = p_fd (fun s_ => nm_q b_ n_ (A_.2.1 (40 * dd_ + s_)) p_) (A_.1 dd_) := rfl
  have hA1_ := hA_.1
  have hg1_ : y_ ≠ -1 → (40 * d_ + y_).toNat = 40 * dd_ + (p_fn b_ n_ A_ dd_ p_).toNat ∧ S0_.2.2.1 79 0 (40 * d_ + y_).toNat = A_.2.2.1 (40 * dd_ + (p_fn b_ n_ A_ dd_ p_).toNat) ∧ S0_.2.2.1 80 0 (40 * d_ + y_).toNat = A_.2.2.2.1 (40 * dd_ + (p_fn b_ n_ A_ dd_ p_).toNat) := by intro z_; obtain ⟨s9_, q1_, q2_, q3_, -⟩ := p_fn_b (A_ := A_) (m_ := dd_) (p_ := p_) (b_ := b_) (n_ := n_) (by omega); have q5_ := (hr_.2.2 dd_ hd_.2).2 s9_ q2_; have q4_ : (40 * d_ + y_).toNat = 40 * dd_ + s9_ := (by omega); rw [q4_, q3_]; exact ⟨rfl, q5_.2.1, q5_.2.2.1⟩
  refine sm_T_go 2 (c1 := (3, [some (.inr (.inr (some (7, 0)))), some (.inl s_), some (.inl d_), some (.inl y_), none], [.inl 40, .inl d_], S0_)) rfl ?_
  refine sm_T_bin (w := 40 * d_) rfl (bi_mul (by omega) (by omega) (by omega)) ?_
  refine sm_T_go 1 (c1 := (5, [some (.inr (.inr (some (7, 0)))), some (.inl s_), some (.inl d_), some (.inl y_), none], [.inl y_, .inl (40 * d_)], S0_)) rfl ?_
  refine sm_T_bin (w := 40 * d_ + y_) rfl (bi_add (by omega) (by omega) (by omega)) ?_
  refine sm_T_go 3 (c1 := (10, [some (.inr (.inr (some (7, 0)))), some (.inl s_), some (.inl d_), some (.inl y_), some (.inl (40 * d_ + y_))], [.inl (-1), .inl y_], S0_)) rfl ?_
  refine sm_T_br (a := 0) (z := 14) rfl (fun cx1_ => ?_) (fun cx1_ => ?_)
  · have cx1_ : y_ = (-1) := of_decide_eq_true cx1_
    have bx2_ : 0 ≤ S0_.1 10 0 3 ∧ S0_.1 10 0 3 ≤ 1280 := hI_.1 10 0 3 rfl
    refine sm_T_go 6 (c1 := (37, [some (.inr (.inr (some (7, 0)))), some (.inl s_), some (.inl d_), some (.inl y_), some (.inl (40 * d_ + y_))], [.inl (S0_.1 10 0 3), .inl 11, .inr (.inr (some (10, 0)))], S0_)) rfl ?_
    refine sm_T_calx (d1 := 0) (Q1 := vq_187 11 (S0_.1 10 0 3) S0_) (Q2 := vx_187 11 (S0_.1 10 0 3) S0_) rfl rfl (by decide) (vc_187 11 (S0_.1 10 0 3) S0_ hI_ (by decide) (by omega)) rfl (fun Sx3_ px6_ => ?_) (fun u_ Sx3_ px6_ => ?_)
    · obtain ⟨hIx4_, hFx5_, px6_⟩ := px6_
      refine Or.inr ⟨_, rfl, hIx4_, ai_fr_tr hF_ (fr_le hFx5_ rfl), ?_⟩
      refine ⟨?_, px6_.1, px6_.2.trans st0_⟩
      by_cases z_ : y_ = -1
      · exact Or.inl (by omega)
      · right; have := hg1_ z_; omega
    · exact (px6_.2.2.2).elim
  · have cx1_ : ¬ (y_ = (-1)) := of_decide_eq_false cx1_
    have hg2_ := hg1_ (by omega)
    refine sm_T_go 3 (c1 := (19, [some (.inr (.inr (some (7, 0)))), some (.inl s_), some (.inl d_), some (.inl y_), some (.inl (40 * d_ + y_))], [.inl (40 * d_ + y_), .inr (.inr (some (79, 0)))], S0_)) rfl ?_
    refine sm_T_iald (n := 640) rfl rfl (by omega) (by omega) ?_
    have bx8_ : 0 ≤ S0_.2.2.1 79 0 (40 * d_ + y_).toNat ∧ S0_.2.2.1 79 0 (40 * d_ + y_).toNat ≤ 5 := hI_.2 79 0 _
    refine sm_T_go 1 (c1 := (21, [some (.inr (.inr (some (7, 0)))), some (.inl s_), some (.inl d_), some (.inl y_), some (.inl (40 * d_ + y_))], [.inl 1, .inl (S0_.2.2.1 79 0 (40 * d_ + y_).toNat)], S0_)) rfl ?_
    refine sm_T_br (a := 0) (z := 19) rfl (fun cx9_ => ?_) (fun cx9_ => ?_)
    · have cx9_ : (S0_.2.2.1 79 0 (40 * d_ + y_).toNat) = 1 := of_decide_eq_true cx9_
      refine sm_T_go 4 (c1 := (45, [some (.inr (.inr (some (7, 0)))), some (.inl s_), some (.inl d_), some (.inl y_), some (.inl (40 * d_ + y_))], [.inl y_, .inl s_, .inl 10, .inr (.inr (some (7, 0)))], S0_)) rfl ?_
      refine sm_T_cal (d1 := 0) (Q1 := vq_140 10 s_ y_ o_ g_ c_ S0_) rfl rfl (by decide) (vc_140 10 s_ y_ o_ g_ c_ S0_ hI_ (by exact hx_.1) (by decide) (by omega) (by omega) (by exact hl_)) (fun u_ Sx10_ px13_ => ?_)
      obtain ⟨rfl, hIx11_, hFx12_, px13_⟩ := px13_
      have hFx14_ : ai_fr (sx_W vw_144) S0_ Sx10_ := ai_fr_tr hF_ (fr_le hFx12_ rfl)
      have e45_ := px13_
      have f45_ := hFx12_.1 7 0 17 rfl
      have w45_ := fr_arr hFx12_ (t := 80) (i := 0) rfl
      refine sm_T_go 3 (c1 := (54, [some (.inr (.inr (some (7, 0)))), some (.inl s_), some (.inl d_), some (.inl y_), some (.inl (40 * d_ + y_))], [.inl (40 * d_ + y_), .inr (.inr (some (80, 0)))], Sx10_)) rfl ?_
      refine sm_T_iald (n := 640) rfl rfl (by omega) (by omega) ?_
      have bx15_ : 0 ≤ Sx10_.2.2.1 80 0 (40 * d_ + y_).toNat ∧ Sx10_.2.2.1 80 0 (40 * d_ + y_).toNat ≤ 8 := hIx11_.2 80 0 _
      refine sm_T_ri rfl (Or.inl ⟨_, _, rfl, _, rfl, hIx11_, hFx14_, ?_⟩)
      refine ⟨?_, ?_, ?_, ?_⟩
      · rintro (z_ | z_)
        · omega
        · exact z_ (by omega)
      · rw [w45_]; exact hg2_.2.2
      · rw [hy_] at e45_; exact e45_
      · rw [f45_]; exact hx_.2
    · have cx9_ : ¬ ((S0_.2.2.1 79 0 (40 * d_ + y_).toNat) = 1) := of_decide_eq_false cx9_
      have bx16_ : 0 ≤ S0_.1 10 0 3 ∧ S0_.1 10 0 3 ≤ 1280 := hI_.1 10 0 3 rfl
      refine sm_T_go 6 (c1 := (37, [some (.inr (.inr (some (7, 0)))), some (.inl s_), some (.inl d_), some (.inl y_), some (.inl (40 * d_ + y_))], [.inl (S0_.1 10 0 3), .inl 11, .inr (.inr (some (10, 0)))], S0_)) rfl ?_
      refine sm_T_calx (d1 := 0) (Q1 := vq_187 11 (S0_.1 10 0 3) S0_) (Q2 := vx_187 11 (S0_.1 10 0 3) S0_) rfl rfl (by decide) (vc_187 11 (S0_.1 10 0 3) S0_ hI_ (by decide) (by omega)) rfl (fun Sx17_ px20_ => ?_) (fun u_ Sx17_ px20_ => ?_)
      · obtain ⟨hIx18_, hFx19_, px20_⟩ := px20_
        refine Or.inr ⟨_, rfl, hIx18_, ai_fr_tr hF_ (fr_le hFx19_ rfl), ?_⟩
        refine ⟨?_, px20_.1, px20_.2.trans st0_⟩
        by_cases z_ : y_ = -1
        · exact Or.inl (by omega)
        · right; have := hg1_ z_; omega
      · exact (px20_.2.2.2).elim
end
/-! 99.x5a -/
section
/-! the class reader: names; written by wip/p55/gen/vg -/
/-! Reader.readNamed -/
def vw_143 : sx_Wl := ([(7, 2), (7, 16), (10, 2), (10, 3), (10, 4), (10, 5), (10, 6), (10, 7), (10, 8)], [74, 84], [])
def vq_143 (o_ : List (Int × Nat)) (g_ : List Int) (c_ : List Int) (b_ : Nat → Int) (n_ : Nat) (p_ : Nat) (A_ : pA) (M_ : Nat) (S0_ : sm_S) (u_ : Option sm_V) (S1_ : sm_S) : Prop := u_ = none ∧ gi S1_ ∧ ai_fr (sx_W vw_143) S0_ S1_ ∧ (∃ r_, p_na b_ n_ A_ M_ p_ = .inr r_ ∧ xr false o_ (r_.2.1 :: g_) (r_.2.2 ++ c_) S1_ ∧ ct b_ n_ r_.1 S1_)
def vx_143 (o_ : List (Int × Nat)) (g_ : List Int) (c_ : List Int) (b_ : Nat → Int) (n_ : Nat) (p_ : Nat) (A_ : pA) (M_ : Nat) (S0_ : sm_S) (S1_ : sm_S) : Prop := gi S1_ ∧ ai_fr (sx_W vw_143) S0_ S1_ ∧ (∃ e_, p_na b_ n_ A_ M_ p_ = .inl e_ ∧ ter S1_ e_)
set_option maxHeartbeats 400000 in
set_option maxRecDepth 20000 in
theorem vl_143 {sc_ : Nat × (Nat → Int)} (o_ : List (Int × Nat)) (g_ : List Int) (c_ : List Int) (b_ : Nat → Int) (n_ : Nat) (p_ : Nat) (A_ : pA) (M_ : Nat) (S0_ : sm_S) (hx_ : xr false o_ g_ c_ S0_) (hc_ : ct b_ n_ p_ S0_) (hk_ : lx_kd b_ n_ p_ = 1) (hr_ : er b_ n_ A_ M_ S0_) (ho_ : g_.length ≤ 487) (hl_ : c_.length ≤ 65530) : ∀ nn_ : Nat, (∀ (dot_ : Int) (w_ : Int) (S_ : sm_S), gi S_ → ai_fr (sx_W vw_143) S0_ S_ → ((∃ q_ l_, ct b_ n_ q_ S_ ∧ xr false o_ g_ (l_ ++ c_) S_ ∧ l_.length ≤ 1 ∧ (0 ≤ w_ ∧ w_ ≤ 8) ∧ ((dot_ = 0 ∧ p_na b_ n_ A_ M_ p_ = .inr (q_, w_, l_)) ∨ (dot_ = 1 ∧ p_na b_ n_ A_ M_ p_ = p_bi b_ n_ w_ l_ q_))) ∧ True) → (0) < nn_ → sm_T (mt_P sc_) 2 143 (274, [some (.inr (.inr (some (7, 0)))), none, none, none, some (.inl dot_), none, some (.inl w_)], [], S_) (fun r_ => (∃ u_ S1_, r_ = (.inl u_, S1_, 0) ∧ vq_143 o_ g_ c_ b_ n_ p_ A_ M_ S0_ u_ S1_) ∨ ∃ S1_, r_ = (.inr 2, S1_, 1) ∧ vx_143 o_ g_ c_ b_ n_ p_ A_ M_ S0_ S1_)) := by
  intro nn_
  induction nn_ with
  | zero => exact fun _ _ _ _ _ _ h_ => absurd h_ (Nat.not_lt_zero _)
  | succ nn_ ih_ =>
    rintro dot_ w_ S_ hI_ hF_ ⟨h1_, -⟩ hm_
    obtain ⟨q_, l_, c1_, x1_, l1_, w1_, h2_⟩ := h1_
    have hn1_ := c1_.2.2.1
    have st1_ := c1_.2.2.2.2.2.1
    have kd1_ := c1_.2.2.2.2.2.2.2.1
    have hp1_ := c1_.2.2.2.1
    have l2_ : (l_ ++ c_).length ≤ 65532 := by rw [List.length_append]; omega
    refine sm_T_go 1 (c1 := (276, [some (.inr (.inr (some (7, 0)))), none, none, none, some (.inl dot_), none, some (.inl w_)], [.inl dot_], S_)) rfl ?_
    refine sm_T_b0 (a := 0) (z := 26) rfl (fun cx1_ => ?_) (fun cx1_ => ?_)
    · have cx1_ : dot_ = 0 := of_decide_eq_true cx1_
      refine sm_T_go 2 (c1 := (305, [some (.inr (.inr (some (7, 0)))), none, none, none, some (.inl dot_), none, some (.inl w_)], [.inl dot_, .inr (.inr (some (7, 0)))], S_)) rfl ?_
      refine sm_T_b0 (a := 0) (z := 7) rfl (fun cx2_ => ?_) (fun cx2_ => ?_)
      · have cx2_ : dot_ = 0 := of_decide_eq_true cx2_
        refine sm_T_go 1 (c1 := (314, [some (.inr (.inr (some (7, 0)))), none, none, none, some (.inl dot_), none, some (.inl w_)], [.inl w_, .inr (.inr (some (7, 0)))], S_)) rfl ?_
        refine sm_T_cal (d1 := 0) (Q1 := vq_138 w_ false o_ g_ _ S_) rfl rfl (by decide) (vc_138 w_ false o_ g_ _ S_ hI_ (by first | exact x5_.1 | exact x1_.1) (by omega) (by exact ho_)) (fun u_ Sx3_ px6_ => ?_)
        obtain ⟨rfl, hIx4_, hFx5_, px6_⟩ := px6_
        have hFx7_ : ai_fr (sx_W vw_143) S0_ Sx3_ := ai_fr_tr hF_ (fr_le hFx5_ rfl)
        have e314_ := px6_
        have f314_ := hFx5_.1 7 0 17 rfl
        have F314_ := hFx5_
        refine sm_T_rv rfl (Or.inl ⟨_, _, rfl, rfl, hIx4_, hFx7_, ?_⟩)
        rcases h2_ with h2_ | h2_
        · first | (exfalso; omega) | (refine ⟨(q_, w_, l_), h2_.2, ⟨e314_, f314_.trans x1_.2⟩, ct_fr c1_ F314_ rfl rfl rfl rfl rfl rfl rfl⟩)
        · first | (exfalso; omega) | (refine ⟨((lx_nx b_ n_ q_), 1, cw 11 (lx_vl b_ n_ q_) 0 :: l_), ?_, ⟨?_, f314_.trans x5_.2⟩, ct_fr c5_ F314_ rfl rfl rfl rfl rfl rfl rfl⟩; (rw [h2_.2]; unfold p_bi; rw [k3_]; show pb (p_ad b_ n_ q_) _ = _; rw [a5_, k4_.2.1]; rfl); (rw [k4_.2.1] at e314_; exact e314_))
      · have cx2_ : ¬ (dot_ = 0) := of_decide_eq_false cx2_
        exfalso; omega
    · have cx1_ : ¬ (dot_ = 0) := of_decide_eq_false cx1_
      refine sm_T_go 6 (c1 := (287, [some (.inr (.inr (some (7, 0)))), none, none, none, some (.inl dot_), none, some (.inl w_)], [.inl 1, .inl w_, .inl 0, .inr (.inr (some (7, 0))), .inl 11, .inr (.inr (some (7, 0)))], S_)) rfl ?_
      refine sm_T_bin (w := w_ - 1) rfl (bi_sub (by omega) (by omega) (by omega)) ?_
      refine sm_T_calx (d1 := 1) (Q1 := vq_122 0 (w_ - 1) b_ n_ q_ S_) (Q2 := vx_122 0 (w_ - 1) b_ n_ q_ S_) rfl rfl (by decide) (vc_122 0 (w_ - 1) b_ n_ q_ S_ hI_ (by exact c1_)) rfl (fun Sx8_ px11_ => ?_) (fun u_ Sx8_ px11_ => ?_)
      · obtain ⟨hIx9_, hFx10_, px11_⟩ := px11_
        refine Or.inr ⟨_, rfl, hIx9_, ai_fr_tr hF_ (fr_le hFx10_ rfl), ?_⟩
        obtain ⟨e_, k1_, k2_⟩ := px11_
        refine ⟨e_, ?_, k2_⟩
        rcases h2_ with h2_ | h2_
        · omega
        · rw [h2_.2]; unfold p_bi; rw [k1_]; rfl
      obtain ⟨vx13_, rfl, hIx9_, hFx10_, px11_⟩ := px11_
      have hFx12_ : ai_fr (sx_W vw_143) S0_ Sx8_ := ai_fr_tr hF_ (fr_le hFx10_ rfl)
      have k3_ := px11_
      have k4_ := p_nu_ok k3_
      have c2_ := ct_fr c1_ hFx10_ rfl rfl rfl rfl rfl rfl rfl
      have x2_ := xr_fr x1_ hFx10_ rfl rfl rfl rfl rfl rfl rfl rfl rfl
      refine sm_T_go 1 (c1 := (292, [some (.inr (.inr (some (7, 0)))), none, none, none, some (.inl dot_), none, some (.inl w_)], [.inl 0, .inl vx13_, .inl 11, .inr (.inr (some (7, 0)))], Sx8_)) rfl ?_
      refine sm_T_cal (d1 := 0) (Q1 := vq_140 11 vx13_ 0 o_ g_ (l_ ++ c_) Sx8_) rfl rfl (by decide) (vc_140 11 vx13_ 0 o_ g_ (l_ ++ c_) Sx8_ hIx9_ (by exact x2_.1) (by decide) (by omega) (by decide) (by omega)) (fun u_ Sx14_ px17_ => ?_)
      obtain ⟨rfl, hIx15_, hFx16_, px17_⟩ := px17_
      have hFx18_ : ai_fr (sx_W vw_143) S0_ Sx14_ := ai_fr_tr hFx12_ (fr_le hFx16_ rfl)
      have x3_ := px17_
      have f3_ := hFx16_.1 7 0 17 rfl
      have c3_ := ct_fr c2_ hFx16_ rfl rfl rfl rfl rfl rfl rfl
      have x4_ : xr false o_ g_ _ _ := ⟨x3_, f3_.trans x2_.2⟩
      refine sm_T_go 2 (c1 := (299, [some (.inr (.inr (some (7, 0)))), none, none, none, some (.inl dot_), none, some (.inl w_)], [.inr (.inr (some (10, 0)))], Sx14_)) rfl ?_
      refine sm_T_calx (d1 := 1) (Q1 := vq_191 b_ n_ (lx_en b_ n_ q_) Sx14_) (Q2 := vx_191 b_ n_ (lx_en b_ n_ q_) Sx14_) rfl rfl (by decide) (vc_191 b_ n_ (lx_en b_ n_ q_) Sx14_ hIx15_ (by exact c3_.1) (by exact c3_.2.1) (by exact c3_.2.2.1) (by exact c3_.2.2.2.2.2.2.1) (by exact (lx_en_le (b := b_) c3_.2.2.2.1).2)) rfl (fun Sx19_ px22_ => ?_) (fun u_ Sx19_ px22_ => ?_)
      · obtain ⟨hIx20_, hFx21_, px22_⟩ := px22_
        refine Or.inr ⟨_, rfl, hIx20_, ai_fr_tr hFx18_ (fr_le hFx21_ rfl), ?_⟩
        refine ⟨(1, (lx_nx b_ n_ q_)), ?_, px22_.2⟩
        rcases h2_ with h2_ | h2_
        · omega
        · rw [h2_.2]; unfold p_bi; rw [k3_]; show pb (p_ad b_ n_ q_) _ = _; rw [p_ad_x px22_.1]; rfl
      obtain ⟨rfl, hIx20_, hFx21_, px22_⟩ := px22_
      have hFx23_ : ai_fr (sx_W vw_143) S0_ Sx19_ := ai_fr_tr hFx18_ (fr_le hFx21_ rfl)
      have c5_ : ct b_ n_ (lx_nx b_ n_ q_) _ := px22_
      have a5_ := p_ad_c px22_
      have x5_ := xr_fr x4_ hFx21_ rfl rfl rfl rfl rfl rfl rfl rfl rfl
      have st5_ := c5_.2.2.2.2.2.1
      have kd5_ := c5_.2.2.2.2.2.2.2.1
      have hp5_ := c5_.2.2.2.1
      refine sm_T_go 2 (c1 := (305, [some (.inr (.inr (some (7, 0)))), none, none, none, some (.inl dot_), none, some (.inl w_)], [.inl dot_, .inr (.inr (some (7, 0)))], Sx19_)) rfl ?_
      refine sm_T_b0 (a := 0) (z := 7) rfl (fun cx24_ => ?_) (fun cx24_ => ?_)
      · have cx24_ : dot_ = 0 := of_decide_eq_true cx24_
        refine sm_T_go 1 (c1 := (314, [some (.inr (.inr (some (7, 0)))), none, none, none, some (.inl dot_), none, some (.inl w_)], [.inl w_, .inr (.inr (some (7, 0)))], Sx19_)) rfl ?_
        refine sm_T_cal (d1 := 0) (Q1 := vq_138 w_ false o_ g_ _ Sx19_) rfl rfl (by decide) (vc_138 w_ false o_ g_ _ Sx19_ hIx20_ (by first | exact x5_.1 | exact x1_.1) (by omega) (by exact ho_)) (fun u_ Sx25_ px28_ => ?_)
        obtain ⟨rfl, hIx26_, hFx27_, px28_⟩ := px28_
        have hFx29_ : ai_fr (sx_W vw_143) S0_ Sx25_ := ai_fr_tr hFx23_ (fr_le hFx27_ rfl)
        have e314_ := px28_
        have f314_ := hFx27_.1 7 0 17 rfl
        have F314_ := hFx27_
        refine sm_T_rv rfl (Or.inl ⟨_, _, rfl, rfl, hIx26_, hFx29_, ?_⟩)
        rcases h2_ with h2_ | h2_
        · first | (exfalso; omega) | (refine ⟨(q_, w_, l_), h2_.2, ⟨e314_, f314_.trans x1_.2⟩, ct_fr c1_ F314_ rfl rfl rfl rfl rfl rfl rfl⟩)
        · first | (exfalso; omega) | (refine ⟨((lx_nx b_ n_ q_), 1, cw 11 (lx_vl b_ n_ q_) 0 :: l_), ?_, ⟨?_, f314_.trans x5_.2⟩, ct_fr c5_ F314_ rfl rfl rfl rfl rfl rfl rfl⟩; (rw [h2_.2]; unfold p_bi; rw [k3_]; show pb (p_ad b_ n_ q_) _ = _; rw [a5_, k4_.2.1]; rfl); (rw [k4_.2.1] at e314_; exact e314_))
      · have cx24_ : ¬ (dot_ = 0) := of_decide_eq_false cx24_
        refine sm_T_go 2 (c1 := (314, [some (.inr (.inr (some (7, 0)))), none, none, none, some (.inl dot_), none, some (.inl w_)], [.inl 1, .inr (.inr (some (7, 0)))], Sx19_)) rfl ?_
        refine sm_T_cal (d1 := 0) (Q1 := vq_138 1 false o_ g_ _ Sx19_) rfl rfl (by decide) (vc_138 1 false o_ g_ _ Sx19_ hIx20_ (by first | exact x5_.1 | exact x1_.1) (by omega) (by exact ho_)) (fun u_ Sx30_ px33_ => ?_)
        obtain ⟨rfl, hIx31_, hFx32_, px33_⟩ := px33_
        have hFx34_ : ai_fr (sx_W vw_143) S0_ Sx30_ := ai_fr_tr hFx23_ (fr_le hFx32_ rfl)
        have e314_ := px33_
        have f314_ := hFx32_.1 7 0 17 rfl
        have F314_ := hFx32_
        refine sm_T_rv rfl (Or.inl ⟨_, _, rfl, rfl, hIx31_, hFx34_, ?_⟩)
        rcases h2_ with h2_ | h2_
        · first | (exfalso; omega) | (refine ⟨(q_, w_, l_), h2_.2, ⟨e314_, f314_.trans x1_.2⟩, ct_fr c1_ F314_ rfl rfl rfl rfl rfl rfl rfl⟩)
        · first | (exfalso; omega) | (refine ⟨((lx_nx b_ n_ q_), 1, cw 11 (lx_vl b_ n_ q_) 0 :: l_), ?_, ⟨?_, f314_.trans x5_.2⟩, ct_fr c5_ F314_ rfl rfl rfl rfl rfl rfl rfl⟩; (rw [h2_.2]; unfold p_bi; rw [k3_]; show pb (p_ad b_ n_ q_) _ = _; rw [a5_, k4_.2.1]; rfl); (rw [k4_.2.1] at e314_; exact e314_))
set_option maxHeartbeats 400000 in
set_option maxRecDepth 20000 in
theorem vc_143 {sc_ : Nat × (Nat → Int)} (o_ : List (Int × Nat)) (g_ : List Int) (c_ : List Int) (b_ : Nat → Int) (n_ : Nat) (p_ : Nat) (A_ : pA) (M_ : Nat) (S0_ : sm_S) (hI_ : gi S0_) (hx_ : xr false o_ g_ c_ S0_) (hc_ : ct b_ n_ p_ S0_) (hk_ : lx_kd b_ n_ p_ = 1) (hr_ : er b_ n_ A_ M_ S0_) (ho_ : g_.length ≤ 487) (hl_ : c_.length ≤ 65530) : sm_T (mt_P sc_) 2 143 (0, [some (.inr (.inr (some (7, 0)))), none, none, none, none, none, none], [], S0_) (fun r_ => (∃ u_ S1_, r_ = (.inl u_, S1_, 0) ∧ vq_143 o_ g_ c_ b_ n_ p_ A_ M_ S0_ u_ S1_) ∨ ∃ S1_, r_ = (.inr 2, S1_, 1) ∧ vx_143 o_ g_ c_ b_ n_ p_ A_ M_ S0_ S1_) := by
  have hF_ : ai_fr (sx_W vw_143) S0_ S0_ := ai_fr_rf
  have st0_ := hc_.2.2.2.2.2.1
  have kd0_ := hc_.2.2.2.2.2.2.2.1
  have hp0_ := hc_.2.2.2.1
  have hn1_ := hc_.2.2.1
  have hM_ := hr_.1
  have hM1_ := hr_.2.1.1
  have hA0_ := hr_.2.1.2 M_ (Nat.le_refl _)
  have hA1_ := hA0_.1
  have bx1_ : 0 ≤ S0_.1 10 0 3 ∧ S0_.1 10 0 3 ≤ 1280 := hI_.1 10 0 3 rfl
  have bx2_ : 0 ≤ S0_.1 7 0 3 ∧ S0_.1 7 0 3 ≤ 16 := hI_.1 7 0 3 rfl
  refine sm_T_go 9 (c1 := (17, [some (.inr (.inr (some (7, 0)))), some (.inl (S0_.1 10 0 3)), none, none, none, none, none], [.inr (.inr (some (10, 0))), .inl (S0_.1 7 0 3), .inr (.inr (some (7, 0)))], S0_)) rfl ?_
  refine sm_T_cal (d1 := 0) (Q1 := vq_189 b_ n_ p_ S0_) rfl rfl (by decide) (vc_189 b_ n_ p_ S0_ hI_ (by exact hc_) (by exact hk_)) (fun u_ Sx3_ px6_ => ?_)
  obtain ⟨rfl, vx8_, rfl, px6_⟩ := px6_
  have e17_ := px6_
  refine sm_T_cal (d1 := 1) (Q1 := vq_119 (S0_.1 7 0 3) vx8_ b_ n_ M_ (A_.1 M_) (fun s_ => A_.2.1 (40 * M_ + s_)) p_ S0_) rfl rfl (by decide) (vc_119 (S0_.1 7 0 3) vx8_ b_ n_ M_ (A_.1 M_) (fun s_ => A_.2.1 (40 * M_ + s_)) p_ S0_ hI_ (by exact hc_.1) (by exact hn1_) (by exact hM_) (by exact er_nmr hr_ (Nat.le_refl _)) (by exact e17_) (by exact ⟨hc_.2.2.2.1, hk_⟩)) (fun u_ Sx9_ px12_ => ?_)
  obtain ⟨rfl, vx14_, rfl, px12_⟩ := px12_
  have e20_ : vx14_ = p_fn b_ n_ A_ M_ p_ := px12_
  have hix_ : ∀ s_ : Nat, vx14_ = (s_ : Int) → (40 * (S0_.1 7 0 3) + vx14_).toNat = 40 * M_ + s_ := by intro s_ z_; omega
  refine sm_T_go 3 (c1 := (26, [some (.inr (.inr (some (7, 0)))), some (.inl (S0_.1 10 0 3)), some (.inl vx14_), none, none, none, none], [.inl (-1), .inl vx14_], S0_)) rfl ?_
  refine sm_T_br (a := 1) (z := 13) rfl (fun cx15_ => ?_) (fun cx15_ => ?_)
  · have cx15_ : vx14_ ≠ (-1) := of_decide_eq_true cx15_
    obtain ⟨s9_, q1_, q2_, q3_, -⟩ := p_fn_b (b_ := b_) (n_ := n_) (A_ := A_) (m_ := M_) (p_ := p_) (by omega)
    have hiy_ := hix_ s9_ (e20_.trans q1_)
    have hA2_ := hA0_.2 s9_ q2_
    have hA3_ := hA2_.2.2.1
    refine sm_T_go 3 (c1 := (45, [some (.inr (.inr (some (7, 0)))), some (.inl (S0_.1 10 0 3)), some (.inl vx14_), none, none, none, none], [.inl 40, .inl (S0_.1 7 0 3)], S0_)) rfl ?_
    refine sm_T_bin (w := 40 * (S0_.1 7 0 3)) rfl (bi_mul (by omega) (by omega) (by omega)) ?_
    refine sm_T_go 1 (c1 := (47, [some (.inr (.inr (some (7, 0)))), some (.inl (S0_.1 10 0 3)), some (.inl vx14_), none, none, none, none], [.inl vx14_, .inl (40 * (S0_.1 7 0 3))], S0_)) rfl ?_
    refine sm_T_bin (w := 40 * (S0_.1 7 0 3) + vx14_) rfl (bi_add (by omega) (by omega) (by omega)) ?_
    refine sm_T_go 3 (c1 := (53, [some (.inr (.inr (some (7, 0)))), some (.inl (S0_.1 10 0 3)), some (.inl vx14_), some (.inl (40 * (S0_.1 7 0 3) + vx14_)), none, none, none], [.inr (.inr (some (10, 0)))], S0_)) rfl ?_
    refine sm_T_calx (d1 := 1) (Q1 := vq_191 b_ n_ (lx_en b_ n_ p_) S0_) (Q2 := vx_191 b_ n_ (lx_en b_ n_ p_) S0_) rfl rfl (by decide) (vc_191 b_ n_ (lx_en b_ n_ p_) S0_ hI_ (by exact hc_.1) (by exact hc_.2.1) (by exact hc_.2.2.1) (by exact hc_.2.2.2.2.2.2.1) (by exact (lx_en_le (b := b_) hc_.2.2.2.1).2)) rfl (fun Sx16_ px19_ => ?_) (fun u_ Sx16_ px19_ => ?_)
    · obtain ⟨hIx17_, hFx18_, px19_⟩ := px19_
      refine Or.inr ⟨_, rfl, hIx17_, ai_fr_tr hF_ (fr_le hFx18_ rfl), ?_⟩
      exact ⟨(1, (lx_nx b_ n_ p_)), na_1 q1_ (p_ad_x px19_.1), px19_.2⟩
    obtain ⟨rfl, hIx17_, hFx18_, px19_⟩ := px19_
    have hFx20_ : ai_fr (sx_W vw_143) S0_ Sx16_ := ai_fr_tr hF_ (fr_le hFx18_ rfl)
    have ex21_ : Sx16_.1 7 0 3 = S0_.1 7 0 3 := hFx18_.1 7 0 3 rfl
    have c1_ : ct b_ n_ (lx_nx b_ n_ p_) _ := px19_
    have a1_ := p_ad_c px19_
    have x1_ := xr_fr hx_ hFx18_ rfl rfl rfl rfl rfl rfl rfl rfl rfl
    have r1_ := er_fr hr_ hFx18_ rfl rfl rfl rfl rfl rfl
    have st1_ := c1_.2.2.2.2.2.1
    have kd1_ := c1_.2.2.2.2.2.2.2.1
    have hp1_ := c1_.2.2.2.1
    have bx22_ : (-128) ≤ Sx16_.1 10 0 2 ∧ Sx16_.1 10 0 2 ≤ 257 := hIx17_.1 10 0 2 rfl
    refine sm_T_go 4 (c1 := (65, [some (.inr (.inr (some (7, 0)))), some (.inl (S0_.1 10 0 3)), some (.inl vx14_), some (.inl (40 * (S0_.1 7 0 3) + vx14_)), none, none, none], [.inl 46, .inl (Sx16_.1 10 0 2)], Sx16_)) rfl ?_
    refine sm_T_br (a := 1) (z := 7) rfl (fun cx23_ => ?_) (fun cx23_ => ?_)
    · have cx23_ : (Sx16_.1 10 0 2) ≠ 46 := of_decide_eq_true cx23_
      refine sm_T_go 14 (c1 := (159, [some (.inr (.inr (some (7, 0)))), some (.inl (S0_.1 10 0 3)), some (.inl vx14_), some (.inl (40 * (S0_.1 7 0 3) + vx14_)), some (.inl 0), some (.inl 0), none], [.inl (40 * (S0_.1 7 0 3) + vx14_), .inr (.inr (some (79, 0))), .inl 0], Sx16_)) rfl ?_
      refine sm_T_iald (n := 640) rfl rfl (by omega) (by omega) ?_
      have bx24_ : 0 ≤ Sx16_.2.2.1 79 0 (40 * (S0_.1 7 0 3) + vx14_).toNat ∧ Sx16_.2.2.1 79 0 (40 * (S0_.1 7 0 3) + vx14_).toNat ≤ 5 := hIx17_.2 79 0 _
      refine sm_T_go 1 (c1 := (161, [some (.inr (.inr (some (7, 0)))), some (.inl (S0_.1 10 0 3)), some (.inl vx14_), some (.inl (40 * (S0_.1 7 0 3) + vx14_)), some (.inl 0), some (.inl 0), none], [.inl 5, .inl (Sx16_.2.2.1 79 0 (40 * (S0_.1 7 0 3) + vx14_).toNat), .inl 0], Sx16_)) rfl ?_
      refine sm_T_br (a := 1) (z := 7) rfl (fun cx25_ => ?_) (fun cx25_ => ?_)
      · have cx25_ : (Sx16_.2.2.1 79 0 (40 * (S0_.1 7 0 3) + vx14_).toNat) ≠ 5 := of_decide_eq_true cx25_
        first | have t4_ := er_at r2_ q2_ hiy_ | have t4_ := er_at r1_ q2_ hiy_
        refine sm_T_go 5 (c1 := (187, [some (.inr (.inr (some (7, 0)))), some (.inl (S0_.1 10 0 3)), some (.inl vx14_), some (.inl (40 * (S0_.1 7 0 3) + vx14_)), some (.inl 0), some (.inl 0), none], [.inl (40 * (S0_.1 7 0 3) + vx14_), .inr (.inr (some (80, 0)))], Sx16_)) rfl ?_
        refine sm_T_iald (n := 640) rfl rfl (by omega) (by omega) ?_
        have bx26_ : 0 ≤ Sx16_.2.2.1 80 0 (40 * (S0_.1 7 0 3) + vx14_).toNat ∧ Sx16_.2.2.1 80 0 (40 * (S0_.1 7 0 3) + vx14_).toNat ≤ 8 := hIx17_.2 80 0 _
        refine sm_T_go 7 (c1 := (271, [some (.inr (.inr (some (7, 0)))), some (.inl (S0_.1 10 0 3)), some (.inl vx14_), some (.inl (40 * (S0_.1 7 0 3) + vx14_)), some (.inl 0), some (.inl 0), some (.inl (Sx16_.2.2.1 80 0 (40 * (S0_.1 7 0 3) + vx14_).toNat))], [.inl 0, .inl vx14_, .inl 9, .inr (.inr (some (7, 0)))], Sx16_)) rfl ?_
        refine sm_T_cal (d1 := 0) (Q1 := vq_140 9 vx14_ 0 o_ g_ c_ Sx16_) rfl rfl (by decide) (vc_140 9 vx14_ 0 o_ g_ c_ Sx16_ hIx17_ (by first | exact x2_.1 | exact x1_.1) (by decide) (by omega) (by decide) (by omega)) (fun u_ Sx27_ px30_ => ?_)
        obtain ⟨rfl, hIx28_, hFx29_, px30_⟩ := px30_
        have hFx31_ : ai_fr (sx_W vw_143) S0_ Sx27_ := ai_fr_tr hFx20_ (fr_le hFx29_ rfl)
        have ex32_ : Sx27_.1 10 0 2 = Sx16_.1 10 0 2 := hFx29_.1 10 0 2 rfl
        have e271_ := px30_
        have f271_ := hFx29_.1 7 0 17 rfl
        have F271_ := hFx29_
        rw [e20_, q1_] at e271_
        refine sm_T_go 0 (c1 := (274, [some (.inr (.inr (some (7, 0)))), some (.inl (S0_.1 10 0 3)), some (.inl vx14_), some (.inl (40 * (S0_.1 7 0 3) + vx14_)), some (.inl 0), some (.inl 0), some (.inl (Sx16_.2.2.1 80 0 (40 * (S0_.1 7 0 3) + vx14_).toNat))], [], Sx27_)) rfl ?_
        refine sm_T_wk [some (.inr (.inr (some (7, 0)))), none, none, none, some (.inl 0), none, some (.inl (Sx16_.2.2.1 80 0 (40 * (S0_.1 7 0 3) + vx14_).toNat))] (by exact ⟨rfl, rfl, rfl, trivial⟩) ?_
        refine (vl_143 o_ g_ c_ b_ n_ p_ A_ M_ S0_ hx_ hc_ hk_ hr_ ho_ hl_ _) 0 (Sx16_.2.2.1 80 0 (40 * (S0_.1 7 0 3) + vx14_).toNat) Sx27_ hIx28_ hFx31_ ⟨?_, trivial⟩ (Nat.lt_succ_self _)
        · first | (refine ⟨(lx_nx b_ n_ (lx_nx b_ n_ p_)), [cw 9 s9_ 0], ct_fr c2_ F271_ rfl rfl rfl rfl rfl rfl rfl, ⟨e271_, f271_.trans x2_.2⟩, by simp, by omega, Or.inr ⟨rfl, ?_⟩⟩; rw [na_5 q1_ a1_ (by omega) a2_ (by omega), t4_.2.1]; exact if_neg (by omega)) | (refine ⟨(lx_nx b_ n_ p_), [cw 9 s9_ 0], ct_fr c1_ F271_ rfl rfl rfl rfl rfl rfl rfl, ⟨e271_, f271_.trans x1_.2⟩, by simp, by omega, Or.inl ⟨rfl, ?_⟩⟩; rw [na_2 q1_ a1_ (by omega), t4_.2.1]; exact if_neg (by omega)) | (refine ⟨(lx_nx b_ n_ (lx_nx b_ n_ (lx_nx b_ n_ (lx_nx b_ n_ p_)))), [cw 10 s9_ (p_fn b_ n_ A_ (A_.2.2.2.2 (40 * M_ + s9_)).toNat (lx_nx b_ n_ (lx_nx b_ n_ p_)))], c4_, ?_, by simp, by rw [e220_.2.1, wb2_]; exact wb1_, Or.inr ⟨rfl, ?_⟩⟩; (rw [e20_, q1_] at x4_; exact x4_); (rw [na_4 q1_ a1_ (by omega) a2_ (by omega), if_pos h5_, pa_5 e220_.1 a3_ (by omega) a4_, e220_.2.1])) | (refine ⟨(lx_nx b_ n_ (lx_nx b_ n_ (lx_nx b_ n_ p_))), [cw 10 s9_ (p_fn b_ n_ A_ (A_.2.2.2.2 (40 * M_ + s9_)).toNat (lx_nx b_ n_ (lx_nx b_ n_ p_)))], c3_, ?_, by simp, by rw [e220_.2.1, wb2_]; exact wb1_, Or.inl ⟨rfl, ?_⟩⟩; (rw [e20_, q1_] at x3_; exact x3_); (rw [na_4 q1_ a1_ (by omega) a2_ (by omega), if_pos h5_, pa_3 e220_.1 a3_ (by omega), e220_.2.1]))
      · have cx25_ : ¬ ((Sx16_.2.2.1 79 0 (40 * (S0_.1 7 0 3) + vx14_).toNat) ≠ 5) := of_decide_eq_false cx25_
        first | have t4_ := er_at r2_ q2_ hiy_ | have t4_ := er_at r1_ q2_ hiy_
        refine sm_T_go 7 (c1 := (179, [some (.inr (.inr (some (7, 0)))), some (.inl (S0_.1 10 0 3)), some (.inl vx14_), some (.inl (40 * (S0_.1 7 0 3) + vx14_)), some (.inl 0), some (.inl 0), none], [.inl (S0_.1 10 0 3), .inl 11, .inr (.inr (some (10, 0)))], Sx16_)) rfl ?_
        refine sm_T_calx (d1 := 0) (Q1 := vq_187 11 (S0_.1 10 0 3) Sx16_) (Q2 := vx_187 11 (S0_.1 10 0 3) Sx16_) rfl rfl (by decide) (vc_187 11 (S0_.1 10 0 3) Sx16_ hIx17_ (by decide) (by omega)) rfl (fun Sx33_ px36_ => ?_) (fun u_ Sx33_ px36_ => ?_)
        · obtain ⟨hIx34_, hFx35_, px36_⟩ := px36_
          refine Or.inr ⟨_, rfl, hIx34_, ai_fr_tr hFx20_ (fr_le hFx35_ rfl), ?_⟩
          first | (have t5_ := (er_at r2_ q2_ hiy_).1; refine ⟨(11, p_), ?_, px36_.1, px36_.2.trans st0_⟩; first | (rw [na_4 q1_ a1_ (by omega) a2_ (by omega)]; exact if_neg (by omega)) | (rw [na_5 q1_ a1_ (by omega) a2_ (by omega)]; exact if_pos (by omega))) | (have t5_ := (er_at r1_ q2_ hiy_).1; refine ⟨(11, p_), ?_, px36_.1, px36_.2.trans st0_⟩; rw [na_2 q1_ a1_ (by omega)]; exact if_pos (by omega))
        · exact (px36_.2.2.2).elim
    · have cx23_ : ¬ ((Sx16_.1 10 0 2) ≠ 46) := of_decide_eq_false cx23_
      refine sm_T_go 7 (c1 := (84, [some (.inr (.inr (some (7, 0)))), some (.inl (S0_.1 10 0 3)), some (.inl vx14_), some (.inl (40 * (S0_.1 7 0 3) + vx14_)), some (.inl 1), none, none], [.inr (.inr (some (10, 0)))], Sx16_)) rfl ?_
      refine sm_T_calx (d1 := 1) (Q1 := vq_191 b_ n_ (lx_en b_ n_ (lx_nx b_ n_ p_)) Sx16_) (Q2 := vx_191 b_ n_ (lx_en b_ n_ (lx_nx b_ n_ p_)) Sx16_) rfl rfl (by decide) (vc_191 b_ n_ (lx_en b_ n_ (lx_nx b_ n_ p_)) Sx16_ hIx17_ (by exact c1_.1) (by exact c1_.2.1) (by exact c1_.2.2.1) (by exact c1_.2.2.2.2.2.2.1) (by exact (lx_en_le (b := b_) c1_.2.2.2.1).2)) rfl (fun Sx38_ px41_ => ?_) (fun u_ Sx38_ px41_ => ?_)
      · obtain ⟨hIx39_, hFx40_, px41_⟩ := px41_
        refine Or.inr ⟨_, rfl, hIx39_, ai_fr_tr hFx20_ (fr_le hFx40_ rfl), ?_⟩
        exact ⟨(1, (lx_nx b_ n_ (lx_nx b_ n_ p_))), na_3 q1_ a1_ (by omega) (p_ad_x px41_.1), px41_.2⟩
      obtain ⟨rfl, hIx39_, hFx40_, px41_⟩ := px41_
      have hFx42_ : ai_fr (sx_W vw_143) S0_ Sx38_ := ai_fr_tr hFx20_ (fr_le hFx40_ rfl)
      have c2_ : ct b_ n_ (lx_nx b_ n_ (lx_nx b_ n_ p_)) _ := px41_
      have a2_ := p_ad_c px41_
      have x2_ := xr_fr x1_ hFx40_ rfl rfl rfl rfl rfl rfl rfl rfl rfl
      have r2_ := er_fr r1_ hFx40_ rfl rfl rfl rfl rfl rfl
      have st2_ := c2_.2.2.2.2.2.1
      have kd2_ := c2_.2.2.2.2.2.2.2.1
      have hp2_ := c2_.2.2.2.1
      have bx43_ : (-128) ≤ Sx38_.1 10 0 2 ∧ Sx38_.1 10 0 2 ≤ 257 := hIx39_.1 10 0 2 rfl
      refine sm_T_go 6 (c1 := (100, [some (.inr (.inr (some (7, 0)))), some (.inl (S0_.1 10 0 3)), some (.inl vx14_), some (.inl (40 * (S0_.1 7 0 3) + vx14_)), some (.inl 1), none, none], [.inl 2, .inl (Sx38_.1 10 0 2)], Sx38_)) rfl ?_
      refine sm_T_br (a := 0) (z := 29) rfl (fun cx44_ => ?_) (fun cx44_ => ?_)
      · have cx44_ : (Sx38_.1 10 0 2) = 2 := of_decide_eq_true cx44_
        refine sm_T_go 6 (c1 := (142, [some (.inr (.inr (some (7, 0)))), some (.inl (S0_.1 10 0 3)), some (.inl vx14_), some (.inl (40 * (S0_.1 7 0 3) + vx14_)), some (.inl 1), none, none], [.inl 1, .inl (Sx38_.1 10 0 2)], Sx38_)) rfl ?_
        refine sm_T_br (a := 1) (z := 7) rfl (fun cx45_ => ?_) (fun cx45_ => ?_)
        · have cx45_ : (Sx38_.1 10 0 2) ≠ 1 := of_decide_eq_true cx45_
          refine sm_T_go 6 (c1 := (159, [some (.inr (.inr (some (7, 0)))), some (.inl (S0_.1 10 0 3)), some (.inl vx14_), some (.inl (40 * (S0_.1 7 0 3) + vx14_)), some (.inl 1), some (.inl 0), none], [.inl (40 * (S0_.1 7 0 3) + vx14_), .inr (.inr (some (79, 0))), .inl 0], Sx38_)) rfl ?_
          refine sm_T_iald (n := 640) rfl rfl (by omega) (by omega) ?_
          have bx46_ : 0 ≤ Sx38_.2.2.1 79 0 (40 * (S0_.1 7 0 3) + vx14_).toNat ∧ Sx38_.2.2.1 79 0 (40 * (S0_.1 7 0 3) + vx14_).toNat ≤ 5 := hIx39_.2 79 0 _
          refine sm_T_go 1 (c1 := (161, [some (.inr (.inr (some (7, 0)))), some (.inl (S0_.1 10 0 3)), some (.inl vx14_), some (.inl (40 * (S0_.1 7 0 3) + vx14_)), some (.inl 1), some (.inl 0), none], [.inl 5, .inl (Sx38_.2.2.1 79 0 (40 * (S0_.1 7 0 3) + vx14_).toNat), .inl 0], Sx38_)) rfl ?_
          refine sm_T_br (a := 1) (z := 7) rfl (fun cx47_ => ?_) (fun cx47_ => ?_)
          · have cx47_ : (Sx38_.2.2.1 79 0 (40 * (S0_.1 7 0 3) + vx14_).toNat) ≠ 5 := of_decide_eq_true cx47_
            first | have t4_ := er_at r2_ q2_ hiy_ | have t4_ := er_at r1_ q2_ hiy_
            refine sm_T_go 5 (c1 := (187, [some (.inr (.inr (some (7, 0)))), some (.inl (S0_.1 10 0 3)), some (.inl vx14_), some (.inl (40 * (S0_.1 7 0 3) + vx14_)), some (.inl 1), some (.inl 0), none], [.inl (40 * (S0_.1 7 0 3) + vx14_), .inr (.inr (some (80, 0)))], Sx38_)) rfl ?_
            refine sm_T_iald (n := 640) rfl rfl (by omega) (by omega) ?_
            have bx48_ : 0 ≤ Sx38_.2.2.1 80 0 (40 * (S0_.1 7 0 3) + vx14_).toNat ∧ Sx38_.2.2.1 80 0 (40 * (S0_.1 7 0 3) + vx14_).toNat ≤ 8 := hIx39_.2 80 0 _
            refine sm_T_go 7 (c1 := (271, [some (.inr (.inr (some (7, 0)))), some (.inl (S0_.1 10 0 3)), some (.inl vx14_), some (.inl (40 * (S0_.1 7 0 3) + vx14_)), some (.inl 1), some (.inl 0), some (.inl (Sx38_.2.2.1 80 0 (40 * (S0_.1 7 0 3) + vx14_).toNat))], [.inl 0, .inl vx14_, .inl 9, .inr (.inr (some (7, 0)))], Sx38_)) rfl ?_
            refine sm_T_cal (d1 := 0) (Q1 := vq_140 9 vx14_ 0 o_ g_ c_ Sx38_) rfl rfl (by decide) (vc_140 9 vx14_ 0 o_ g_ c_ Sx38_ hIx39_ (by first | exact x2_.1 | exact x1_.1) (by decide) (by omega) (by decide) (by omega)) (fun u_ Sx49_ px52_ => ?_)
            obtain ⟨rfl, hIx50_, hFx51_, px52_⟩ := px52_
            have hFx53_ : ai_fr (sx_W vw_143) S0_ Sx49_ := ai_fr_tr hFx42_ (fr_le hFx51_ rfl)
            have ex54_ : Sx49_.1 10 0 2 = Sx38_.1 10 0 2 := hFx51_.1 10 0 2 rfl
            have e271_ := px52_
            have f271_ := hFx51_.1 7 0 17 rfl
            have F271_ := hFx51_
            rw [e20_, q1_] at e271_
            refine sm_T_go 0 (c1 := (274, [some (.inr (.inr (some (7, 0)))), some (.inl (S0_.1 10 0 3)), some (.inl vx14_), some (.inl (40 * (S0_.1 7 0 3) + vx14_)), some (.inl 1), some (.inl 0), some (.inl (Sx38_.2.2.1 80 0 (40 * (S0_.1 7 0 3) + vx14_).toNat))], [], Sx49_)) rfl ?_
            refine sm_T_wk [some (.inr (.inr (some (7, 0)))), none, none, none, some (.inl 1), none, some (.inl (Sx38_.2.2.1 80 0 (40 * (S0_.1 7 0 3) + vx14_).toNat))] (by exact ⟨rfl, rfl, rfl, trivial⟩) ?_
            refine (vl_143 o_ g_ c_ b_ n_ p_ A_ M_ S0_ hx_ hc_ hk_ hr_ ho_ hl_ _) 1 (Sx38_.2.2.1 80 0 (40 * (S0_.1 7 0 3) + vx14_).toNat) Sx49_ hIx50_ hFx53_ ⟨?_, trivial⟩ (Nat.lt_succ_self _)
            · first | (refine ⟨(lx_nx b_ n_ (lx_nx b_ n_ p_)), [cw 9 s9_ 0], ct_fr c2_ F271_ rfl rfl rfl rfl rfl rfl rfl, ⟨e271_, f271_.trans x2_.2⟩, by simp, by omega, Or.inr ⟨rfl, ?_⟩⟩; rw [na_5 q1_ a1_ (by omega) a2_ (by omega), t4_.2.1]; exact if_neg (by omega)) | (refine ⟨(lx_nx b_ n_ p_), [cw 9 s9_ 0], ct_fr c1_ F271_ rfl rfl rfl rfl rfl rfl rfl, ⟨e271_, f271_.trans x1_.2⟩, by simp, by omega, Or.inl ⟨rfl, ?_⟩⟩; rw [na_2 q1_ a1_ (by omega), t4_.2.1]; exact if_neg (by omega)) | (refine ⟨(lx_nx b_ n_ (lx_nx b_ n_ (lx_nx b_ n_ (lx_nx b_ n_ p_)))), [cw 10 s9_ (p_fn b_ n_ A_ (A_.2.2.2.2 (40 * M_ + s9_)).toNat (lx_nx b_ n_ (lx_nx b_ n_ p_)))], c4_, ?_, by simp, by rw [e220_.2.1, wb2_]; exact wb1_, Or.inr ⟨rfl, ?_⟩⟩; (rw [e20_, q1_] at x4_; exact x4_); (rw [na_4 q1_ a1_ (by omega) a2_ (by omega), if_pos h5_, pa_5 e220_.1 a3_ (by omega) a4_, e220_.2.1])) | (refine ⟨(lx_nx b_ n_ (lx_nx b_ n_ (lx_nx b_ n_ p_))), [cw 10 s9_ (p_fn b_ n_ A_ (A_.2.2.2.2 (40 * M_ + s9_)).toNat (lx_nx b_ n_ (lx_nx b_ n_ p_)))], c3_, ?_, by simp, by rw [e220_.2.1, wb2_]; exact wb1_, Or.inl ⟨rfl, ?_⟩⟩; (rw [e20_, q1_] at x3_; exact x3_); (rw [na_4 q1_ a1_ (by omega) a2_ (by omega), if_pos h5_, pa_3 e220_.1 a3_ (by omega), e220_.2.1]))
          · have cx47_ : ¬ ((Sx38_.2.2.1 79 0 (40 * (S0_.1 7 0 3) + vx14_).toNat) ≠ 5) := of_decide_eq_false cx47_
            first | have t4_ := er_at r2_ q2_ hiy_ | have t4_ := er_at r1_ q2_ hiy_
            refine sm_T_go 7 (c1 := (179, [some (.inr (.inr (some (7, 0)))), some (.inl (S0_.1 10 0 3)), some (.inl vx14_), some (.inl (40 * (S0_.1 7 0 3) + vx14_)), some (.inl 1), some (.inl 0), none], [.inl (S0_.1 10 0 3), .inl 11, .inr (.inr (some (10, 0)))], Sx38_)) rfl ?_
            refine sm_T_calx (d1 := 0) (Q1 := vq_187 11 (S0_.1 10 0 3) Sx38_) (Q2 := vx_187 11 (S0_.1 10 0 3) Sx38_) rfl rfl (by decide) (vc_187 11 (S0_.1 10 0 3) Sx38_ hIx39_ (by decide) (by omega)) rfl (fun Sx55_ px58_ => ?_) (fun u_ Sx55_ px58_ => ?_)
            · obtain ⟨hIx56_, hFx57_, px58_⟩ := px58_
              refine Or.inr ⟨_, rfl, hIx56_, ai_fr_tr hFx42_ (fr_le hFx57_ rfl), ?_⟩
              first | (have t5_ := (er_at r2_ q2_ hiy_).1; refine ⟨(11, p_), ?_, px58_.1, px58_.2.trans st0_⟩; first | (rw [na_4 q1_ a1_ (by omega) a2_ (by omega)]; exact if_neg (by omega)) | (rw [na_5 q1_ a1_ (by omega) a2_ (by omega)]; exact if_pos (by omega))) | (have t5_ := (er_at r1_ q2_ hiy_).1; refine ⟨(11, p_), ?_, px58_.1, px58_.2.trans st0_⟩; rw [na_2 q1_ a1_ (by omega)]; exact if_pos (by omega))
            · exact (px58_.2.2.2).elim
        · have cx45_ : ¬ ((Sx38_.1 10 0 2) ≠ 1) := of_decide_eq_false cx45_
          exfalso; omega
      · have cx44_ : ¬ ((Sx38_.1 10 0 2) = 2) := of_decide_eq_false cx44_
        refine sm_T_go 4 (c1 := (111, [some (.inr (.inr (some (7, 0)))), some (.inl (S0_.1 10 0 3)), some (.inl vx14_), some (.inl (40 * (S0_.1 7 0 3) + vx14_)), some (.inl 1), none, none], [.inl 1, .inl (Sx38_.1 10 0 2)], Sx38_)) rfl ?_
        refine sm_T_br (a := 0) (z := 18) rfl (fun cx60_ => ?_) (fun cx60_ => ?_)
        · have cx60_ : (Sx38_.1 10 0 2) = 1 := of_decide_eq_true cx60_
          refine sm_T_go 6 (c1 := (142, [some (.inr (.inr (some (7, 0)))), some (.inl (S0_.1 10 0 3)), some (.inl vx14_), some (.inl (40 * (S0_.1 7 0 3) + vx14_)), some (.inl 1), none, none], [.inl 1, .inl (Sx38_.1 10 0 2)], Sx38_)) rfl ?_
          refine sm_T_br (a := 1) (z := 7) rfl (fun cx61_ => ?_) (fun cx61_ => ?_)
          · have cx61_ : (Sx38_.1 10 0 2) ≠ 1 := of_decide_eq_true cx61_
            exfalso; omega
          · have cx61_ : ¬ ((Sx38_.1 10 0 2) ≠ 1) := of_decide_eq_false cx61_
            refine sm_T_go 7 (c1 := (159, [some (.inr (.inr (some (7, 0)))), some (.inl (S0_.1 10 0 3)), some (.inl vx14_), some (.inl (40 * (S0_.1 7 0 3) + vx14_)), some (.inl 1), some (.inl 1), none], [.inl (40 * (S0_.1 7 0 3) + vx14_), .inr (.inr (some (79, 0))), .inl 1], Sx38_)) rfl ?_
            refine sm_T_iald (n := 640) rfl rfl (by omega) (by omega) ?_
            have bx62_ : 0 ≤ Sx38_.2.2.1 79 0 (40 * (S0_.1 7 0 3) + vx14_).toNat ∧ Sx38_.2.2.1 79 0 (40 * (S0_.1 7 0 3) + vx14_).toNat ≤ 5 := hIx39_.2 79 0 _
            refine sm_T_go 1 (c1 := (161, [some (.inr (.inr (some (7, 0)))), some (.inl (S0_.1 10 0 3)), some (.inl vx14_), some (.inl (40 * (S0_.1 7 0 3) + vx14_)), some (.inl 1), some (.inl 1), none], [.inl 5, .inl (Sx38_.2.2.1 79 0 (40 * (S0_.1 7 0 3) + vx14_).toNat), .inl 1], Sx38_)) rfl ?_
            refine sm_T_br (a := 1) (z := 7) rfl (fun cx63_ => ?_) (fun cx63_ => ?_)
            · have cx63_ : (Sx38_.2.2.1 79 0 (40 * (S0_.1 7 0 3) + vx14_).toNat) ≠ 5 := of_decide_eq_true cx63_
              first | have t4_ := er_at r2_ q2_ hiy_ | have t4_ := er_at r1_ q2_ hiy_
              refine sm_T_go 6 (c1 := (179, [some (.inr (.inr (some (7, 0)))), some (.inl (S0_.1 10 0 3)), some (.inl vx14_), some (.inl (40 * (S0_.1 7 0 3) + vx14_)), some (.inl 1), some (.inl 1), none], [.inl (S0_.1 10 0 3), .inl 11, .inr (.inr (some (10, 0)))], Sx38_)) rfl ?_
              refine sm_T_calx (d1 := 0) (Q1 := vq_187 11 (S0_.1 10 0 3) Sx38_) (Q2 := vx_187 11 (S0_.1 10 0 3) Sx38_) rfl rfl (by decide) (vc_187 11 (S0_.1 10 0 3) Sx38_ hIx39_ (by decide) (by omega)) rfl (fun Sx64_ px67_ => ?_) (fun u_ Sx64_ px67_ => ?_)
              · obtain ⟨hIx65_, hFx66_, px67_⟩ := px67_
                refine Or.inr ⟨_, rfl, hIx65_, ai_fr_tr hFx42_ (fr_le hFx66_ rfl), ?_⟩
                first | (have t5_ := (er_at r2_ q2_ hiy_).1; refine ⟨(11, p_), ?_, px67_.1, px67_.2.trans st0_⟩; first | (rw [na_4 q1_ a1_ (by omega) a2_ (by omega)]; exact if_neg (by omega)) | (rw [na_5 q1_ a1_ (by omega) a2_ (by omega)]; exact if_pos (by omega))) | (have t5_ := (er_at r1_ q2_ hiy_).1; refine ⟨(11, p_), ?_, px67_.1, px67_.2.trans st0_⟩; rw [na_2 q1_ a1_ (by omega)]; exact if_pos (by omega))
              · exact (px67_.2.2.2).elim
            · have cx63_ : ¬ ((Sx38_.2.2.1 79 0 (40 * (S0_.1 7 0 3) + vx14_).toNat) ≠ 5) := of_decide_eq_false cx63_
              first | have t4_ := er_at r2_ q2_ hiy_ | have t4_ := er_at r1_ q2_ hiy_
              refine sm_T_go 6 (c1 := (187, [some (.inr (.inr (some (7, 0)))), some (.inl (S0_.1 10 0 3)), some (.inl vx14_), some (.inl (40 * (S0_.1 7 0 3) + vx14_)), some (.inl 1), some (.inl 1), none], [.inl (40 * (S0_.1 7 0 3) + vx14_), .inr (.inr (some (80, 0)))], Sx38_)) rfl ?_
              refine sm_T_iald (n := 640) rfl rfl (by omega) (by omega) ?_
              have bx69_ : 0 ≤ Sx38_.2.2.1 80 0 (40 * (S0_.1 7 0 3) + vx14_).toNat ∧ Sx38_.2.2.1 80 0 (40 * (S0_.1 7 0 3) + vx14_).toNat ≤ 8 := hIx39_.2 80 0 _
              refine sm_T_go 8 (c1 := (202, [some (.inr (.inr (some (7, 0)))), some (.inl (S0_.1 10 0 3)), some (.inl vx14_), some (.inl (40 * (S0_.1 7 0 3) + vx14_)), some (.inl 1), some (.inl 1), some (.inl (Sx38_.2.2.1 80 0 (40 * (S0_.1 7 0 3) + vx14_).toNat))], [.inl (40 * (S0_.1 7 0 3) + vx14_), .inr (.inr (some (81, 0))), .inl vx14_, .inr (.inr (some (7, 0)))], Sx38_)) rfl ?_
              refine sm_T_iald (n := 640) rfl rfl (by omega) (by omega) ?_
              have bx70_ : 0 ≤ Sx38_.2.2.1 81 0 (40 * (S0_.1 7 0 3) + vx14_).toNat ∧ Sx38_.2.2.1 81 0 (40 * (S0_.1 7 0 3) + vx14_).toNat ≤ 255 := hIx39_.2 81 0 _
              refine sm_T_go 4 (c1 := (209, [some (.inr (.inr (some (7, 0)))), some (.inl (S0_.1 10 0 3)), some (.inl vx14_), some (.inl (40 * (S0_.1 7 0 3) + vx14_)), some (.inl 1), some (.inl 1), some (.inl (Sx38_.2.2.1 80 0 (40 * (S0_.1 7 0 3) + vx14_).toNat))], [.inl (40 * (S0_.1 7 0 3) + vx14_), .inr (.inr (some (81, 0))), .inr (.inr (some (7, 0))), .inl (Sx38_.2.2.1 81 0 (40 * (S0_.1 7 0 3) + vx14_).toNat), .inl vx14_, .inr (.inr (some (7, 0)))], Sx38_)) rfl ?_
              refine sm_T_iald (n := 640) rfl rfl (by omega) (by omega) ?_
              refine sm_T_go 2 (c1 := (214, [some (.inr (.inr (some (7, 0)))), some (.inl (S0_.1 10 0 3)), some (.inl vx14_), some (.inl (40 * (S0_.1 7 0 3) + vx14_)), some (.inl 1), some (.inl 1), some (.inl (Sx38_.2.2.1 80 0 (40 * (S0_.1 7 0 3) + vx14_).toNat))], [.inr (.inr (some (10, 0))), .inl (Sx38_.2.2.1 81 0 (40 * (S0_.1 7 0 3) + vx14_).toNat), .inr (.inr (some (7, 0))), .inl (Sx38_.2.2.1 81 0 (40 * (S0_.1 7 0 3) + vx14_).toNat), .inl vx14_, .inr (.inr (some (7, 0)))], Sx38_)) rfl ?_
              refine sm_T_cal (d1 := 0) (Q1 := vq_189 b_ n_ (lx_nx b_ n_ (lx_nx b_ n_ p_)) Sx38_) rfl rfl (by decide) (vc_189 b_ n_ (lx_nx b_ n_ (lx_nx b_ n_ p_)) Sx38_ hIx39_ (by exact c2_) (by omega)) (fun u_ Sx71_ px74_ => ?_)
              obtain ⟨rfl, vx76_, rfl, px74_⟩ := px74_
              have e214_ := px74_
              have h5_ : A_.2.2.1 (40 * M_ + s9_) = 5 := by omega
              have hd5_ := hA2_.2.2.2.2.1 h5_
              have hd6_ : ((A_.2.2.2.2 (40 * M_ + s9_)).toNat : Nat) < M_ := by omega
              refine sm_T_cal (d1 := 1) (Q1 := vq_119 (Sx38_.2.2.1 81 0 (40 * (S0_.1 7 0 3) + vx14_).toNat) vx76_ b_ n_ (A_.2.2.2.2 (40 * M_ + s9_)).toNat (A_.1 (A_.2.2.2.2 (40 * M_ + s9_)).toNat) (fun s_ => A_.2.1 (40 * (A_.2.2.2.2 (40 * M_ + s9_)).toNat + s_)) (lx_nx b_ n_ (lx_nx b_ n_ p_)) Sx38_) rfl rfl (by decide) (vc_119 (Sx38_.2.2.1 81 0 (40 * (S0_.1 7 0 3) + vx14_).toNat) vx76_ b_ n_ (A_.2.2.2.2 (40 * M_ + s9_)).toNat (A_.1 (A_.2.2.2.2 (40 * M_ + s9_)).toNat) (fun s_ => A_.2.1 (40 * (A_.2.2.2.2 (40 * M_ + s9_)).toNat + s_)) (lx_nx b_ n_ (lx_nx b_ n_ p_)) Sx38_ hIx39_ (by exact c2_.1) (by exact hn1_) (by rw [t4_.2.2]; omega) (by exact er_nmr r2_ (by omega)) (by exact e214_) (by exact ⟨c2_.2.2.2.1, by omega⟩)) (fun u_ Sx77_ px80_ => ?_)
              obtain ⟨rfl, vx82_, rfl, px80_⟩ := px80_
              have e217_ : vx82_ = p_fn b_ n_ A_ (A_.2.2.2.2 (40 * M_ + s9_)).toNat (lx_nx b_ n_ (lx_nx b_ n_ p_)) := px80_
              refine sm_T_calx (d1 := 1) (Q1 := vq_144 vx14_ (Sx38_.2.2.1 81 0 (40 * (S0_.1 7 0 3) + vx14_).toNat) vx82_ o_ g_ c_ b_ n_ (lx_nx b_ n_ (lx_nx b_ n_ p_)) A_ M_ (A_.2.2.2.2 (40 * M_ + s9_)).toNat Sx38_) (Q2 := vx_144 vx14_ (Sx38_.2.2.1 81 0 (40 * (S0_.1 7 0 3) + vx14_).toNat) vx82_ o_ g_ c_ b_ n_ (lx_nx b_ n_ (lx_nx b_ n_ p_)) A_ M_ (A_.2.2.2.2 (40 * M_ + s9_)).toNat Sx38_) rfl rfl (by decide) (vc_144 vx14_ (Sx38_.2.2.1 81 0 (40 * (S0_.1 7 0 3) + vx14_).toNat) vx82_ o_ g_ c_ b_ n_ (lx_nx b_ n_ (lx_nx b_ n_ p_)) A_ M_ (A_.2.2.2.2 (40 * M_ + s9_)).toNat Sx38_ hIx39_ (by exact x2_) (by exact c2_) (by exact r2_) (by rw [t4_.2.2]; exact ⟨by omega, by omega⟩) (by exact e217_) (by omega) (by omega)) rfl (fun Sx83_ px86_ => ?_) (fun u_ Sx83_ px86_ => ?_)
              · obtain ⟨hIx84_, hFx85_, px86_⟩ := px86_
                refine Or.inr ⟨_, rfl, hIx84_, ai_fr_tr hFx42_ (fr_le hFx85_ rfl), ?_⟩
                refine ⟨(11, (lx_nx b_ n_ (lx_nx b_ n_ p_))), ?_, px86_.2⟩
                rw [na_4 q1_ a1_ (by omega) a2_ (by omega), if_pos h5_]; exact pa_1 px86_.1
              obtain ⟨vx88_, rfl, hIx84_, hFx85_, px86_⟩ := px86_
              have hFx87_ : ai_fr (sx_W vw_143) S0_ Sx83_ := ai_fr_tr hFx42_ (fr_le hFx85_ rfl)
              have ex89_ : Sx83_.1 10 0 2 = Sx38_.1 10 0 2 := hFx85_.1 10 0 2 rfl
              have e220_ := px86_
              have c220_ := ct_fr c2_ hFx85_ rfl rfl rfl rfl rfl rfl rfl
              have r220_ := er_fr r2_ hFx85_ rfl rfl rfl rfl rfl rfl
              have wb_ := (hr_.2.1.2 (A_.2.2.2.2 (40 * M_ + s9_)).toNat (by omega)).2
              obtain ⟨s8_, q5_, q6_, q7_, -⟩ := p_fn_b (b_ := b_) (n_ := n_) (A_ := A_) (m_ := (A_.2.2.2.2 (40 * M_ + s9_)).toNat) (p_ := (lx_nx b_ n_ (lx_nx b_ n_ p_))) (fun z_ => e220_.1 (Or.inl z_))
              have wb1_ := (wb_ s8_ q6_).2.2.1
              have wb2_ : (p_fn b_ n_ A_ (A_.2.2.2.2 (40 * M_ + s9_)).toNat (lx_nx b_ n_ (lx_nx b_ n_ p_))).toNat = s8_ := q7_
              refine sm_T_go 3 (c1 := (229, [some (.inr (.inr (some (7, 0)))), some (.inl (S0_.1 10 0 3)), some (.inl vx14_), some (.inl (40 * (S0_.1 7 0 3) + vx14_)), some (.inl 1), some (.inl 1), some (.inl vx88_)], [.inr (.inr (some (10, 0)))], Sx83_)) rfl ?_
              refine sm_T_calx (d1 := 1) (Q1 := vq_191 b_ n_ (lx_en b_ n_ (lx_nx b_ n_ (lx_nx b_ n_ p_))) Sx83_) (Q2 := vx_191 b_ n_ (lx_en b_ n_ (lx_nx b_ n_ (lx_nx b_ n_ p_))) Sx83_) rfl rfl (by decide) (vc_191 b_ n_ (lx_en b_ n_ (lx_nx b_ n_ (lx_nx b_ n_ p_))) Sx83_ hIx84_ (by exact c220_.1) (by exact c220_.2.1) (by exact c220_.2.2.1) (by exact c220_.2.2.2.2.2.2.1) (by exact (lx_en_le (b := b_) c220_.2.2.2.1).2)) rfl (fun Sx90_ px93_ => ?_) (fun u_ Sx90_ px93_ => ?_)
              · obtain ⟨hIx91_, hFx92_, px93_⟩ := px93_
                refine Or.inr ⟨_, rfl, hIx91_, ai_fr_tr hFx87_ (fr_le hFx92_ rfl), ?_⟩
                refine ⟨(1, (lx_nx b_ n_ (lx_nx b_ n_ (lx_nx b_ n_ p_)))), ?_, px93_.2⟩
                rw [na_4 q1_ a1_ (by omega) a2_ (by omega), if_pos h5_]; exact pa_2 e220_.1 (p_ad_x px93_.1)
              obtain ⟨rfl, hIx91_, hFx92_, px93_⟩ := px93_
              have hFx94_ : ai_fr (sx_W vw_143) S0_ Sx90_ := ai_fr_tr hFx87_ (fr_le hFx92_ rfl)
              have c3_ : ct b_ n_ (lx_nx b_ n_ (lx_nx b_ n_ (lx_nx b_ n_ p_))) _ := px93_
              have a3_ := p_ad_c px93_
              have x3_ := xr_fr e220_.2.2 hFx92_ rfl rfl rfl rfl rfl rfl rfl rfl rfl
              have st3_ := c3_.2.2.2.2.2.1
              have kd3_ := c3_.2.2.2.2.2.2.2.1
              have hp3_ := c3_.2.2.2.1
              have bx95_ : (-128) ≤ Sx90_.1 10 0 2 ∧ Sx90_.1 10 0 2 ≤ 257 := hIx91_.1 10 0 2 rfl
              refine sm_T_go 4 (c1 := (241, [some (.inr (.inr (some (7, 0)))), some (.inl (S0_.1 10 0 3)), some (.inl vx14_), some (.inl (40 * (S0_.1 7 0 3) + vx14_)), some (.inl 1), some (.inl 1), some (.inl vx88_)], [.inl 46, .inl (Sx90_.1 10 0 2)], Sx90_)) rfl ?_
              refine sm_T_br (a := 1) (z := 7) rfl (fun cx96_ => ?_) (fun cx96_ => ?_)
              · have cx96_ : (Sx90_.1 10 0 2) ≠ 46 := of_decide_eq_true cx96_
                refine sm_T_go 4 (c1 := (274, [some (.inr (.inr (some (7, 0)))), some (.inl (S0_.1 10 0 3)), some (.inl vx14_), some (.inl (40 * (S0_.1 7 0 3) + vx14_)), some (.inl 0), some (.inl 1), some (.inl vx88_)], [], Sx90_)) rfl ?_
                refine sm_T_wk [some (.inr (.inr (some (7, 0)))), none, none, none, some (.inl 0), none, some (.inl vx88_)] (by exact ⟨rfl, rfl, rfl, trivial⟩) ?_
                refine (vl_143 o_ g_ c_ b_ n_ p_ A_ M_ S0_ hx_ hc_ hk_ hr_ ho_ hl_ _) 0 vx88_ Sx90_ hIx91_ hFx94_ ⟨?_, trivial⟩ (Nat.lt_succ_self _)
                · first | (refine ⟨(lx_nx b_ n_ (lx_nx b_ n_ p_)), [cw 9 s9_ 0], ct_fr c2_ F271_ rfl rfl rfl rfl rfl rfl rfl, ⟨e271_, f271_.trans x2_.2⟩, by simp, by omega, Or.inr ⟨rfl, ?_⟩⟩; rw [na_5 q1_ a1_ (by omega) a2_ (by omega), t4_.2.1]; exact if_neg (by omega)) | (refine ⟨(lx_nx b_ n_ p_), [cw 9 s9_ 0], ct_fr c1_ F271_ rfl rfl rfl rfl rfl rfl rfl, ⟨e271_, f271_.trans x1_.2⟩, by simp, by omega, Or.inl ⟨rfl, ?_⟩⟩; rw [na_2 q1_ a1_ (by omega), t4_.2.1]; exact if_neg (by omega)) | (refine ⟨(lx_nx b_ n_ (lx_nx b_ n_ (lx_nx b_ n_ (lx_nx b_ n_ p_)))), [cw 10 s9_ (p_fn b_ n_ A_ (A_.2.2.2.2 (40 * M_ + s9_)).toNat (lx_nx b_ n_ (lx_nx b_ n_ p_)))], c4_, ?_, by simp, by rw [e220_.2.1, wb2_]; exact wb1_, Or.inr ⟨rfl, ?_⟩⟩; (rw [e20_, q1_] at x4_; exact x4_); (rw [na_4 q1_ a1_ (by omega) a2_ (by omega), if_pos h5_, pa_5 e220_.1 a3_ (by omega) a4_, e220_.2.1])) | (refine ⟨(lx_nx b_ n_ (lx_nx b_ n_ (lx_nx b_ n_ p_))), [cw 10 s9_ (p_fn b_ n_ A_ (A_.2.2.2.2 (40 * M_ + s9_)).toNat (lx_nx b_ n_ (lx_nx b_ n_ p_)))], c3_, ?_, by simp, by rw [e220_.2.1, wb2_]; exact wb1_, Or.inl ⟨rfl, ?_⟩⟩; (rw [e20_, q1_] at x3_; exact x3_); (rw [na_4 q1_ a1_ (by omega) a2_ (by omega), if_pos h5_, pa_3 e220_.1 a3_ (by omega), e220_.2.1]))
              · have cx96_ : ¬ ((Sx90_.1 10 0 2) ≠ 46) := of_decide_eq_false cx96_
                refine sm_T_go 7 (c1 := (260, [some (.inr (.inr (some (7, 0)))), some (.inl (S0_.1 10 0 3)), some (.inl vx14_), some (.inl (40 * (S0_.1 7 0 3) + vx14_)), some (.inl 1), some (.inl 1), some (.inl vx88_)], [.inr (.inr (some (10, 0)))], Sx90_)) rfl ?_
                refine sm_T_calx (d1 := 1) (Q1 := vq_191 b_ n_ (lx_en b_ n_ (lx_nx b_ n_ (lx_nx b_ n_ (lx_nx b_ n_ p_)))) Sx90_) (Q2 := vx_191 b_ n_ (lx_en b_ n_ (lx_nx b_ n_ (lx_nx b_ n_ (lx_nx b_ n_ p_)))) Sx90_) rfl rfl (by decide) (vc_191 b_ n_ (lx_en b_ n_ (lx_nx b_ n_ (lx_nx b_ n_ (lx_nx b_ n_ p_)))) Sx90_ hIx91_ (by exact c3_.1) (by exact c3_.2.1) (by exact c3_.2.2.1) (by exact c3_.2.2.2.2.2.2.1) (by exact (lx_en_le (b := b_) c3_.2.2.2.1).2)) rfl (fun Sx97_ px100_ => ?_) (fun u_ Sx97_ px100_ => ?_)
                · obtain ⟨hIx98_, hFx99_, px100_⟩ := px100_
                  refine Or.inr ⟨_, rfl, hIx98_, ai_fr_tr hFx94_ (fr_le hFx99_ rfl), ?_⟩
                  refine ⟨(1, (lx_nx b_ n_ (lx_nx b_ n_ (lx_nx b_ n_ (lx_nx b_ n_ p_))))), ?_, px100_.2⟩
                  rw [na_4 q1_ a1_ (by omega) a2_ (by omega), if_pos h5_]; exact pa_4 e220_.1 a3_ (by omega) (p_ad_x px100_.1)
                obtain ⟨rfl, hIx98_, hFx99_, px100_⟩ := px100_
                have hFx101_ : ai_fr (sx_W vw_143) S0_ Sx97_ := ai_fr_tr hFx94_ (fr_le hFx99_ rfl)
                have c4_ : ct b_ n_ (lx_nx b_ n_ (lx_nx b_ n_ (lx_nx b_ n_ (lx_nx b_ n_ p_)))) _ := px100_
                have a4_ := p_ad_c px100_
                have x4_ := xr_fr x3_ hFx99_ rfl rfl rfl rfl rfl rfl rfl rfl rfl
                have st4_ := c4_.2.2.2.2.2.1
                have kd4_ := c4_.2.2.2.2.2.2.2.1
                have hp4_ := c4_.2.2.2.1
                refine sm_T_go 1 (c1 := (274, [some (.inr (.inr (some (7, 0)))), some (.inl (S0_.1 10 0 3)), some (.inl vx14_), some (.inl (40 * (S0_.1 7 0 3) + vx14_)), some (.inl 1), some (.inl 1), some (.inl vx88_)], [], Sx97_)) rfl ?_
                refine sm_T_wk [some (.inr (.inr (some (7, 0)))), none, none, none, some (.inl 1), none, some (.inl vx88_)] (by exact ⟨rfl, rfl, rfl, trivial⟩) ?_
                refine (vl_143 o_ g_ c_ b_ n_ p_ A_ M_ S0_ hx_ hc_ hk_ hr_ ho_ hl_ _) 1 vx88_ Sx97_ hIx98_ hFx101_ ⟨?_, trivial⟩ (Nat.lt_succ_self _)
                · first | (refine ⟨(lx_nx b_ n_ (lx_nx b_ n_ p_)), [cw 9 s9_ 0], ct_fr c2_ F271_ rfl rfl rfl rfl rfl rfl rfl, ⟨e271_, f271_.trans x2_.2⟩, by simp, by omega, Or.inr ⟨rfl, ?_⟩⟩; rw [na_5 q1_ a1_ (by omega) a2_ (by omega), t4_.2.1]; exact if_neg (by omega)) | (refine ⟨(lx_nx b_ n_ p_), [cw 9 s9_ 0], ct_fr c1_ F271_ rfl rfl rfl rfl rfl rfl rfl, ⟨e271_, f271_.trans x1_.2⟩, by simp, by omega, Or.inl ⟨rfl, ?_⟩⟩; rw [na_2 q1_ a1_ (by omega), t4_.2.1]; exact if_neg (by omega)) | (refine ⟨(lx_nx b_ n_ (lx_nx b_ n_ (lx_nx b_ n_ (lx_nx b_ n_ p_)))), [cw 10 s9_ (p_fn b_ n_ A_ (A_.2.2.2.2 (40 * M_ + s9_)).toNat (lx_nx b_ n_ (lx_nx b_ n_ p_)))], c4_, ?_, by simp, by rw [e220_.2.1, wb2_]; exact wb1_, Or.inr ⟨rfl, ?_⟩⟩; (rw [e20_, q1_] at x4_; exact x4_); (rw [na_4 q1_ a1_ (by omega) a2_ (by omega), if_pos h5_, pa_5 e220_.1 a3_ (by omega) a4_, e220_.2.1])) | (refine ⟨(lx_nx b_ n_ (lx_nx b_ n_ (lx_nx b_ n_ p_))), [cw 10 s9_ (p_fn b_ n_ A_ (A_.2.2.2.2 (40 * M_ + s9_)).toNat (lx_nx b_ n_ (lx_nx b_ n_ p_)))], c3_, ?_, by simp, by rw [e220_.2.1, wb2_]; exact wb1_, Or.inl ⟨rfl, ?_⟩⟩; (rw [e20_, q1_] at x3_; exact x3_); (rw [na_4 q1_ a1_ (by omega) a2_ (by omega), if_pos h5_, pa_3 e220_.1 a3_ (by omega), e220_.2.1]))
        · have cx60_ : ¬ ((Sx38_.1 10 0 2) = 1) := of_decide_eq_false cx60_
          have bx102_ : 0 ≤ Sx38_.1 10 0 3 ∧ Sx38_.1 10 0 3 ≤ 1280 := hIx39_.1 10 0 3 rfl
          refine sm_T_go 6 (c1 := (126, [some (.inr (.inr (some (7, 0)))), some (.inl (S0_.1 10 0 3)), some (.inl vx14_), some (.inl (40 * (S0_.1 7 0 3) + vx14_)), some (.inl 1), none, none], [.inl (Sx38_.1 10 0 3), .inl 2, .inr (.inr (some (10, 0)))], Sx38_)) rfl ?_
          refine sm_T_calx (d1 := 0) (Q1 := vq_187 2 (Sx38_.1 10 0 3) Sx38_) (Q2 := vx_187 2 (Sx38_.1 10 0 3) Sx38_) rfl rfl (by decide) (vc_187 2 (Sx38_.1 10 0 3) Sx38_ hIx39_ (by decide) (by omega)) rfl (fun Sx103_ px106_ => ?_) (fun u_ Sx103_ px106_ => ?_)
          · obtain ⟨hIx104_, hFx105_, px106_⟩ := px106_
            refine Or.inr ⟨_, rfl, hIx104_, ai_fr_tr hFx42_ (fr_le hFx105_ rfl), ?_⟩
            exact ⟨(2, (lx_nx b_ n_ (lx_nx b_ n_ p_))), na_6 q1_ a1_ (by omega) a2_ (by omega) (by omega), px106_.1, px106_.2.trans st2_⟩
          · exact (px106_.2.2.2).elim
  · have cx15_ : ¬ (vx14_ ≠ (-1)) := of_decide_eq_false cx15_
    refine sm_T_go 4 (c1 := (36, [some (.inr (.inr (some (7, 0)))), some (.inl (S0_.1 10 0 3)), some (.inl vx14_), none, none, none, none], [.inl (S0_.1 10 0 3), .inl 11, .inr (.inr (some (10, 0)))], S0_)) rfl ?_
    refine sm_T_calx (d1 := 0) (Q1 := vq_187 11 (S0_.1 10 0 3) S0_) (Q2 := vx_187 11 (S0_.1 10 0 3) S0_) rfl rfl (by decide) (vc_187 11 (S0_.1 10 0 3) S0_ hI_ (by decide) (by omega)) rfl (fun Sx108_ px111_ => ?_) (fun u_ Sx108_ px111_ => ?_)
    · obtain ⟨hIx109_, hFx110_, px111_⟩ := px111_
      refine Or.inr ⟨_, rfl, hIx109_, ai_fr_tr hF_ (fr_le hFx110_ rfl), ?_⟩
      exact ⟨(11, p_), na_0 (by omega), px111_.1, px111_.2.trans st0_⟩
    · exact (px111_.2.2.2).elim

theorem st_tb : ∀ k_ : Nat, k_ < 3 → st_at 1 (k_ : Int) = if (k_ : Int) = 0 then 170 else if (k_ : Int) = 1 then 204 else 240 := by decide +kernel
end
/-! 99.x5b -/
section
/-! Reader.readCellInput -/
def vw_141 : sx_Wl := ([(7, 16), (10, 2), (10, 3), (10, 4), (10, 5), (10, 6), (10, 7), (10, 8)], [84], [])
def vq_141 (o_ : List (Int × Nat)) (g_ : List Int) (c_ : List Int) (b_ : Nat → Int) (n_ : Nat) (p_ : Nat) (K_ : Nat) (f_ : Nat → Nat) (S0_ : sm_S) (u_ : Option sm_V) (S1_ : sm_S) : Prop := u_ = none ∧ gi S1_ ∧ ai_fr (sx_W vw_141) S0_ S1_ ∧ (∃ r_, p_pl b_ n_ K_ f_ p_ = .inr r_ ∧ xr true o_ (r_.2.1 :: g_) (r_.2.2 ++ c_) S1_ ∧ ct b_ n_ r_.1 S1_)
def vx_141 (o_ : List (Int × Nat)) (g_ : List Int) (c_ : List Int) (b_ : Nat → Int) (n_ : Nat) (p_ : Nat) (K_ : Nat) (f_ : Nat → Nat) (S0_ : sm_S) (S1_ : sm_S) : Prop := gi S1_ ∧ ai_fr (sx_W vw_141) S0_ S1_ ∧ (∃ e_, p_pl b_ n_ K_ f_ p_ = .inl e_ ∧ ter S1_ e_)
set_option maxHeartbeats 400000 in
theorem vc_141 {sc_ : Nat × (Nat → Int)} (o_ : List (Int × Nat)) (g_ : List Int) (c_ : List Int) (b_ : Nat → Int) (n_ : Nat) (p_ : Nat) (K_ : Nat) (f_ : Nat → Nat) (S0_ : sm_S) (hI_ : gi S0_) (hx_ : xr true o_ g_ c_ S0_) (hc_ : ct b_ n_ p_ S0_) (hk_ : lx_kd b_ n_ p_ = 1) (hr_ : nmr b_ n_ 1 K_ f_ S0_) (hK_ : K_ ≤ 3) (ho_ : g_.length ≤ 487) : sm_T (mt_P sc_) 2 141 (0, [some (.inr (.inr (some (7, 0)))), none], [], S0_) (fun r_ => (∃ u_ S1_, r_ = (.inl u_, S1_, 0) ∧ vq_141 o_ g_ c_ b_ n_ p_ K_ f_ S0_ u_ S1_) ∨ ∃ S1_, r_ = (.inr 2, S1_, 1) ∧ vx_141 o_ g_ c_ b_ n_ p_ K_ f_ S0_ S1_) := by
  have hF_ : ai_fr (sx_W vw_141) S0_ S0_ := ai_fr_rf
  have st0_ := hc_.2.2.2.2.2.1
  have kd0_ := hc_.2.2.2.2.2.2.2.1
  have hp0_ := hc_.2.2.2.1
  have hn1_ := hc_.2.2.1
  have hfb_ := p_fd_b (f_ := fun s_ => nm_q b_ n_ (f_ s_) p_) K_
  refine sm_T_go 4 (c1 := (6, [some (.inr (.inr (some (7, 0)))), none], [.inr (.inr (some (10, 0))), .inl 1, .inr (.inr (some (7, 0)))], S0_)) rfl ?_
  refine sm_T_cal (d1 := 0) (Q1 := vq_189 b_ n_ p_ S0_) rfl rfl (by decide) (vc_189 b_ n_ p_ S0_ hI_ (by exact hc_) (by exact hk_)) (fun u_ Sx1_ px4_ => ?_)
  obtain ⟨rfl, vx6_, rfl, px4_⟩ := px4_
  have e6_ := px4_
  refine sm_T_cal (d1 := 1) (Q1 := vq_119 1 vx6_ b_ n_ 1 K_ f_ p_ S0_) rfl rfl (by decide) (vc_119 1 vx6_ b_ n_ 1 K_ f_ p_ S0_ hI_ (by exact hc_.1) (by exact hn1_) (by rfl) (by exact hr_) (by exact e6_) (by exact ⟨hc_.2.2.2.1, hk_⟩)) (fun u_ Sx7_ px10_ => ?_)
  obtain ⟨rfl, vx12_, rfl, px10_⟩ := px10_
  have e9_ := px10_
  refine sm_T_go 3 (c1 := (15, [some (.inr (.inr (some (7, 0)))), some (.inl vx12_)], [.inl (-1), .inl vx12_], S0_)) rfl ?_
  refine sm_T_br (a := 1) (z := 19) rfl (fun cx13_ => ?_) (fun cx13_ => ?_)
  · have cx13_ : vx12_ ≠ (-1) := of_decide_eq_true cx13_
    have tb_ := st_tb (p_fd (fun s_ => nm_q b_ n_ (f_ s_) p_) K_).toNat (by omega)
    rw [show (((p_fd (fun s_ => nm_q b_ n_ (f_ s_) p_) K_).toNat : Nat) : Int) = p_fd (fun s_ => nm_q b_ n_ (f_ s_) p_) K_ by omega, ← e9_] at tb_
    refine sm_T_go 1 (c1 := (35, [some (.inr (.inr (some (7, 0)))), some (.inl vx12_)], [.inr (.inr (some (7, 0)))], S0_)) rfl ?_
    refine sm_T_nt (u := some (.inr (.inr (some (297, 0))))) (S1 := S0_) rfl rfl rfl ?_
    refine sm_T_go 1 (c1 := (39, [some (.inr (.inr (some (7, 0)))), some (.inl vx12_)], [.inl vx12_, .inr (.inr (some (297, 0))), .inr (.inr (some (7, 0)))], S0_)) rfl ?_
    refine sm_T_nt (u := some (.inl (st_at 1 vx12_))) (S1 := S0_) rfl rfl (nt_st (sc := sc_) (j := 1) (n := 3) (by decide) rfl rfl (by omega) (by omega)) ?_
    refine sm_T_cal (d1 := 0) (Q1 := vq_138 (st_at 1 vx12_) true o_ g_ c_ S0_) rfl rfl (by decide) (vc_138 (st_at 1 vx12_) true o_ g_ c_ S0_ hI_ (by exact hx_.1) (by (rw [tb_]; split; decide; split <;> decide)) (by exact ho_)) (fun u_ Sx14_ px17_ => ?_)
    obtain ⟨rfl, hIx15_, hFx16_, px17_⟩ := px17_
    have hFx18_ : ai_fr (sx_W vw_141) S0_ Sx14_ := ai_fr_tr hF_ (fr_le hFx16_ rfl)
    have e40_ := px17_
    have f40_ := hFx16_.1 7 0 17 rfl
    have c40_ := ct_fr hc_ hFx16_ rfl rfl rfl rfl rfl rfl rfl
    have x40_ : xr true o_ _ c_ _ := ⟨e40_, f40_.trans hx_.2⟩
    refine sm_T_go 2 (c1 := (47, [some (.inr (.inr (some (7, 0)))), some (.inl vx12_)], [.inr (.inr (some (10, 0)))], Sx14_)) rfl ?_
    refine sm_T_calx (d1 := 1) (Q1 := vq_191 b_ n_ (lx_en b_ n_ p_) Sx14_) (Q2 := vx_191 b_ n_ (lx_en b_ n_ p_) Sx14_) rfl rfl (by decide) (vc_191 b_ n_ (lx_en b_ n_ p_) Sx14_ hIx15_ (by exact c40_.1) (by exact c40_.2.1) (by exact c40_.2.2.1) (by exact c40_.2.2.2.2.2.2.1) (by exact (lx_en_le (b := b_) c40_.2.2.2.1).2)) rfl (fun Sx19_ px22_ => ?_) (fun u_ Sx19_ px22_ => ?_)
    · obtain ⟨hIx20_, hFx21_, px22_⟩ := px22_
      refine Or.inr ⟨_, rfl, hIx20_, ai_fr_tr hFx18_ (fr_le hFx21_ rfl), ?_⟩
      refine ⟨(1, (lx_nx b_ n_ p_)), ?_, px22_.2⟩
      unfold p_pl; rw [if_pos hk_, if_neg (by omega), p_ad_x px22_.1]; rfl
    obtain ⟨rfl, hIx20_, hFx21_, px22_⟩ := px22_
    have hFx23_ : ai_fr (sx_W vw_141) S0_ Sx19_ := ai_fr_tr hFx18_ (fr_le hFx21_ rfl)
    have c1_ : ct b_ n_ (lx_nx b_ n_ p_) _ := px22_
    have a1_ := p_ad_c px22_
    have x1_ := xr_fr x40_ hFx21_ rfl rfl rfl rfl rfl rfl rfl rfl rfl
    have st1_ := c1_.2.2.2.2.2.1
    have kd1_ := c1_.2.2.2.2.2.2.2.1
    have hp1_ := c1_.2.2.2.1
    refine sm_T_rv rfl (Or.inl ⟨_, _, rfl, rfl, hIx20_, hFx23_, ?_⟩)
    refine ⟨((lx_nx b_ n_ p_), if p_fd (fun s_ => nm_q b_ n_ (f_ s_) p_) K_ = 0 then 170 else if p_fd (fun s_ => nm_q b_ n_ (f_ s_) p_) K_ = 1 then 204 else 240, []), ?_, ?_, c1_⟩
    · unfold p_pl; rw [if_pos hk_, if_neg (by omega), a1_]; rfl
    · rw [tb_, e9_] at x1_; exact x1_
  · have cx13_ : ¬ (vx12_ ≠ (-1)) := of_decide_eq_false cx13_
    have bx24_ : 0 ≤ S0_.1 10 0 3 ∧ S0_.1 10 0 3 ≤ 1280 := hI_.1 10 0 3 rfl
    refine sm_T_go 6 (c1 := (31, [some (.inr (.inr (some (7, 0)))), some (.inl vx12_)], [.inl (S0_.1 10 0 3), .inl 11, .inr (.inr (some (10, 0)))], S0_)) rfl ?_
    refine sm_T_calx (d1 := 0) (Q1 := vq_187 11 (S0_.1 10 0 3) S0_) (Q2 := vx_187 11 (S0_.1 10 0 3) S0_) rfl rfl (by decide) (vc_187 11 (S0_.1 10 0 3) S0_ hI_ (by decide) (by omega)) rfl (fun Sx25_ px28_ => ?_) (fun u_ Sx25_ px28_ => ?_)
    · obtain ⟨hIx26_, hFx27_, px28_⟩ := px28_
      refine Or.inr ⟨_, rfl, hIx26_, ai_fr_tr hF_ (fr_le hFx27_ rfl), ?_⟩
      refine ⟨(11, p_), ?_, px28_.1, px28_.2.trans st0_⟩
      unfold p_pl; rw [if_pos hk_, if_pos (by omega)]
    · exact (px28_.2.2.2).elim
end
/-! 99.x6a -/
section
/-! the class reader: behind operands; written by wip/p55/gen/vg -/
/-! Reader.readOperators -/
def vw_145 : sx_Wl := ([(7, 2), (7, 14), (7, 16), (7, 17), (10, 2), (10, 3), (10, 4), (10, 5), (10, 6), (10, 7), (10, 8)], [74, 82, 83, 84], [])
def vq_145 (b_ : Nat → Int) (n_ : Nat) (md_ : Bool) (pr_ : pPr) (R_ : pE pR) (o_ : List (Int × Nat)) (g_ : List Int) (c_ : List Int) (p_ : Nat) (S0_ : sm_S) (u_ : Option sm_V) (S1_ : sm_S) : Prop := ∃ v_ : Int, u_ = some (.inl v_) ∧ gi S1_ ∧ ai_fr (sx_W vw_145) S0_ S1_ ∧ ((v_ = 1 ∧ ∃ o1_ g1_ c1_ q_, ct b_ n_ q_ S1_ ∧ xr md_ o1_ g1_ c1_ S1_ ∧ x_ok b_ n_ md_ (0, false, q_, o1_, g1_, c1_) ∧ p_xx b_ n_ md_ pr_ (0, false, q_, o1_, g1_, c1_) R_ ∧ p_ < q_) ∨ (v_ = 0 ∧ ∃ g1_ c1_ q_, ct b_ n_ q_ S1_ ∧ xr md_ [] g1_ c1_ S1_ ∧ R_ = .inr (q_, g1_, c1_) ∧ g1_.length = 1 ∧ p_ ≤ q_ ∧ c1_.length ≤ 3 * q_))
def vx_145 (b_ : Nat → Int) (n_ : Nat) (md_ : Bool) (pr_ : pPr) (R_ : pE pR) (o_ : List (Int × Nat)) (g_ : List Int) (c_ : List Int) (p_ : Nat) (S0_ : sm_S) (S1_ : sm_S) : Prop := gi S1_ ∧ ai_fr (sx_W vw_145) S0_ S1_ ∧ (∃ e_, R_ = .inl e_ ∧ ter S1_ e_)
set_option maxHeartbeats 2000000 in
set_option maxRecDepth 20000 in
theorem vl_145 {sc_ : Nat × (Nat → Int)} (b_ : Nat → Int) (n_ : Nat) (md_ : Bool) (pr_ : pPr) (R_ : pE pR) (o_ : List (Int × Nat)) (g_ : List Int) (c_ : List Int) (p_ : Nat) (S0_ : sm_S) (hx_ : xr md_ o_ g_ c_ S0_) (hc_ : ct b_ n_ p_ S0_) (hpr_ : pr_ok b_ n_ pr_) (hok_ : x_ok b_ n_ md_ (1, false, p_, o_, g_, c_)) (hR_ : p_xx b_ n_ md_ pr_ (1, false, p_, o_, g_, c_) R_) : ∀ nn_ : Nat, (∀ (e_ : Int) (i_ : Int) (S_ : sm_S), gi S_ → ai_fr (sx_W vw_145) S0_ S_ → ((0 ≤ i_ ∧ i_ + (S_.1 7 0 14) ≤ 488) ∧ (∃ o1_ g1_ c1_ q_, ct b_ n_ q_ S_ ∧ xr md_ o1_ g1_ c1_ S_ ∧ s_ok md_ 1 (o1_, g1_, c1_) ∧ c1_.length + o1_.length ≤ 3 * q_ ∧ p_ ≤ q_ ∧ ((e_ = 0 ∧ p_xx b_ n_ md_ pr_  (1, false, q_, o1_, g1_, c1_) R_) ∨ (e_ = 1 ∧ ¬ (md_ = false ∧ lx_kd b_ n_ q_ = 63) ∧ p_yy b_ n_ md_ pr_ (pb (p_sa md_ o1_ g1_ c1_) (p_B3 b_ n_ md_ q_)) R_))) ∧ True) → ((2 * (S_.1 7 0 14) + 1).toNat) < nn_ → sm_T (mt_P sc_) 3 145 (4, [some (.inr (.inr (some (7, 0)))), some (.inl e_), some (.inl i_), none, none], [], S_) (fun r_ => (∃ u_ S1_, r_ = (.inl u_, S1_, 0) ∧ vq_145 b_ n_ md_ pr_ R_ o_ g_ c_ p_ S0_ u_ S1_) ∨ ∃ S1_, r_ = (.inr 2, S1_, 1) ∧ vx_145 b_ n_ md_ pr_ R_ o_ g_ c_ p_ S0_ S1_)) ∧ (∀ (i_ : Int) (S_ : sm_S), gi S_ → ai_fr (sx_W vw_145) S0_ S_ → ((0 ≤ i_ ∧ i_ + (S_.1 7 0 14) ≤ 488) ∧ (∃ o1_ g1_ c1_ q_, ct b_ n_ q_ S_ ∧ xr md_ o1_ g1_ c1_ S_ ∧ s_ok md_ 1 (o1_, g1_, c1_) ∧ c1_.length + o1_.length ≤ 3 * q_ ∧ p_ ≤ q_ ∧ ((md_ = false ∧ lx_kd b_ n_ q_ = 63) → p_yy b_ n_ md_ pr_ (p_B2 b_ n_ md_ q_ (o1_, g1_, c1_)) R_) ∧ (¬ (md_ = false ∧ lx_kd b_ n_ q_ = 63) → p_yy b_ n_ md_ pr_ (pb (p_sa md_ o1_ g1_ c1_) (p_B3 b_ n_ md_ q_)) R_)) ∧ True) → ((2 * (S_.1 7 0 14)).toNat) < nn_ → sm_T (mt_P sc_) 3 145 (75, [some (.inr (.inr (some (7, 0)))), none, some (.inl i_), none, none], [], S_) (fun r_ => (∃ u_ S1_, r_ = (.inl u_, S1_, 0) ∧ vq_145 b_ n_ md_ pr_ R_ o_ g_ c_ p_ S0_ u_ S1_) ∨ ∃ S1_, r_ = (.inr 2, S1_, 1) ∧ vx_145 b_ n_ md_ pr_ R_ o_ g_ c_ p_ S0_ S1_)) := by
  intro nn_
  induction nn_ with
  | zero => exact ⟨fun _ _ _ _ _ _ h_ => absurd h_ (Nat.not_lt_zero _), fun _ _ _ _ _ h_ => absurd h_ (Nat.not_lt_zero _)⟩
  | succ nn_ ih_ =>
    refine ⟨?_, ?_⟩
    · rintro e_ i_ S_ hI_ hF_ ⟨h0_, h1_, -⟩ hm_
      obtain ⟨o1_, g1_, c1_, q_, y1_, y2_, y3_, y4_, y5_, y6_⟩ := h1_
      have hn1_ := y1_.2.2.1
      have st1_ := y1_.2.2.2.2.2.1
      have kd1_ := y1_.2.2.2.2.2.2.2.1
      have hp1_ := y1_.2.2.2.1
      have hol_ := o_lim y3_.1 y3_.2.1
      have hol1_ : o1_.length ≤ 365 := hol_.1
      have x11_ : S_.1 7 0 14 = (o1_.length : Int) := y2_.1.1
      have hok1_ : x_ok b_ n_ md_ (1, false, q_, o1_, g1_, c1_) := ⟨Nat.le_refl _, y3_, y1_.2.2.2.1, y1_.2.2.2.2.1, by show _ + _ + 0 ≤ _; exact y4_⟩
      refine sm_T_go 1 (c1 := (5, [some (.inr (.inr (some (7, 0)))), some (.inl e_), some (.inl i_), none, none], [.inl i_], S_)) rfl ?_
      refine sm_T_nt (u := some (.inl 65536)) (S1 := S_) rfl rfl rfl ?_
      refine sm_T_br (a := 3) (z := 201) rfl (fun cx1_ => ?_) (fun cx1_ => ?_)
      · have cx1_ : 65536 ≤ i_ := of_decide_eq_true cx1_
        exfalso; omega
      · have cx1_ : ¬ (65536 ≤ i_) := of_decide_eq_false cx1_
        refine sm_T_go 1 (c1 := (11, [some (.inr (.inr (some (7, 0)))), some (.inl e_), some (.inl i_), none, none], [.inl e_], S_)) rfl ?_
        refine sm_T_b0 (a := 0) (z := 7) rfl (fun cx2_ => ?_) (fun cx2_ => ?_)
        · have cx2_ : e_ = 0 := of_decide_eq_true cx2_
          have y8_ : p_xx b_ n_ md_ pr_  (1, false, q_, o1_, g1_, c1_) R_ := by rcases y6_ with z_ | z_; (exact z_.2); omega
          have bx3_ : (-128) ≤ S_.1 10 0 2 ∧ S_.1 10 0 2 ≤ 257 := hI_.1 10 0 2 rfl
          refine sm_T_go 4 (c1 := (26, [some (.inr (.inr (some (7, 0)))), some (.inl e_), some (.inl i_), none, none], [.inl (S_.1 10 0 2), .inr (.inr (some (7, 0)))], S_)) rfl ?_
          refine sm_T_cal (d1 := 0) (Q1 := vq_146 (S_.1 10 0 2) md_ o1_ g1_ c1_ S_) rfl rfl (by decide) (vc_146 (S_.1 10 0 2) md_ o1_ g1_ c1_ S_ hI_ (by exact y2_.1)) (fun u_ Sx4_ px7_ => ?_)
          obtain ⟨rfl, vx9_, rfl, px7_⟩ := px7_
          have e26_ := px7_
          rw [kd1_] at e26_
          refine sm_T_go 2 (c1 := (31, [some (.inr (.inr (some (7, 0)))), some (.inl e_), some (.inl i_), some (.inl vx9_), none], [.inl vx9_], S_)) rfl ?_
          refine sm_T_b0 (a := 5) (z := 44) rfl (fun cx10_ => ?_) (fun cx10_ => ?_)
          · have cx10_ : vx9_ ≤ 0 := of_decide_eq_true cx10_
            refine sm_T_go 0 (c1 := (75, [some (.inr (.inr (some (7, 0)))), some (.inl e_), some (.inl i_), some (.inl vx9_), none], [], S_)) rfl ?_
            refine sm_T_wk [some (.inr (.inr (some (7, 0)))), none, some (.inl i_), none, none] (by exact ⟨rfl, rfl, trivial⟩) ?_
            refine ih_.2 i_ S_ hI_ hF_ ⟨?_, ?_, trivial⟩ ?_
            · omega
            · first | (rcases y6_ with z_ | z_; (exfalso; omega); (exact ⟨o1_, g1_, c1_, q_, y1_, y2_, y3_, y4_, y5_, fun w_ => absurd w_ z_.2.1, fun _ => z_.2.2⟩)) | (have w3_ := p_yo y8_ (pB_n (by omega)); exact ⟨o1_, g1_, c1_, q_, y1_, y2_, y3_, y4_, y5_, fun _ => w3_, fun z_ => by rw [pB2_n z_] at w3_; exact w3_⟩) | (have w3_ := p_yo y8_ hst_; rw [show p_B1 b_ n_ md_ q_ (p_lv md_ (lx_kd b_ n_ q_)) (so_, sg_, sc_) = p_B2 b_ n_ md_ q_ (so_, sg_, sc_) from if_neg (by rintro ⟨z1_, z2_⟩; rcases z2_ with z2_ | z2_; omega; (exact z2_ (by show o_tp so_ = 4; omega)))] at w3_; exact ⟨so_, sg_, sc_, q_, c45_, xr45_, k45_.1, by omega, y5_, fun _ => w3_, fun z_ => by rw [pB2_n z_] at w3_; exact w3_⟩)
            · omega
          · have cx10_ : ¬ (vx9_ ≤ 0) := of_decide_eq_false cx10_
            refine sm_T_go 3 (c1 := (37, [some (.inr (.inr (some (7, 0)))), some (.inl e_), some (.inl i_), some (.inl vx9_), none], [.inl 4, .inl vx9_, .inr (.inr (some (7, 0)))], S_)) rfl ?_
            refine sm_T_br (a := 1) (z := 7) rfl (fun cx11_ => ?_) (fun cx11_ => ?_)
            · have cx11_ : vx9_ ≠ 4 := of_decide_eq_true cx11_
              refine sm_T_go 1 (c1 := (45, [some (.inr (.inr (some (7, 0)))), some (.inl e_), some (.inl i_), some (.inl vx9_), none], [.inl vx9_, .inr (.inr (some (7, 0)))], S_)) rfl ?_
              refine sm_T_calx (d1 := 2) (Q1 := vq_148 vx9_ md_ o1_ g1_ c1_ S_) (Q2 := vx_148 vx9_ md_ o1_ g1_ c1_ S_) rfl rfl (by decide) (vc_148 vx9_ md_ o1_ g1_ c1_ S_ hI_ (by exact y2_.1) (by exact y3_) (by omega) (by omega)) rfl (fun Sx12_ px15_ => ?_) (fun u_ Sx12_ px15_ => ?_)
              · obtain ⟨hIx13_, hFx14_, px15_⟩ := px15_
                refine Or.inr ⟨_, rfl, hIx13_, ai_fr_tr hF_ (fr_le hFx14_ rfl), ?_⟩
                obtain ⟨e9_, w1_, w2_⟩ := px15_
                refine ⟨e9_, p_er y8_ ?_, w2_⟩
                rw [pB_l (by omega)]
                first | (rw [if_pos (by omega), w1_]; rfl) | (rw [if_neg (by omega), ← e26_, w1_]; rfl)
              obtain ⟨rfl, hIx13_, hFx14_, px15_⟩ := px15_
              have hFx16_ : ai_fr (sx_W vw_145) S0_ Sx12_ := ai_fr_tr hF_ (fr_le hFx14_ rfl)
              have ex17_ : Sx12_.1 10 0 2 = S_.1 10 0 2 := hFx14_.1 10 0 2 rfl
              obtain ⟨⟨so_, sg_, sc_⟩, e45_, x45_⟩ := px15_
              have k45_ := p_se_ok (by omega) o1_ g1_ c1_ _ y3_ e45_
              have c45_ := ct_fr y1_ hFx14_ rfl rfl rfl rfl rfl rfl rfl
              have xr45_ : xr md_ so_ sg_ sc_ Sx12_ := ⟨x45_, (hFx14_.1 7 0 17 rfl).trans (y2_.2.trans (by rw [← k45_.2.1]))⟩
              have hos_ := o_lim k45_.1.1 k45_.1.2.1
              have hos1_ : so_.length ≤ 365 := hos_.1
              have hls_ : sc_.length + so_.length ≤ c1_.length + o1_.length := k45_.2.2.1
              have hxl_ : Sx12_.1 7 0 14 = (so_.length : Int) := x45_.1
              have hol2_ := o_len k45_.1.1
              have hst_ : p_st b_ n_ md_ pr_ (1, false, q_, o1_, g1_, c1_) = p_B1 b_ n_ md_ q_ (p_lv md_ (lx_kd b_ n_ q_)) (so_, sg_, sc_) := by rw [pB_l (by omega)]; first | (rw [if_pos (by omega), e45_]; rfl) | (rw [if_neg (by omega), ← e26_, e45_, e26_]; rfl)
              have st45_ := c45_.2.2.2.2.2.1
              have hle45_ : so_.length ≤ o1_.length := p_se_le o1_ g1_ c1_ _ e45_
              refine sm_T_go 2 (c1 := (50, [some (.inr (.inr (some (7, 0)))), some (.inl e_), some (.inl i_), some (.inl vx9_), none], [.inl 4, .inl vx9_], Sx12_)) rfl ?_
              refine sm_T_br (a := 1) (z := 11) rfl (fun cx18_ => ?_) (fun cx18_ => ?_)
              · have cx18_ : vx9_ ≠ 4 := of_decide_eq_true cx18_
                refine sm_T_go 2 (c1 := (63, [some (.inr (.inr (some (7, 0)))), some (.inl e_), some (.inl i_), some (.inl vx9_), none], [.inl vx9_, .inr (.inr (some (7, 0)))], Sx12_)) rfl ?_
                refine sm_T_cal (d1 := 0) (Q1 := vq_137 vx9_ md_ so_ sg_ sc_ b_ n_ q_ Sx12_) rfl rfl (by decide) (vc_137 vx9_ md_ so_ sg_ sc_ b_ n_ q_ Sx12_ hIx13_ (by exact x45_) (by exact c45_) (by (have := (p_lv_b (md_ := md_) (k_ := lx_kd b_ n_ q_)).2.1); omega) (by omega)) (fun u_ Sx19_ px22_ => ?_)
                obtain ⟨rfl, hIx20_, hFx21_, px22_⟩ := px22_
                have hFx23_ : ai_fr (sx_W vw_145) S0_ Sx19_ := ai_fr_tr hFx16_ (fr_le hFx21_ rfl)
                have x63_ := px22_
                have c63_ := ct_fr c45_ hFx21_ rfl rfl rfl rfl rfl rfl rfl
                have xr63_ : xr md_ _ sg_ sc_ Sx19_ := ⟨x63_, (hFx21_.1 7 0 17 rfl).trans (xr45_.2.trans (by show _ = (((if _ < 0 then 1 else 0) + o_mk so_ : Nat) : Int); rw [if_neg (by omega)]; simp))⟩
                have hB1_ : p_B1 b_ n_ md_ q_ (p_lv md_ (lx_kd b_ n_ q_)) (so_, sg_, sc_) = pb (p_ad b_ n_ q_) fun r_ => .inr (.inl (0, false, r_, (p_lv md_ (lx_kd b_ n_ q_), q_) :: so_, sg_, sc_)) := if_pos ⟨by omega, by first | (left; omega) | (right; show o_tp so_ ≠ 4; omega)⟩
                refine sm_T_go 2 (c1 := (70, [some (.inr (.inr (some (7, 0)))), some (.inl e_), some (.inl i_), some (.inl vx9_), none], [.inr (.inr (some (10, 0)))], Sx19_)) rfl ?_
                refine sm_T_calx (d1 := 1) (Q1 := vq_191 b_ n_ (lx_en b_ n_ q_) Sx19_) (Q2 := vx_191 b_ n_ (lx_en b_ n_ q_) Sx19_) rfl rfl (by decide) (vc_191 b_ n_ (lx_en b_ n_ q_) Sx19_ hIx20_ (by exact c63_.1) (by exact c63_.2.1) (by exact c63_.2.2.1) (by exact c63_.2.2.2.2.2.2.1) (by exact (lx_en_le (b := b_) c63_.2.2.2.1).2)) rfl (fun Sx24_ px27_ => ?_) (fun u_ Sx24_ px27_ => ?_)
                · obtain ⟨hIx25_, hFx26_, px27_⟩ := px27_
                  refine Or.inr ⟨_, rfl, hIx25_, ai_fr_tr hFx23_ (fr_le hFx26_ rfl), ?_⟩
                  exact ⟨(1, (lx_nx b_ n_ q_)), p_er y8_ (by rw [hst_, hB1_, p_ad_x px27_.1]; rfl), px27_.2⟩
                obtain ⟨rfl, hIx25_, hFx26_, px27_⟩ := px27_
                have hFx28_ : ai_fr (sx_W vw_145) S0_ Sx24_ := ai_fr_tr hFx23_ (fr_le hFx26_ rfl)
                have e70_ := px27_
                have f70_ := hFx26_
                refine sm_T_go 1 (c1 := (74, [some (.inr (.inr (some (7, 0)))), some (.inl e_), some (.inl i_), some (.inl vx9_), none], [.inl 1], Sx24_)) rfl ?_
                refine sm_T_rz rfl (by omega) (Or.inl ⟨_, _, rfl, _, rfl, hIx25_, hFx28_, ?_⟩)
                have k1_ := p_ad_ok hp1_ (fun z_ => by rw [z_] at e26_; unfold p_lv at e26_; repeat' split at e26_ <;> omega) (p_ad_c e70_)
                have k2_ := p_go hn1_ hpr_ hok1_ y8_ (by rw [hst_, hB1_, p_ad_c e70_]; rfl)
                left
                rw [e26_] at xr63_
                exact ⟨rfl, _, _, _, lx_nx b_ n_ q_, e70_, xr_fr xr63_ f70_ rfl rfl rfl rfl rfl rfl rfl rfl rfl, k2_.1, k2_.2, by omega⟩
              · have cx18_ : ¬ (vx9_ ≠ 4) := of_decide_eq_false cx18_
                refine sm_T_go 1 (c1 := (54, [some (.inr (.inr (some (7, 0)))), some (.inl e_), some (.inl i_), some (.inl vx9_), none], [.inr (.inr (some (7, 0)))], Sx12_)) rfl ?_
                refine sm_T_cal (d1 := 0) (Q1 := vq_147 md_ so_ sg_ sc_ Sx12_) rfl rfl (by decide) (vc_147 md_ so_ sg_ sc_ Sx12_ hIx13_ (by exact x45_)) (fun u_ Sx29_ px32_ => ?_)
                obtain ⟨rfl, vx34_, rfl, px32_⟩ := px32_
                have e54_ := px32_
                refine sm_T_go 1 (c1 := (58, [some (.inr (.inr (some (7, 0)))), some (.inl e_), some (.inl i_), some (.inl vx9_), none], [.inl 4, .inl vx34_], Sx12_)) rfl ?_
                refine sm_T_br (a := 0) (z := 17) rfl (fun cx35_ => ?_) (fun cx35_ => ?_)
                · have cx35_ : vx34_ = 4 := of_decide_eq_true cx35_
                  refine sm_T_go 0 (c1 := (75, [some (.inr (.inr (some (7, 0)))), some (.inl e_), some (.inl i_), some (.inl vx9_), none], [], Sx12_)) rfl ?_
                  refine sm_T_wk [some (.inr (.inr (some (7, 0)))), none, some (.inl i_), none, none] (by exact ⟨rfl, rfl, trivial⟩) ?_
                  refine ih_.2 i_ Sx12_ hIx13_ hFx16_ ⟨?_, ?_, trivial⟩ ?_
                  · omega
                  · first | (rcases y6_ with z_ | z_; (exfalso; omega); (exact ⟨o1_, g1_, c1_, q_, y1_, y2_, y3_, y4_, y5_, fun w_ => absurd w_ z_.2.1, fun _ => z_.2.2⟩)) | (have w3_ := p_yo y8_ (pB_n (by omega)); exact ⟨o1_, g1_, c1_, q_, y1_, y2_, y3_, y4_, y5_, fun _ => w3_, fun z_ => by rw [pB2_n z_] at w3_; exact w3_⟩) | (have w3_ := p_yo y8_ hst_; rw [show p_B1 b_ n_ md_ q_ (p_lv md_ (lx_kd b_ n_ q_)) (so_, sg_, sc_) = p_B2 b_ n_ md_ q_ (so_, sg_, sc_) from if_neg (by rintro ⟨z1_, z2_⟩; rcases z2_ with z2_ | z2_; omega; (exact z2_ (by show o_tp so_ = 4; omega)))] at w3_; exact ⟨so_, sg_, sc_, q_, c45_, xr45_, k45_.1, by omega, y5_, fun _ => w3_, fun z_ => by rw [pB2_n z_] at w3_; exact w3_⟩)
                  · omega
                · have cx35_ : ¬ (vx34_ = 4) := of_decide_eq_false cx35_
                  refine sm_T_go 2 (c1 := (63, [some (.inr (.inr (some (7, 0)))), some (.inl e_), some (.inl i_), some (.inl vx9_), none], [.inl vx9_, .inr (.inr (some (7, 0)))], Sx12_)) rfl ?_
                  refine sm_T_cal (d1 := 0) (Q1 := vq_137 vx9_ md_ so_ sg_ sc_ b_ n_ q_ Sx12_) rfl rfl (by decide) (vc_137 vx9_ md_ so_ sg_ sc_ b_ n_ q_ Sx12_ hIx13_ (by exact x45_) (by exact c45_) (by (have := (p_lv_b (md_ := md_) (k_ := lx_kd b_ n_ q_)).2.1); omega) (by omega)) (fun u_ Sx36_ px39_ => ?_)
                  obtain ⟨rfl, hIx37_, hFx38_, px39_⟩ := px39_
                  have hFx40_ : ai_fr (sx_W vw_145) S0_ Sx36_ := ai_fr_tr hFx16_ (fr_le hFx38_ rfl)
                  have x63_ := px39_
                  have c63_ := ct_fr c45_ hFx38_ rfl rfl rfl rfl rfl rfl rfl
                  have xr63_ : xr md_ _ sg_ sc_ Sx36_ := ⟨x63_, (hFx38_.1 7 0 17 rfl).trans (xr45_.2.trans (by show _ = (((if _ < 0 then 1 else 0) + o_mk so_ : Nat) : Int); rw [if_neg (by omega)]; simp))⟩
                  have hB1_ : p_B1 b_ n_ md_ q_ (p_lv md_ (lx_kd b_ n_ q_)) (so_, sg_, sc_) = pb (p_ad b_ n_ q_) fun r_ => .inr (.inl (0, false, r_, (p_lv md_ (lx_kd b_ n_ q_), q_) :: so_, sg_, sc_)) := if_pos ⟨by omega, by first | (left; omega) | (right; show o_tp so_ ≠ 4; omega)⟩
                  refine sm_T_go 2 (c1 := (70, [some (.inr (.inr (some (7, 0)))), some (.inl e_), some (.inl i_), some (.inl vx9_), none], [.inr (.inr (some (10, 0)))], Sx36_)) rfl ?_
                  refine sm_T_calx (d1 := 1) (Q1 := vq_191 b_ n_ (lx_en b_ n_ q_) Sx36_) (Q2 := vx_191 b_ n_ (lx_en b_ n_ q_) Sx36_) rfl rfl (by decide) (vc_191 b_ n_ (lx_en b_ n_ q_) Sx36_ hIx37_ (by exact c63_.1) (by exact c63_.2.1) (by exact c63_.2.2.1) (by exact c63_.2.2.2.2.2.2.1) (by exact (lx_en_le (b := b_) c63_.2.2.2.1).2)) rfl (fun Sx41_ px44_ => ?_) (fun u_ Sx41_ px44_ => ?_)
                  · obtain ⟨hIx42_, hFx43_, px44_⟩ := px44_
                    refine Or.inr ⟨_, rfl, hIx42_, ai_fr_tr hFx40_ (fr_le hFx43_ rfl), ?_⟩
                    exact ⟨(1, (lx_nx b_ n_ q_)), p_er y8_ (by rw [hst_, hB1_, p_ad_x px44_.1]; rfl), px44_.2⟩
                  obtain ⟨rfl, hIx42_, hFx43_, px44_⟩ := px44_
                  have hFx45_ : ai_fr (sx_W vw_145) S0_ Sx41_ := ai_fr_tr hFx40_ (fr_le hFx43_ rfl)
                  have e70_ := px44_
                  have f70_ := hFx43_
                  refine sm_T_go 1 (c1 := (74, [some (.inr (.inr (some (7, 0)))), some (.inl e_), some (.inl i_), some (.inl vx9_), none], [.inl 1], Sx41_)) rfl ?_
                  refine sm_T_rz rfl (by omega) (Or.inl ⟨_, _, rfl, _, rfl, hIx42_, hFx45_, ?_⟩)
                  have k1_ := p_ad_ok hp1_ (fun z_ => by rw [z_] at e26_; unfold p_lv at e26_; repeat' split at e26_ <;> omega) (p_ad_c e70_)
                  have k2_ := p_go hn1_ hpr_ hok1_ y8_ (by rw [hst_, hB1_, p_ad_c e70_]; rfl)
                  left
                  rw [e26_] at xr63_
                  exact ⟨rfl, _, _, _, lx_nx b_ n_ q_, e70_, xr_fr xr63_ f70_ rfl rfl rfl rfl rfl rfl rfl rfl rfl, k2_.1, k2_.2, by omega⟩
            · have cx11_ : ¬ (vx9_ ≠ 4) := of_decide_eq_false cx11_
              refine sm_T_go 2 (c1 := (45, [some (.inr (.inr (some (7, 0)))), some (.inl e_), some (.inl i_), some (.inl vx9_), none], [.inl 5, .inr (.inr (some (7, 0)))], S_)) rfl ?_
              refine sm_T_calx (d1 := 2) (Q1 := vq_148 5 md_ o1_ g1_ c1_ S_) (Q2 := vx_148 5 md_ o1_ g1_ c1_ S_) rfl rfl (by decide) (vc_148 5 md_ o1_ g1_ c1_ S_ hI_ (by exact y2_.1) (by exact y3_) (by omega) (by omega)) rfl (fun Sx46_ px49_ => ?_) (fun u_ Sx46_ px49_ => ?_)
              · obtain ⟨hIx47_, hFx48_, px49_⟩ := px49_
                refine Or.inr ⟨_, rfl, hIx47_, ai_fr_tr hF_ (fr_le hFx48_ rfl), ?_⟩
                obtain ⟨e9_, w1_, w2_⟩ := px49_
                refine ⟨e9_, p_er y8_ ?_, w2_⟩
                rw [pB_l (by omega)]
                first | (rw [if_pos (by omega), w1_]; rfl) | (rw [if_neg (by omega), ← e26_, w1_]; rfl)
              obtain ⟨rfl, hIx47_, hFx48_, px49_⟩ := px49_
              have hFx50_ : ai_fr (sx_W vw_145) S0_ Sx46_ := ai_fr_tr hF_ (fr_le hFx48_ rfl)
              have ex51_ : Sx46_.1 10 0 2 = S_.1 10 0 2 := hFx48_.1 10 0 2 rfl
              obtain ⟨⟨so_, sg_, sc_⟩, e45_, x45_⟩ := px49_
              have k45_ := p_se_ok (by omega) o1_ g1_ c1_ _ y3_ e45_
              have c45_ := ct_fr y1_ hFx48_ rfl rfl rfl rfl rfl rfl rfl
              have xr45_ : xr md_ so_ sg_ sc_ Sx46_ := ⟨x45_, (hFx48_.1 7 0 17 rfl).trans (y2_.2.trans (by rw [← k45_.2.1]))⟩
              have hos_ := o_lim k45_.1.1 k45_.1.2.1
              have hos1_ : so_.length ≤ 365 := hos_.1
              have hls_ : sc_.length + so_.length ≤ c1_.length + o1_.length := k45_.2.2.1
              have hxl_ : Sx46_.1 7 0 14 = (so_.length : Int) := x45_.1
              have hol2_ := o_len k45_.1.1
              have hst_ : p_st b_ n_ md_ pr_ (1, false, q_, o1_, g1_, c1_) = p_B1 b_ n_ md_ q_ (p_lv md_ (lx_kd b_ n_ q_)) (so_, sg_, sc_) := by rw [pB_l (by omega)]; first | (rw [if_pos (by omega), e45_]; rfl) | (rw [if_neg (by omega), ← e26_, e45_, e26_]; rfl)
              have st45_ := c45_.2.2.2.2.2.1
              have hle45_ : so_.length ≤ o1_.length := p_se_le o1_ g1_ c1_ _ e45_
              refine sm_T_go 2 (c1 := (50, [some (.inr (.inr (some (7, 0)))), some (.inl e_), some (.inl i_), some (.inl vx9_), none], [.inl 4, .inl vx9_], Sx46_)) rfl ?_
              refine sm_T_br (a := 1) (z := 11) rfl (fun cx52_ => ?_) (fun cx52_ => ?_)
              · have cx52_ : vx9_ ≠ 4 := of_decide_eq_true cx52_
                exfalso; omega
              · have cx52_ : ¬ (vx9_ ≠ 4) := of_decide_eq_false cx52_
                refine sm_T_go 1 (c1 := (54, [some (.inr (.inr (some (7, 0)))), some (.inl e_), some (.inl i_), some (.inl vx9_), none], [.inr (.inr (some (7, 0)))], Sx46_)) rfl ?_
                refine sm_T_cal (d1 := 0) (Q1 := vq_147 md_ so_ sg_ sc_ Sx46_) rfl rfl (by decide) (vc_147 md_ so_ sg_ sc_ Sx46_ hIx47_ (by exact x45_)) (fun u_ Sx53_ px56_ => ?_)
                obtain ⟨rfl, vx58_, rfl, px56_⟩ := px56_
                have e54_ := px56_
                refine sm_T_go 1 (c1 := (58, [some (.inr (.inr (some (7, 0)))), some (.inl e_), some (.inl i_), some (.inl vx9_), none], [.inl 4, .inl vx58_], Sx46_)) rfl ?_
                refine sm_T_br (a := 0) (z := 17) rfl (fun cx59_ => ?_) (fun cx59_ => ?_)
                · have cx59_ : vx58_ = 4 := of_decide_eq_true cx59_
                  refine sm_T_go 0 (c1 := (75, [some (.inr (.inr (some (7, 0)))), some (.inl e_), some (.inl i_), some (.inl vx9_), none], [], Sx46_)) rfl ?_
                  refine sm_T_wk [some (.inr (.inr (some (7, 0)))), none, some (.inl i_), none, none] (by exact ⟨rfl, rfl, trivial⟩) ?_
                  refine ih_.2 i_ Sx46_ hIx47_ hFx50_ ⟨?_, ?_, trivial⟩ ?_
                  · omega
                  · first | (rcases y6_ with z_ | z_; (exfalso; omega); (exact ⟨o1_, g1_, c1_, q_, y1_, y2_, y3_, y4_, y5_, fun w_ => absurd w_ z_.2.1, fun _ => z_.2.2⟩)) | (have w3_ := p_yo y8_ (pB_n (by omega)); exact ⟨o1_, g1_, c1_, q_, y1_, y2_, y3_, y4_, y5_, fun _ => w3_, fun z_ => by rw [pB2_n z_] at w3_; exact w3_⟩) | (have w3_ := p_yo y8_ hst_; rw [show p_B1 b_ n_ md_ q_ (p_lv md_ (lx_kd b_ n_ q_)) (so_, sg_, sc_) = p_B2 b_ n_ md_ q_ (so_, sg_, sc_) from if_neg (by rintro ⟨z1_, z2_⟩; rcases z2_ with z2_ | z2_; omega; (exact z2_ (by show o_tp so_ = 4; omega)))] at w3_; exact ⟨so_, sg_, sc_, q_, c45_, xr45_, k45_.1, by omega, y5_, fun _ => w3_, fun z_ => by rw [pB2_n z_] at w3_; exact w3_⟩)
                  · omega
                · have cx59_ : ¬ (vx58_ = 4) := of_decide_eq_false cx59_
                  refine sm_T_go 2 (c1 := (63, [some (.inr (.inr (some (7, 0)))), some (.inl e_), some (.inl i_), some (.inl vx9_), none], [.inl vx9_, .inr (.inr (some (7, 0)))], Sx46_)) rfl ?_
                  refine sm_T_cal (d1 := 0) (Q1 := vq_137 vx9_ md_ so_ sg_ sc_ b_ n_ q_ Sx46_) rfl rfl (by decide) (vc_137 vx9_ md_ so_ sg_ sc_ b_ n_ q_ Sx46_ hIx47_ (by exact x45_) (by exact c45_) (by (have := (p_lv_b (md_ := md_) (k_ := lx_kd b_ n_ q_)).2.1); omega) (by omega)) (fun u_ Sx60_ px63_ => ?_)
                  obtain ⟨rfl, hIx61_, hFx62_, px63_⟩ := px63_
                  have hFx64_ : ai_fr (sx_W vw_145) S0_ Sx60_ := ai_fr_tr hFx50_ (fr_le hFx62_ rfl)
                  have x63_ := px63_
                  have c63_ := ct_fr c45_ hFx62_ rfl rfl rfl rfl rfl rfl rfl
                  have xr63_ : xr md_ _ sg_ sc_ Sx60_ := ⟨x63_, (hFx62_.1 7 0 17 rfl).trans (xr45_.2.trans (by show _ = (((if _ < 0 then 1 else 0) + o_mk so_ : Nat) : Int); rw [if_neg (by omega)]; simp))⟩
                  have hB1_ : p_B1 b_ n_ md_ q_ (p_lv md_ (lx_kd b_ n_ q_)) (so_, sg_, sc_) = pb (p_ad b_ n_ q_) fun r_ => .inr (.inl (0, false, r_, (p_lv md_ (lx_kd b_ n_ q_), q_) :: so_, sg_, sc_)) := if_pos ⟨by omega, by first | (left; omega) | (right; show o_tp so_ ≠ 4; omega)⟩
                  refine sm_T_go 2 (c1 := (70, [some (.inr (.inr (some (7, 0)))), some (.inl e_), some (.inl i_), some (.inl vx9_), none], [.inr (.inr (some (10, 0)))], Sx60_)) rfl ?_
                  refine sm_T_calx (d1 := 1) (Q1 := vq_191 b_ n_ (lx_en b_ n_ q_) Sx60_) (Q2 := vx_191 b_ n_ (lx_en b_ n_ q_) Sx60_) rfl rfl (by decide) (vc_191 b_ n_ (lx_en b_ n_ q_) Sx60_ hIx61_ (by exact c63_.1) (by exact c63_.2.1) (by exact c63_.2.2.1) (by exact c63_.2.2.2.2.2.2.1) (by exact (lx_en_le (b := b_) c63_.2.2.2.1).2)) rfl (fun Sx65_ px68_ => ?_) (fun u_ Sx65_ px68_ => ?_)
                  · obtain ⟨hIx66_, hFx67_, px68_⟩ := px68_
                    refine Or.inr ⟨_, rfl, hIx66_, ai_fr_tr hFx64_ (fr_le hFx67_ rfl), ?_⟩
                    exact ⟨(1, (lx_nx b_ n_ q_)), p_er y8_ (by rw [hst_, hB1_, p_ad_x px68_.1]; rfl), px68_.2⟩
                  obtain ⟨rfl, hIx66_, hFx67_, px68_⟩ := px68_
                  have hFx69_ : ai_fr (sx_W vw_145) S0_ Sx65_ := ai_fr_tr hFx64_ (fr_le hFx67_ rfl)
                  have e70_ := px68_
                  have f70_ := hFx67_
                  refine sm_T_go 1 (c1 := (74, [some (.inr (.inr (some (7, 0)))), some (.inl e_), some (.inl i_), some (.inl vx9_), none], [.inl 1], Sx65_)) rfl ?_
                  refine sm_T_rz rfl (by omega) (Or.inl ⟨_, _, rfl, _, rfl, hIx66_, hFx69_, ?_⟩)
                  have k1_ := p_ad_ok hp1_ (fun z_ => by rw [z_] at e26_; unfold p_lv at e26_; repeat' split at e26_ <;> omega) (p_ad_c e70_)
                  have k2_ := p_go hn1_ hpr_ hok1_ y8_ (by rw [hst_, hB1_, p_ad_c e70_]; rfl)
                  left
                  rw [e26_] at xr63_
                  exact ⟨rfl, _, _, _, lx_nx b_ n_ q_, e70_, xr_fr xr63_ f70_ rfl rfl rfl rfl rfl rfl rfl rfl rfl, k2_.1, k2_.2, by omega⟩
        · have cx2_ : ¬ (e_ = 0) := of_decide_eq_false cx2_
          refine sm_T_go 5 (c1 := (75, [some (.inr (.inr (some (7, 0)))), some (.inl e_), some (.inl i_), some (.inl 0), none], [], S_)) rfl ?_
          refine sm_T_wk [some (.inr (.inr (some (7, 0)))), none, some (.inl i_), none, none] (by exact ⟨rfl, rfl, trivial⟩) ?_
          refine ih_.2 i_ S_ hI_ hF_ ⟨?_, ?_, trivial⟩ ?_
          · omega
          · first | (rcases y6_ with z_ | z_; (exfalso; omega); (exact ⟨o1_, g1_, c1_, q_, y1_, y2_, y3_, y4_, y5_, fun w_ => absurd w_ z_.2.1, fun _ => z_.2.2⟩)) | (have w3_ := p_yo y8_ (pB_n (by omega)); exact ⟨o1_, g1_, c1_, q_, y1_, y2_, y3_, y4_, y5_, fun _ => w3_, fun z_ => by rw [pB2_n z_] at w3_; exact w3_⟩) | (have w3_ := p_yo y8_ hst_; rw [show p_B1 b_ n_ md_ q_ (p_lv md_ (lx_kd b_ n_ q_)) (so_, sg_, sc_) = p_B2 b_ n_ md_ q_ (so_, sg_, sc_) from if_neg (by rintro ⟨z1_, z2_⟩; rcases z2_ with z2_ | z2_; omega; (exact z2_ (by show o_tp so_ = 4; omega)))] at w3_; exact ⟨so_, sg_, sc_, q_, c45_, xr45_, k45_.1, by omega, y5_, fun _ => w3_, fun z_ => by rw [pB2_n z_] at w3_; exact w3_⟩)
          · omega
    · rintro i_ S_ hI_ hF_ ⟨h0_, h1_, -⟩ hm_
      obtain ⟨o1_, g1_, c1_, q_, y1_, y2_, y3_, y4_, y5_, y6_, y7_⟩ := h1_
      have hn1_ := y1_.2.2.1
      have st1_ := y1_.2.2.2.2.2.1
      have kd1_ := y1_.2.2.2.2.2.2.2.1
      have hp1_ := y1_.2.2.2.1
      have hol_ := o_lim y3_.1 y3_.2.1
      have hol1_ : o1_.length ≤ 365 := hol_.1
      have x11_ : S_.1 7 0 14 = (o1_.length : Int) := y2_.1.1
      have hok1_ : x_ok b_ n_ md_ (1, false, q_, o1_, g1_, c1_) := ⟨Nat.le_refl _, y3_, y1_.2.2.2.1, y1_.2.2.2.2.1, by show _ + _ + 0 ≤ _; exact y4_⟩
      refine sm_T_go 2 (c1 := (77, [some (.inr (.inr (some (7, 0)))), none, some (.inl i_), none, none], [.inl 1, .inr (.inr (some (7, 0)))], S_)) rfl ?_
      refine sm_T_calx (d1 := 2) (Q1 := vq_148 1 md_ o1_ g1_ c1_ S_) (Q2 := vx_148 1 md_ o1_ g1_ c1_ S_) rfl rfl (by decide) (vc_148 1 md_ o1_ g1_ c1_ S_ hI_ (by exact y2_.1) (by exact y3_) (by decide) (by omega)) rfl (fun Sx1_ px4_ => ?_) (fun u_ Sx1_ px4_ => ?_)
      · obtain ⟨hIx2_, hFx3_, px4_⟩ := px4_
        refine Or.inr ⟨_, rfl, hIx2_, ai_fr_tr hF_ (fr_le hFx3_ rfl), ?_⟩
        obtain ⟨e9_, w1_, w2_⟩ := px4_
        refine ⟨e9_, ?_, w2_⟩
        by_cases z_ : md_ = false ∧ lx_kd b_ n_ q_ = 63
        · have w3_ := y6_ z_
          rw [pB2_e z_ w1_] at w3_
          exact w3_
        · have w3_ := y7_ z_
          rw [p_sa_se (by decide : (1 : Int) ≤ 1), w1_] at w3_
          exact w3_
      obtain ⟨rfl, hIx2_, hFx3_, px4_⟩ := px4_
      have hFx5_ : ai_fr (sx_W vw_145) S0_ Sx1_ := ai_fr_tr hF_ (fr_le hFx3_ rfl)
      obtain ⟨⟨so_, sg_, sc_⟩, e77_, x77_⟩ := px4_
      have k77_ := p_se_ok (by decide) o1_ g1_ c1_ _ y3_ e77_
      have c77_ := ct_fr y1_ hFx3_ rfl rfl rfl rfl rfl rfl rfl
      have xr77_ : xr md_ so_ sg_ sc_ Sx1_ := ⟨x77_, (hFx3_.1 7 0 17 rfl).trans (y2_.2.trans (by rw [← k77_.2.1]))⟩
      have hos_ := o_lim k77_.1.1 k77_.1.2.1
      have hos1_ : so_.length ≤ 365 := hos_.1
      have hls_ : sc_.length + so_.length ≤ c1_.length + o1_.length := k77_.2.2.1
      have hxl_ : Sx1_.1 7 0 14 = (so_.length : Int) := x77_.1
      have kd77_ := c77_.2.2.2.2.2.2.2.1
      have st77_ := c77_.2.2.2.2.2.1
      have hop_ := xr77_.2
      have htp_ : o_tp so_ < 1 := k77_.2.2.2
      have hle77_ : so_.length ≤ o1_.length := p_se_le o1_ g1_ c1_ _ e77_
      have w2_ : ¬ (md_ = false ∧ lx_kd b_ n_ q_ = 63) → p_yy b_ n_ md_ pr_ (pb (p_sa md_ so_ sg_ sc_) (p_B3 b_ n_ md_ q_)) R_ := by intro z_; have w3_ := y7_ z_; rw [p_sa_se (by decide : (1 : Int) ≤ 1), e77_] at w3_; exact w3_
      obtain ⟨z9_, g9_, hg9_⟩ := s_ok_1 k77_.1
      have hg8_ : sg_ = z9_ :: g9_ := hg9_
      have hgl_ : sg_.length = o_hl so_ + 1 := k77_.1.2.2.1
      have hgl2_ : sg_.length = g9_.length + 1 := by rw [hg8_]; rfl
      have hgl3_ : o_hl so_ ≤ 425 := hos_.2
      have bx6_ : (-128) ≤ Sx1_.1 10 0 2 ∧ Sx1_.1 10 0 2 ≤ 257 := hIx2_.1 10 0 2 rfl
      refine sm_T_go 4 (c1 := (89, [some (.inr (.inr (some (7, 0)))), none, some (.inl i_), none, none], [.inl 63, .inl (Sx1_.1 10 0 2)], Sx1_)) rfl ?_
      refine sm_T_br (a := 1) (z := 29) rfl (fun cx7_ => ?_) (fun cx7_ => ?_)
      · have cx7_ : (Sx1_.1 10 0 2) ≠ 63 := of_decide_eq_true cx7_
        have w4_ := w2_ (fun z_ => by omega)
        refine sm_T_go 3 (c1 := (121, [some (.inr (.inr (some (7, 0)))), some (.inl 1), some (.inl i_), none, none], [.inr (.inr (some (7, 0)))], Sx1_)) rfl ?_
        refine sm_T_cal (d1 := 0) (Q1 := vq_147 md_ so_ sg_ sc_ Sx1_) rfl rfl (by decide) (vc_147 md_ so_ sg_ sc_ Sx1_ hIx2_ (by exact x77_)) (fun u_ Sx8_ px11_ => ?_)
        obtain ⟨rfl, vx13_, rfl, px11_⟩ := px11_
        have e121_ := px11_
        have t5_ : -4 ≤ o_tp so_ ∧ o_tp so_ ≤ 5 := o_tp5 k77_.1.1
        refine sm_T_go 3 (c1 := (129, [some (.inr (.inr (some (7, 0)))), some (.inl 1), some (.inl i_), none, some (.inl vx13_)], [.inl (-1), .inl vx13_], Sx1_)) rfl ?_
        refine sm_T_br (a := 0) (z := 10) rfl (fun cx14_ => ?_) (fun cx14_ => ?_)
        · have cx14_ : vx13_ = (-1) := of_decide_eq_true cx14_
          obtain ⟨k8_, t8_, o8_, rfl, e8_⟩ := o_tp_c (o_ := so_) (by omega)
          rw [p_sa_st htp_ (by omega)] at w4_
          have w5_ : p_yy b_ n_ md_ pr_ (p_B3 b_ n_ md_ q_ ((k8_, t8_) :: o8_, sg_, sc_)) R_ := w4_
          rw [pB3_c (by omega)] at w5_
          refine sm_T_go 1 (c1 := (140, [some (.inr (.inr (some (7, 0)))), some (.inl 1), some (.inl i_), none, some (.inl vx13_)], [.inr (.inr (some (7, 0)))], Sx1_)) rfl ?_
          refine sm_T_calx (d1 := 1) (Q1 := vq_151 md_ o8_ sg_ sc_ k8_ t8_ b_ n_ q_ Sx1_) (Q2 := vx_151 md_ o8_ sg_ sc_ k8_ t8_ b_ n_ q_ Sx1_) rfl rfl (by decide) (vc_151 md_ o8_ sg_ sc_ k8_ t8_ b_ n_ q_ Sx1_ hIx2_ (by exact x77_) (by exact c77_) (by (rw [hop_]; show (1 : Int) ≤ (((if k8_ < 0 then 1 else 0) + o_mk o8_ : Nat) : Int); rw [if_pos (by omega)]; omega))) rfl (fun Sx15_ px18_ => ?_) (fun u_ Sx15_ px18_ => ?_)
          · obtain ⟨hIx16_, hFx17_, px18_⟩ := px18_
            refine Or.inr ⟨_, rfl, hIx16_, ai_fr_tr hFx5_ (fr_le hFx17_ rfl), ?_⟩
            refine ⟨(2, q_), ?_, px18_.2⟩
            rw [if_neg px18_.1] at w5_
            exact w5_
          obtain ⟨rfl, hIx16_, hFx17_, px18_⟩ := px18_
          have hFx19_ : ai_fr (sx_W vw_145) S0_ Sx15_ := ai_fr_tr hFx5_ (fr_le hFx17_ rfl)
          have ex20_ : Sx15_.1 10 0 2 = Sx1_.1 10 0 2 := hFx17_.1 10 0 2 rfl
          have e140_ := px18_
          have c140_ := ct_fr c77_ hFx17_ rfl rfl rfl rfl rfl rfl rfl
          have x140_ : xr md_ o8_ sg_ sc_ Sx15_ := ⟨e140_.2.1, by rw [e140_.2.2, hop_]; show (((if k8_ < 0 then 1 else 0) + o_mk o8_ : Nat) : Int) - 1 = _; rw [if_pos (by omega)]; omega⟩
          rw [if_pos e140_.1] at w5_
          have w140_ := e140_.2.1
          rw [hg8_] at w140_
          have hl8_ : ((k8_, t8_) :: o8_).length = o8_.length + 1 := rfl
          refine sm_T_go 2 (c1 := (147, [some (.inr (.inr (some (7, 0)))), some (.inl 1), some (.inl i_), none, some (.inl vx13_)], [.inl (-2), .inl vx13_], Sx15_)) rfl ?_
          refine sm_T_br (a := 1) (z := 7) rfl (fun cx21_ => ?_) (fun cx21_ => ?_)
          · have cx21_ : vx13_ ≠ (-2) := of_decide_eq_true cx21_
            refine sm_T_go 2 (c1 := (158, [some (.inr (.inr (some (7, 0)))), some (.inl 1), some (.inl i_), none, some (.inl vx13_)], [.inr (.inr (some (10, 0)))], Sx15_)) rfl ?_
            refine sm_T_calx (d1 := 1) (Q1 := vq_191 b_ n_ (lx_en b_ n_ q_) Sx15_) (Q2 := vx_191 b_ n_ (lx_en b_ n_ q_) Sx15_) rfl rfl (by decide) (vc_191 b_ n_ (lx_en b_ n_ q_) Sx15_ hIx16_ (by first | exact c151_.1 | exact c140_.1) (by first | exact c151_.2.1 | exact c140_.2.1) (by exact hn1_) (by first | exact c151_.2.2.2.2.2.2.1 | exact c140_.2.2.2.2.2.2.1) (by exact (lx_en_le (b := b_) hp1_).2)) rfl (fun Sx22_ px25_ => ?_) (fun u_ Sx22_ px25_ => ?_)
            · obtain ⟨hIx23_, hFx24_, px25_⟩ := px25_
              refine Or.inr ⟨_, rfl, hIx23_, ai_fr_tr hFx19_ (fr_le hFx24_ rfl), ?_⟩
              refine ⟨(1, (lx_nx b_ n_ q_)), ?_, px25_.2⟩
              rw [p_ad_x px25_.1] at w5_
              exact w5_
            obtain ⟨rfl, hIx23_, hFx24_, px25_⟩ := px25_
            have hFx26_ : ai_fr (sx_W vw_145) S0_ Sx22_ := ai_fr_tr hFx19_ (fr_le hFx24_ rfl)
            have e158_ := px25_
            have f158_ := hFx24_
            rw [p_ad_c e158_] at w5_
            refine sm_T_go 3 (c1 := (202, [some (.inr (.inr (some (7, 0)))), some (.inl 0), some (.inl i_), none, some (.inl vx13_)], [], Sx22_)) rfl ?_
            refine sm_T_inc (a := 2) (z := 1) (v := i_) (w := i_ + 1) rfl rfl (by omega) (by omega) (by omega) ?_
            refine sm_T_go 1 (c1 := (4, [some (.inr (.inr (some (7, 0)))), some (.inl 0), some (.inl (i_ + 1)), none, some (.inl vx13_)], [], Sx22_)) rfl ?_
            refine sm_T_wk [some (.inr (.inr (some (7, 0)))), some (.inl 0), some (.inl (i_ + 1)), none, none] (by exact ⟨rfl, rfl, rfl, trivial⟩) ?_
            refine ih_.1 0 (i_ + 1) Sx22_ hIx23_ hFx26_ ⟨?_, ?_, trivial⟩ ?_
            · first | (have hf9_ := f158_.1 7 0 14 rfl; first | (have hf8_ : _ = (o8_.length : Int) := x151_.1.1; omega) | (have hf8_ : _ = (o8_.length : Int) := x140_.1.1; omega)) | omega
            · first | (have k1_ := p_ad_ok hp1_ (by omega) (p_ad_c e158_); have k3_ := x_B3 (b_ := b_) (n_ := n_) (p_ := q_) (s_ := ((k8_, t8_) :: o8_, sg_, sc_)) hp1_ k77_.1 ⟨htp_, by show k8_ ≠ -4; omega⟩ (by show sc_.length + ((k8_, t8_) :: o8_).length ≤ 3 * q_; omega) (by rw [pB3_c (by omega), if_pos e140_.1, p_ad_c e158_]; rfl); refine ⟨o8_, _, _, (lx_nx b_ n_ q_), e158_, ?_, k3_.2.1, k3_.2.2.2.2, by omega, Or.inl ⟨rfl, w5_⟩⟩; first | (rw [show decide (k8_ = -2) = true from decide_eq_true (by omega), hg8_]; exact xr_fr x151_ f158_ rfl rfl rfl rfl rfl rfl rfl rfl rfl) | (rw [show decide (k8_ = -2) = false from decide_eq_false (by omega)]; exact xr_fr x140_ f158_ rfl rfl rfl rfl rfl rfl rfl rfl rfl)) | (obtain ⟨t1_, t2_, t3_, t4_⟩ := k77_.1; refine ⟨o8_, z2_ :: g8_, 7 :: sc_, q_, c194_, x194_, ⟨t1_.2.2, ?_, ?_, ?_⟩, ?_, y5_, Or.inr ⟨rfl, ?_, w4_⟩⟩; (have t2_ : 1 + o_mk o8_ ≤ 60 := t2_; show o_mk o8_ ≤ 60; omega); (have t3_ : (z1_ :: z2_ :: z3_ :: g8_).length = 2 + o_hl o8_ + 1 := t3_; show g8_.length + 1 = o_hl o8_ + 1; omega); (exact h_ok_c.mpr ⟨(h_ok_c.mp (h_ok_c.mp t4_).2).1, (h_ok_c.mp (h_ok_c.mp (h_ok_c.mp t4_).2).2).2⟩); (show sc_.length + 1 + o8_.length ≤ 3 * q_; omega); (intro z_; first | omega | cases hm9_))
            · first | (have hf9_ := f158_.1 7 0 14 rfl; first | (have hf8_ : _ = (o8_.length : Int) := x151_.1.1; omega) | (have hf8_ : _ = (o8_.length : Int) := x140_.1.1; omega)) | omega
          · have cx21_ : ¬ (vx13_ ≠ (-2)) := of_decide_eq_false cx21_
            exfalso; omega
        · have cx14_ : ¬ (vx13_ = (-1)) := of_decide_eq_false cx14_
          refine sm_T_go 2 (c1 := (136, [some (.inr (.inr (some (7, 0)))), some (.inl 1), some (.inl i_), none, some (.inl vx13_)], [.inl (-2), .inl vx13_], Sx1_)) rfl ?_
          refine sm_T_br (a := 1) (z := 30) rfl (fun cx27_ => ?_) (fun cx27_ => ?_)
          · have cx27_ : vx13_ ≠ (-2) := of_decide_eq_true cx27_
            refine sm_T_go 2 (c1 := (170, [some (.inr (.inr (some (7, 0)))), some (.inl 1), some (.inl i_), none, some (.inl vx13_)], [.inl (-3), .inl vx13_], Sx1_)) rfl ?_
            refine sm_T_br (a := 1) (z := 16) rfl (fun cx28_ => ?_) (fun cx28_ => ?_)
            · have cx28_ : vx13_ ≠ (-3) := of_decide_eq_true cx28_
              refine sm_T_go 2 (c1 := (190, [some (.inr (.inr (some (7, 0)))), some (.inl 1), some (.inl i_), none, some (.inl vx13_)], [.inl (-4), .inl vx13_], Sx1_)) rfl ?_
              refine sm_T_br (a := 1) (z := 10) rfl (fun cx29_ => ?_) (fun cx29_ => ?_)
              · have cx29_ : vx13_ ≠ (-4) := of_decide_eq_true cx29_
                refine sm_T_go 1 (c1 := (201, [some (.inr (.inr (some (7, 0)))), some (.inl 1), some (.inl i_), none, some (.inl vx13_)], [.inl 0], Sx1_)) rfl ?_
                refine sm_T_rz rfl (by omega) (Or.inl ⟨_, _, rfl, _, rfl, hIx2_, hFx5_, ?_⟩)
                have so0_ := o_tp_0 k77_.1.1 (by show o_tp so_ = 0; omega)
                have so0_ : so_ = [] := so0_
                subst so0_
                right
                have w6_ : p_yy b_ n_ md_ pr_ (.inr (.inr (q_, sg_, sc_))) R_ := w4_
                refine ⟨rfl, sg_, sc_, q_, c77_, xr77_, w6_, by rw [hgl_]; rfl, y5_, ?_⟩
                have hls2_ : sc_.length + 0 ≤ c1_.length + o1_.length := hls_
                omega
              · have cx29_ : ¬ (vx13_ ≠ (-4)) := of_decide_eq_false cx29_
                obtain ⟨k8_, t8_, o8_, rfl, e8_⟩ := o_tp_c (o_ := so_) (by omega)
                have k84_ : k8_ = -4 := by omega
                subst k84_
                have hm8_ := o_md k77_.1.1
                subst hm8_
                obtain ⟨z1_, z2_, z3_, g8_, hg7_⟩ := s_ok_3 k77_.1
                subst hg7_
                have hl8_ : ((-4, t8_) :: o8_ : List (Int × Nat)).length = o8_.length + 1 := rfl
                have hl9_ : (z1_ :: z2_ :: z3_ :: g8_).length = g8_.length + 3 := rfl
                refine sm_T_go 1 (c1 := (194, [some (.inr (.inr (some (7, 0)))), some (.inl 1), some (.inl i_), none, some (.inl vx13_)], [.inr (.inr (some (7, 0)))], Sx1_)) rfl ?_
                refine sm_T_calx (d1 := 1) (Q1 := vq_152 o8_ g8_ sc_ (-4) t8_ z1_ z2_ z3_ Sx1_) (Q2 := vx_152 o8_ g8_ sc_ (-4) t8_ z1_ z2_ z3_ Sx1_) rfl rfl (by decide) (vc_152 o8_ g8_ sc_ (-4) t8_ z1_ z2_ z3_ Sx1_ hIx2_ (by exact x77_) (by (rw [hop_]; show (1 : Int) ≤ ((1 + o_mk o8_ : Nat) : Int); omega)) (by omega) (by omega) (by omega) (by exact k77_.1.1.2.1)) rfl (fun Sx30_ px33_ => ?_) (fun u_ Sx30_ px33_ => ?_)
                · obtain ⟨hIx31_, hFx32_, px33_⟩ := px33_
                  refine Or.inr ⟨_, rfl, hIx31_, ai_fr_tr hFx5_ (fr_le hFx32_ rfl), ?_⟩
                  refine ⟨(13, t8_), ?_, px33_.2⟩
                  rw [p_sa_cx px33_.1] at w4_
                  exact w4_
                obtain ⟨rfl, hIx31_, hFx32_, px33_⟩ := px33_
                have hFx34_ : ai_fr (sx_W vw_145) S0_ Sx30_ := ai_fr_tr hFx5_ (fr_le hFx32_ rfl)
                have ex35_ : Sx30_.1 10 0 2 = Sx1_.1 10 0 2 := hFx32_.1 10 0 2 rfl
                have e194_ := px33_
                have c194_ := ct_fr c77_ hFx32_ rfl rfl rfl rfl rfl rfl rfl
                have x194_ : xr false o8_ (z2_ :: g8_) (7 :: sc_) Sx30_ := ⟨e194_.2.1, by rw [e194_.2.2, hop_]; show ((1 + o_mk o8_ : Nat) : Int) - 1 = _; omega⟩
                rw [p_sa_ch e194_.1] at w4_
                have hxl9_ : Sx30_.1 7 0 14 = (o8_.length : Int) := e194_.2.1.1
                refine sm_T_go 1 (c1 := (202, [some (.inr (.inr (some (7, 0)))), some (.inl 1), some (.inl i_), none, some (.inl vx13_)], [], Sx30_)) rfl ?_
                refine sm_T_inc (a := 2) (z := 1) (v := i_) (w := i_ + 1) rfl rfl (by omega) (by omega) (by omega) ?_
                refine sm_T_go 1 (c1 := (4, [some (.inr (.inr (some (7, 0)))), some (.inl 1), some (.inl (i_ + 1)), none, some (.inl vx13_)], [], Sx30_)) rfl ?_
                refine sm_T_wk [some (.inr (.inr (some (7, 0)))), some (.inl 1), some (.inl (i_ + 1)), none, none] (by exact ⟨rfl, rfl, rfl, trivial⟩) ?_
                refine ih_.1 1 (i_ + 1) Sx30_ hIx31_ hFx34_ ⟨?_, ?_, trivial⟩ ?_
                · first | (have hf9_ := f158_.1 7 0 14 rfl; first | (have hf8_ : _ = (o8_.length : Int) := x151_.1.1; omega) | (have hf8_ : _ = (o8_.length : Int) := x140_.1.1; omega)) | omega
                · first | (have k1_ := p_ad_ok hp1_ (by omega) (p_ad_c e158_); have k3_ := x_B3 (b_ := b_) (n_ := n_) (p_ := q_) (s_ := ((k8_, t8_) :: o8_, sg_, sc_)) hp1_ k77_.1 ⟨htp_, by show k8_ ≠ -4; omega⟩ (by show sc_.length + ((k8_, t8_) :: o8_).length ≤ 3 * q_; omega) (by rw [pB3_c (by omega), if_pos e140_.1, p_ad_c e158_]; rfl); refine ⟨o8_, _, _, (lx_nx b_ n_ q_), e158_, ?_, k3_.2.1, k3_.2.2.2.2, by omega, Or.inl ⟨rfl, w5_⟩⟩; first | (rw [show decide (k8_ = -2) = true from decide_eq_true (by omega), hg8_]; exact xr_fr x151_ f158_ rfl rfl rfl rfl rfl rfl rfl rfl rfl) | (rw [show decide (k8_ = -2) = false from decide_eq_false (by omega)]; exact xr_fr x140_ f158_ rfl rfl rfl rfl rfl rfl rfl rfl rfl)) | (obtain ⟨t1_, t2_, t3_, t4_⟩ := k77_.1; refine ⟨o8_, z2_ :: g8_, 7 :: sc_, q_, c194_, x194_, ⟨t1_.2.2, ?_, ?_, ?_⟩, ?_, y5_, Or.inr ⟨rfl, ?_, w4_⟩⟩; (have t2_ : 1 + o_mk o8_ ≤ 60 := t2_; show o_mk o8_ ≤ 60; omega); (have t3_ : (z1_ :: z2_ :: z3_ :: g8_).length = 2 + o_hl o8_ + 1 := t3_; show g8_.length + 1 = o_hl o8_ + 1; omega); (exact h_ok_c.mpr ⟨(h_ok_c.mp (h_ok_c.mp t4_).2).1, (h_ok_c.mp (h_ok_c.mp (h_ok_c.mp t4_).2).2).2⟩); (show sc_.length + 1 + o8_.length ≤ 3 * q_; omega); (intro z_; first | omega | cases hm9_))
                · first | (have hf9_ := f158_.1 7 0 14 rfl; first | (have hf8_ : _ = (o8_.length : Int) := x151_.1.1; omega) | (have hf8_ : _ = (o8_.length : Int) := x140_.1.1; omega)) | omega
            · have cx28_ : ¬ (vx13_ ≠ (-3)) := of_decide_eq_false cx28_
              obtain ⟨k8_, t8_, o8_, rfl, e8_⟩ := o_tp_c (o_ := so_) (by omega)
              have k83_ : k8_ = -3 := by omega
              subst k83_
              rw [p_sa_st htp_ (by omega)] at w4_
              have w5_ : p_yy b_ n_ md_ pr_ (p_B3 b_ n_ md_ q_ ((-3, t8_) :: o8_, sg_, sc_)) R_ := w4_
              rw [pB3_q] at w5_
              have hl8_ : ((-3, t8_) :: o8_ : List (Int × Nat)).length = o8_.length + 1 := rfl
              refine sm_T_go 1 (c1 := (174, [some (.inr (.inr (some (7, 0)))), some (.inl 1), some (.inl i_), none, some (.inl vx13_)], [.inr (.inr (some (7, 0)))], Sx1_)) rfl ?_
              refine sm_T_calx (d1 := 1) (Q1 := vq_150 md_ o8_ sg_ sc_ t8_ b_ n_ q_ Sx1_) (Q2 := vx_150 md_ o8_ sg_ sc_ t8_ b_ n_ q_ Sx1_) rfl rfl (by decide) (vc_150 md_ o8_ sg_ sc_ t8_ b_ n_ q_ Sx1_ hIx2_ (by exact x77_) (by exact c77_) (by omega)) rfl (fun Sx36_ px39_ => ?_) (fun u_ Sx36_ px39_ => ?_)
              · obtain ⟨hIx37_, hFx38_, px39_⟩ := px39_
                refine Or.inr ⟨_, rfl, hIx37_, ai_fr_tr hFx5_ (fr_le hFx38_ rfl), ?_⟩
                refine ⟨(2, q_), ?_, px39_.2⟩
                rw [if_neg px39_.1] at w5_
                exact w5_
              obtain ⟨rfl, hIx37_, hFx38_, px39_⟩ := px39_
              have hFx40_ : ai_fr (sx_W vw_145) S0_ Sx36_ := ai_fr_tr hFx5_ (fr_le hFx38_ rfl)
              have ex41_ : Sx36_.1 10 0 2 = Sx1_.1 10 0 2 := hFx38_.1 10 0 2 rfl
              have e174_ := px39_
              have c174_ := ct_fr c77_ hFx38_ rfl rfl rfl rfl rfl rfl rfl
              have x174_ : xr md_ ((-4, t8_) :: o8_) sg_ sc_ Sx36_ := ⟨e174_.2, (hFx38_.1 7 0 17 rfl).trans (hop_.trans rfl)⟩
              rw [if_pos e174_.1] at w5_
              refine sm_T_go 2 (c1 := (181, [some (.inr (.inr (some (7, 0)))), some (.inl 1), some (.inl i_), none, some (.inl vx13_)], [.inr (.inr (some (10, 0)))], Sx36_)) rfl ?_
              refine sm_T_calx (d1 := 1) (Q1 := vq_191 b_ n_ (lx_en b_ n_ q_) Sx36_) (Q2 := vx_191 b_ n_ (lx_en b_ n_ q_) Sx36_) rfl rfl (by decide) (vc_191 b_ n_ (lx_en b_ n_ q_) Sx36_ hIx37_ (by exact c174_.1) (by exact c174_.2.1) (by exact c174_.2.2.1) (by exact c174_.2.2.2.2.2.2.1) (by exact (lx_en_le (b := b_) c174_.2.2.2.1).2)) rfl (fun Sx42_ px45_ => ?_) (fun u_ Sx42_ px45_ => ?_)
              · obtain ⟨hIx43_, hFx44_, px45_⟩ := px45_
                refine Or.inr ⟨_, rfl, hIx43_, ai_fr_tr hFx40_ (fr_le hFx44_ rfl), ?_⟩
                refine ⟨(1, (lx_nx b_ n_ q_)), ?_, px45_.2⟩
                rw [p_ad_x px45_.1] at w5_
                exact w5_
              obtain ⟨rfl, hIx43_, hFx44_, px45_⟩ := px45_
              have hFx46_ : ai_fr (sx_W vw_145) S0_ Sx42_ := ai_fr_tr hFx40_ (fr_le hFx44_ rfl)
              have e181_ := px45_
              have f181_ := hFx44_
              rw [p_ad_c e181_] at w5_
              refine sm_T_go 1 (c1 := (185, [some (.inr (.inr (some (7, 0)))), some (.inl 1), some (.inl i_), none, some (.inl vx13_)], [.inl 1], Sx42_)) rfl ?_
              refine sm_T_rz rfl (by omega) (Or.inl ⟨_, _, rfl, _, rfl, hIx43_, hFx46_, ?_⟩)
              have k1_ := p_ad_ok hp1_ (by omega) (p_ad_c e181_)
              left
              refine ⟨rfl, _, _, _, lx_nx b_ n_ q_, e181_, xr_fr x174_ f181_ rfl rfl rfl rfl rfl rfl rfl rfl rfl, x_B3 (b_ := b_) (n_ := n_) (p_ := q_) (s_ := ((-3, t8_) :: o8_, sg_, sc_)) hp1_ k77_.1 ⟨htp_, by show (-3 : Int) ≠ -4; decide⟩ (by show sc_.length + ((-3, t8_) :: o8_ : List (Int × Nat)).length ≤ 3 * q_; omega) (by rw [pB3_q, if_pos e174_.1, p_ad_c e181_]; rfl), w5_, by omega⟩
          · have cx27_ : ¬ (vx13_ ≠ (-2)) := of_decide_eq_false cx27_
            obtain ⟨k8_, t8_, o8_, rfl, e8_⟩ := o_tp_c (o_ := so_) (by omega)
            rw [p_sa_st htp_ (by omega)] at w4_
            have w5_ : p_yy b_ n_ md_ pr_ (p_B3 b_ n_ md_ q_ ((k8_, t8_) :: o8_, sg_, sc_)) R_ := w4_
            rw [pB3_c (by omega)] at w5_
            refine sm_T_go 1 (c1 := (140, [some (.inr (.inr (some (7, 0)))), some (.inl 1), some (.inl i_), none, some (.inl vx13_)], [.inr (.inr (some (7, 0)))], Sx1_)) rfl ?_
            refine sm_T_calx (d1 := 1) (Q1 := vq_151 md_ o8_ sg_ sc_ k8_ t8_ b_ n_ q_ Sx1_) (Q2 := vx_151 md_ o8_ sg_ sc_ k8_ t8_ b_ n_ q_ Sx1_) rfl rfl (by decide) (vc_151 md_ o8_ sg_ sc_ k8_ t8_ b_ n_ q_ Sx1_ hIx2_ (by exact x77_) (by exact c77_) (by (rw [hop_]; show (1 : Int) ≤ (((if k8_ < 0 then 1 else 0) + o_mk o8_ : Nat) : Int); rw [if_pos (by omega)]; omega))) rfl (fun Sx47_ px50_ => ?_) (fun u_ Sx47_ px50_ => ?_)
            · obtain ⟨hIx48_, hFx49_, px50_⟩ := px50_
              refine Or.inr ⟨_, rfl, hIx48_, ai_fr_tr hFx5_ (fr_le hFx49_ rfl), ?_⟩
              refine ⟨(2, q_), ?_, px50_.2⟩
              rw [if_neg px50_.1] at w5_
              exact w5_
            obtain ⟨rfl, hIx48_, hFx49_, px50_⟩ := px50_
            have hFx51_ : ai_fr (sx_W vw_145) S0_ Sx47_ := ai_fr_tr hFx5_ (fr_le hFx49_ rfl)
            have ex52_ : Sx47_.1 10 0 2 = Sx1_.1 10 0 2 := hFx49_.1 10 0 2 rfl
            have e140_ := px50_
            have c140_ := ct_fr c77_ hFx49_ rfl rfl rfl rfl rfl rfl rfl
            have x140_ : xr md_ o8_ sg_ sc_ Sx47_ := ⟨e140_.2.1, by rw [e140_.2.2, hop_]; show (((if k8_ < 0 then 1 else 0) + o_mk o8_ : Nat) : Int) - 1 = _; rw [if_pos (by omega)]; omega⟩
            rw [if_pos e140_.1] at w5_
            have w140_ := e140_.2.1
            rw [hg8_] at w140_
            have hl8_ : ((k8_, t8_) :: o8_).length = o8_.length + 1 := rfl
            refine sm_T_go 2 (c1 := (147, [some (.inr (.inr (some (7, 0)))), some (.inl 1), some (.inl i_), none, some (.inl vx13_)], [.inl (-2), .inl vx13_], Sx47_)) rfl ?_
            refine sm_T_br (a := 1) (z := 7) rfl (fun cx53_ => ?_) (fun cx53_ => ?_)
            · have cx53_ : vx13_ ≠ (-2) := of_decide_eq_true cx53_
              exfalso; omega
            · have cx53_ : ¬ (vx13_ ≠ (-2)) := of_decide_eq_false cx53_
              refine sm_T_go 1 (c1 := (151, [some (.inr (.inr (some (7, 0)))), some (.inl 1), some (.inl i_), none, some (.inl vx13_)], [.inr (.inr (some (7, 0)))], Sx47_)) rfl ?_
              refine sm_T_cal (d1 := 1) (Q1 := vq_139 md_ o8_ g9_ sc_ z9_ Sx47_) rfl rfl (by decide) (vc_139 md_ o8_ g9_ sc_ z9_ Sx47_ hIx48_ (by exact w140_) (by omega)) (fun u_ Sx54_ px57_ => ?_)
              obtain ⟨rfl, hIx55_, hFx56_, px57_⟩ := px57_
              have hFx58_ : ai_fr (sx_W vw_145) S0_ Sx54_ := ai_fr_tr hFx51_ (fr_le hFx56_ rfl)
              have e151_ := px57_
              have c151_ := ct_fr c140_ hFx56_ rfl rfl rfl rfl rfl rfl rfl
              have x151_ : xr md_ o8_ (p_tn md_ (z9_ :: g9_) sc_).1 (p_tn md_ (z9_ :: g9_) sc_).2 Sx54_ := ⟨e151_, (hFx56_.1 7 0 17 rfl).trans x140_.2⟩
              refine sm_T_go 2 (c1 := (158, [some (.inr (.inr (some (7, 0)))), some (.inl 1), some (.inl i_), none, some (.inl vx13_)], [.inr (.inr (some (10, 0)))], Sx54_)) rfl ?_
              refine sm_T_calx (d1 := 1) (Q1 := vq_191 b_ n_ (lx_en b_ n_ q_) Sx54_) (Q2 := vx_191 b_ n_ (lx_en b_ n_ q_) Sx54_) rfl rfl (by decide) (vc_191 b_ n_ (lx_en b_ n_ q_) Sx54_ hIx55_ (by first | exact c151_.1 | exact c140_.1) (by first | exact c151_.2.1 | exact c140_.2.1) (by exact hn1_) (by first | exact c151_.2.2.2.2.2.2.1 | exact c140_.2.2.2.2.2.2.1) (by exact (lx_en_le (b := b_) hp1_).2)) rfl (fun Sx59_ px62_ => ?_) (fun u_ Sx59_ px62_ => ?_)
              · obtain ⟨hIx60_, hFx61_, px62_⟩ := px62_
                refine Or.inr ⟨_, rfl, hIx60_, ai_fr_tr hFx58_ (fr_le hFx61_ rfl), ?_⟩
                refine ⟨(1, (lx_nx b_ n_ q_)), ?_, px62_.2⟩
                rw [p_ad_x px62_.1] at w5_
                exact w5_
              obtain ⟨rfl, hIx60_, hFx61_, px62_⟩ := px62_
              have hFx63_ : ai_fr (sx_W vw_145) S0_ Sx59_ := ai_fr_tr hFx58_ (fr_le hFx61_ rfl)
              have e158_ := px62_
              have f158_ := hFx61_
              rw [p_ad_c e158_] at w5_
              refine sm_T_go 3 (c1 := (202, [some (.inr (.inr (some (7, 0)))), some (.inl 0), some (.inl i_), none, some (.inl vx13_)], [], Sx59_)) rfl ?_
              refine sm_T_inc (a := 2) (z := 1) (v := i_) (w := i_ + 1) rfl rfl (by omega) (by omega) (by omega) ?_
              refine sm_T_go 1 (c1 := (4, [some (.inr (.inr (some (7, 0)))), some (.inl 0), some (.inl (i_ + 1)), none, some (.inl vx13_)], [], Sx59_)) rfl ?_
              refine sm_T_wk [some (.inr (.inr (some (7, 0)))), some (.inl 0), some (.inl (i_ + 1)), none, none] (by exact ⟨rfl, rfl, rfl, trivial⟩) ?_
              refine ih_.1 0 (i_ + 1) Sx59_ hIx60_ hFx63_ ⟨?_, ?_, trivial⟩ ?_
              · first | (have hf9_ := f158_.1 7 0 14 rfl; first | (have hf8_ : _ = (o8_.length : Int) := x151_.1.1; omega) | (have hf8_ : _ = (o8_.length : Int) := x140_.1.1; omega)) | omega
              · first | (have k1_ := p_ad_ok hp1_ (by omega) (p_ad_c e158_); have k3_ := x_B3 (b_ := b_) (n_ := n_) (p_ := q_) (s_ := ((k8_, t8_) :: o8_, sg_, sc_)) hp1_ k77_.1 ⟨htp_, by show k8_ ≠ -4; omega⟩ (by show sc_.length + ((k8_, t8_) :: o8_).length ≤ 3 * q_; omega) (by rw [pB3_c (by omega), if_pos e140_.1, p_ad_c e158_]; rfl); refine ⟨o8_, _, _, (lx_nx b_ n_ q_), e158_, ?_, k3_.2.1, k3_.2.2.2.2, by omega, Or.inl ⟨rfl, w5_⟩⟩; first | (rw [show decide (k8_ = -2) = true from decide_eq_true (by omega), hg8_]; exact xr_fr x151_ f158_ rfl rfl rfl rfl rfl rfl rfl rfl rfl) | (rw [show decide (k8_ = -2) = false from decide_eq_false (by omega)]; exact xr_fr x140_ f158_ rfl rfl rfl rfl rfl rfl rfl rfl rfl)) | (obtain ⟨t1_, t2_, t3_, t4_⟩ := k77_.1; refine ⟨o8_, z2_ :: g8_, 7 :: sc_, q_, c194_, x194_, ⟨t1_.2.2, ?_, ?_, ?_⟩, ?_, y5_, Or.inr ⟨rfl, ?_, w4_⟩⟩; (have t2_ : 1 + o_mk o8_ ≤ 60 := t2_; show o_mk o8_ ≤ 60; omega); (have t3_ : (z1_ :: z2_ :: z3_ :: g8_).length = 2 + o_hl o8_ + 1 := t3_; show g8_.length + 1 = o_hl o8_ + 1; omega); (exact h_ok_c.mpr ⟨(h_ok_c.mp (h_ok_c.mp t4_).2).1, (h_ok_c.mp (h_ok_c.mp (h_ok_c.mp t4_).2).2).2⟩); (show sc_.length + 1 + o8_.length ≤ 3 * q_; omega); (intro z_; first | omega | cases hm9_))
              · first | (have hf9_ := f158_.1 7 0 14 rfl; first | (have hf8_ : _ = (o8_.length : Int) := x151_.1.1; omega) | (have hf8_ : _ = (o8_.length : Int) := x140_.1.1; omega)) | omega
      · have cx7_ : ¬ ((Sx1_.1 10 0 2) ≠ 63) := of_decide_eq_false cx7_
        refine sm_T_go 1 (c1 := (93, [some (.inr (.inr (some (7, 0)))), none, some (.inl i_), none, none], [.inr (.inr (some (7, 0)))], Sx1_)) rfl ?_
        cases qx64_ : Sx1_.2.1 7 0 11 with
        | none =>
          refine sm_T_gr rfl rfl qx64_ ?_
          have hm9_ : md_ = false := xs_n x77_ qx64_
          refine sm_T_go 3 (c1 := (102, [some (.inr (.inr (some (7, 0)))), none, some (.inl i_), none, none], [.inl (-3), .inr (.inr (some (7, 0)))], Sx1_)) rfl ?_
          refine sm_T_calx (d1 := 1) (Q1 := vq_136 (-3) md_ so_ sg_ sc_ b_ n_ q_ Sx1_) (Q2 := vx_136 (-3) md_ so_ sg_ sc_ b_ n_ q_ Sx1_) rfl rfl (by decide) (vc_136 (-3) md_ so_ sg_ sc_ b_ n_ q_ Sx1_ hIx2_ (by exact xr77_) (by exact c77_) (by decide) (by omega)) rfl (fun Sx66_ px69_ => ?_) (fun u_ Sx66_ px69_ => ?_)
          · obtain ⟨hIx67_, hFx68_, px69_⟩ := px69_
            refine Or.inr ⟨_, rfl, hIx67_, ai_fr_tr hFx5_ (fr_le hFx68_ rfl), ?_⟩
            refine ⟨(3, q_), ?_, px69_.2⟩
            have w3_ := y6_ ⟨hm9_, by omega⟩
            rw [pB2_q ⟨hm9_, by omega⟩ e77_, if_pos px69_.1] at w3_
            exact w3_
          obtain ⟨rfl, hIx67_, hFx68_, px69_⟩ := px69_
          have hFx70_ : ai_fr (sx_W vw_145) S0_ Sx66_ := ai_fr_tr hFx5_ (fr_le hFx68_ rfl)
          have ex71_ : Sx66_.1 10 0 2 = Sx1_.1 10 0 2 := hFx68_.1 10 0 2 rfl
          have e102_ := px69_
          have c102_ := ct_fr c77_ hFx68_ rfl rfl rfl rfl rfl rfl rfl
          have w102_ := e102_.2.1
          rw [hg8_] at w102_
          refine sm_T_go 1 (c1 := (106, [some (.inr (.inr (some (7, 0)))), none, some (.inl i_), none, none], [.inr (.inr (some (7, 0)))], Sx66_)) rfl ?_
          refine sm_T_calx (d1 := 1) (Q1 := vq_149 md_ ((-3, q_) :: so_) g9_ sc_ z9_ b_ n_ q_ Sx66_) (Q2 := vx_149 md_ ((-3, q_) :: so_) g9_ sc_ z9_ b_ n_ q_ Sx66_) rfl rfl (by decide) (vc_149 md_ ((-3, q_) :: so_) g9_ sc_ z9_ b_ n_ q_ Sx66_ hIx67_ (by exact w102_) (by exact c102_) (by omega)) rfl (fun Sx72_ px75_ => ?_) (fun u_ Sx72_ px75_ => ?_)
          · obtain ⟨hIx73_, hFx74_, px75_⟩ := px75_
            refine Or.inr ⟨_, rfl, hIx73_, ai_fr_tr hFx70_ (fr_le hFx74_ rfl), ?_⟩
            refine ⟨(13, q_), ?_, px75_.2⟩
            have w3_ := y6_ ⟨hm9_, by omega⟩
            rw [pB2_q ⟨hm9_, by omega⟩ e77_, if_neg e102_.1, if_pos (by show h_tp sg_ ≠ 1; rw [hg8_]; exact px75_.1)] at w3_
            exact w3_
          obtain ⟨rfl, hIx73_, hFx74_, px75_⟩ := px75_
          have hFx76_ : ai_fr (sx_W vw_145) S0_ Sx72_ := ai_fr_tr hFx70_ (fr_le hFx74_ rfl)
          have e106_ := px75_
          have c106_ := ct_fr c102_ hFx74_ rfl rfl rfl rfl rfl rfl rfl
          have x106_ := xr_fr e102_.2 hFx74_ rfl rfl rfl rfl rfl rfl rfl rfl rfl
          refine sm_T_go 2 (c1 := (113, [some (.inr (.inr (some (7, 0)))), none, some (.inl i_), none, none], [.inr (.inr (some (10, 0)))], Sx72_)) rfl ?_
          refine sm_T_calx (d1 := 1) (Q1 := vq_191 b_ n_ (lx_en b_ n_ q_) Sx72_) (Q2 := vx_191 b_ n_ (lx_en b_ n_ q_) Sx72_) rfl rfl (by decide) (vc_191 b_ n_ (lx_en b_ n_ q_) Sx72_ hIx73_ (by exact c106_.1) (by exact c106_.2.1) (by exact c106_.2.2.1) (by exact c106_.2.2.2.2.2.2.1) (by exact (lx_en_le (b := b_) c106_.2.2.2.1).2)) rfl (fun Sx77_ px80_ => ?_) (fun u_ Sx77_ px80_ => ?_)
          · obtain ⟨hIx78_, hFx79_, px80_⟩ := px80_
            refine Or.inr ⟨_, rfl, hIx78_, ai_fr_tr hFx76_ (fr_le hFx79_ rfl), ?_⟩
            refine ⟨(1, (lx_nx b_ n_ q_)), ?_, px80_.2⟩
            have w3_ := y6_ ⟨hm9_, by omega⟩
            rw [pB2_q ⟨hm9_, by omega⟩ e77_, if_neg e102_.1, if_neg (by show ¬ h_tp sg_ ≠ 1; rw [hg8_, e106_]; exact fun z_ => z_ rfl), p_ad_x px80_.1] at w3_
            exact w3_
          obtain ⟨rfl, hIx78_, hFx79_, px80_⟩ := px80_
          have hFx81_ : ai_fr (sx_W vw_145) S0_ Sx77_ := ai_fr_tr hFx76_ (fr_le hFx79_ rfl)
          have e113_ := px80_
          have f113_ := hFx79_
          refine sm_T_go 1 (c1 := (117, [some (.inr (.inr (some (7, 0)))), none, some (.inl i_), none, none], [.inl 1], Sx77_)) rfl ?_
          refine sm_T_rz rfl (by omega) (Or.inl ⟨_, _, rfl, _, rfl, hIx78_, hFx81_, ?_⟩)
          have k1_ := p_ad_ok hp1_ (by omega) (p_ad_c e113_)
          have hb2_ : p_B2 b_ n_ md_ q_ (o1_, g1_, c1_) = .inr (.inl (0, false, (lx_nx b_ n_ q_), (-3, q_) :: so_, sg_, sc_)) := by rw [pB2_q ⟨hm9_, by omega⟩ e77_, if_neg e102_.1, if_neg (by show ¬ h_tp sg_ ≠ 1; rw [hg8_, e106_]; exact fun z_ => z_ rfl), p_ad_c e113_]; rfl
          have w3_ := y6_ ⟨hm9_, by omega⟩
          rw [hb2_] at w3_
          left
          exact ⟨rfl, _, _, _, lx_nx b_ n_ q_, e113_, xr_fr x106_ f113_ rfl rfl rfl rfl rfl rfl rfl rfl rfl, x_B2 hn1_ hp1_ y3_ y4_ hb2_, w3_, by omega⟩
        | some jx65_ =>
          refine sm_T_gr rfl rfl qx64_ ?_
          have hm9_ : md_ = true := xs_s x77_ qx64_
          have w4_ := w2_ (fun z_ => by rw [hm9_] at z_; cases z_.1)
          refine sm_T_go 4 (c1 := (121, [some (.inr (.inr (some (7, 0)))), some (.inl 1), some (.inl i_), none, none], [.inr (.inr (some (7, 0)))], Sx1_)) rfl ?_
          refine sm_T_cal (d1 := 0) (Q1 := vq_147 md_ so_ sg_ sc_ Sx1_) rfl rfl (by decide) (vc_147 md_ so_ sg_ sc_ Sx1_ hIx2_ (by exact x77_)) (fun u_ Sx82_ px85_ => ?_)
          obtain ⟨rfl, vx87_, rfl, px85_⟩ := px85_
          have e121_ := px85_
          have t5_ : -4 ≤ o_tp so_ ∧ o_tp so_ ≤ 5 := o_tp5 k77_.1.1
          refine sm_T_go 3 (c1 := (129, [some (.inr (.inr (some (7, 0)))), some (.inl 1), some (.inl i_), none, some (.inl vx87_)], [.inl (-1), .inl vx87_], Sx1_)) rfl ?_
          refine sm_T_br (a := 0) (z := 10) rfl (fun cx88_ => ?_) (fun cx88_ => ?_)
          · have cx88_ : vx87_ = (-1) := of_decide_eq_true cx88_
            obtain ⟨k8_, t8_, o8_, rfl, e8_⟩ := o_tp_c (o_ := so_) (by omega)
            rw [p_sa_st htp_ (by omega)] at w4_
            have w5_ : p_yy b_ n_ md_ pr_ (p_B3 b_ n_ md_ q_ ((k8_, t8_) :: o8_, sg_, sc_)) R_ := w4_
            rw [pB3_c (by omega)] at w5_
            refine sm_T_go 1 (c1 := (140, [some (.inr (.inr (some (7, 0)))), some (.inl 1), some (.inl i_), none, some (.inl vx87_)], [.inr (.inr (some (7, 0)))], Sx1_)) rfl ?_
            refine sm_T_calx (d1 := 1) (Q1 := vq_151 md_ o8_ sg_ sc_ k8_ t8_ b_ n_ q_ Sx1_) (Q2 := vx_151 md_ o8_ sg_ sc_ k8_ t8_ b_ n_ q_ Sx1_) rfl rfl (by decide) (vc_151 md_ o8_ sg_ sc_ k8_ t8_ b_ n_ q_ Sx1_ hIx2_ (by exact x77_) (by exact c77_) (by (rw [hop_]; show (1 : Int) ≤ (((if k8_ < 0 then 1 else 0) + o_mk o8_ : Nat) : Int); rw [if_pos (by omega)]; omega))) rfl (fun Sx89_ px92_ => ?_) (fun u_ Sx89_ px92_ => ?_)
            · obtain ⟨hIx90_, hFx91_, px92_⟩ := px92_
              refine Or.inr ⟨_, rfl, hIx90_, ai_fr_tr hFx5_ (fr_le hFx91_ rfl), ?_⟩
              refine ⟨(2, q_), ?_, px92_.2⟩
              rw [if_neg px92_.1] at w5_
              exact w5_
            obtain ⟨rfl, hIx90_, hFx91_, px92_⟩ := px92_
            have hFx93_ : ai_fr (sx_W vw_145) S0_ Sx89_ := ai_fr_tr hFx5_ (fr_le hFx91_ rfl)
            have ex94_ : Sx89_.1 10 0 2 = Sx1_.1 10 0 2 := hFx91_.1 10 0 2 rfl
            have e140_ := px92_
            have c140_ := ct_fr c77_ hFx91_ rfl rfl rfl rfl rfl rfl rfl
            have x140_ : xr md_ o8_ sg_ sc_ Sx89_ := ⟨e140_.2.1, by rw [e140_.2.2, hop_]; show (((if k8_ < 0 then 1 else 0) + o_mk o8_ : Nat) : Int) - 1 = _; rw [if_pos (by omega)]; omega⟩
            rw [if_pos e140_.1] at w5_
            have w140_ := e140_.2.1
            rw [hg8_] at w140_
            have hl8_ : ((k8_, t8_) :: o8_).length = o8_.length + 1 := rfl
            refine sm_T_go 2 (c1 := (147, [some (.inr (.inr (some (7, 0)))), some (.inl 1), some (.inl i_), none, some (.inl vx87_)], [.inl (-2), .inl vx87_], Sx89_)) rfl ?_
            refine sm_T_br (a := 1) (z := 7) rfl (fun cx95_ => ?_) (fun cx95_ => ?_)
            · have cx95_ : vx87_ ≠ (-2) := of_decide_eq_true cx95_
              refine sm_T_go 2 (c1 := (158, [some (.inr (.inr (some (7, 0)))), some (.inl 1), some (.inl i_), none, some (.inl vx87_)], [.inr (.inr (some (10, 0)))], Sx89_)) rfl ?_
              refine sm_T_calx (d1 := 1) (Q1 := vq_191 b_ n_ (lx_en b_ n_ q_) Sx89_) (Q2 := vx_191 b_ n_ (lx_en b_ n_ q_) Sx89_) rfl rfl (by decide) (vc_191 b_ n_ (lx_en b_ n_ q_) Sx89_ hIx90_ (by first | exact c151_.1 | exact c140_.1) (by first | exact c151_.2.1 | exact c140_.2.1) (by exact hn1_) (by first | exact c151_.2.2.2.2.2.2.1 | exact c140_.2.2.2.2.2.2.1) (by exact (lx_en_le (b := b_) hp1_).2)) rfl (fun Sx96_ px99_ => ?_) (fun u_ Sx96_ px99_ => ?_)
              · obtain ⟨hIx97_, hFx98_, px99_⟩ := px99_
                refine Or.inr ⟨_, rfl, hIx97_, ai_fr_tr hFx93_ (fr_le hFx98_ rfl), ?_⟩
                refine ⟨(1, (lx_nx b_ n_ q_)), ?_, px99_.2⟩
                rw [p_ad_x px99_.1] at w5_
                exact w5_
              obtain ⟨rfl, hIx97_, hFx98_, px99_⟩ := px99_
              have hFx100_ : ai_fr (sx_W vw_145) S0_ Sx96_ := ai_fr_tr hFx93_ (fr_le hFx98_ rfl)
              have e158_ := px99_
              have f158_ := hFx98_
              rw [p_ad_c e158_] at w5_
              refine sm_T_go 3 (c1 := (202, [some (.inr (.inr (some (7, 0)))), some (.inl 0), some (.inl i_), none, some (.inl vx87_)], [], Sx96_)) rfl ?_
              refine sm_T_inc (a := 2) (z := 1) (v := i_) (w := i_ + 1) rfl rfl (by omega) (by omega) (by omega) ?_
              refine sm_T_go 1 (c1 := (4, [some (.inr (.inr (some (7, 0)))), some (.inl 0), some (.inl (i_ + 1)), none, some (.inl vx87_)], [], Sx96_)) rfl ?_
              refine sm_T_wk [some (.inr (.inr (some (7, 0)))), some (.inl 0), some (.inl (i_ + 1)), none, none] (by exact ⟨rfl, rfl, rfl, trivial⟩) ?_
              refine ih_.1 0 (i_ + 1) Sx96_ hIx97_ hFx100_ ⟨?_, ?_, trivial⟩ ?_
              · first | (have hf9_ := f158_.1 7 0 14 rfl; first | (have hf8_ : _ = (o8_.length : Int) := x151_.1.1; omega) | (have hf8_ : _ = (o8_.length : Int) := x140_.1.1; omega)) | omega
              · first | (have k1_ := p_ad_ok hp1_ (by omega) (p_ad_c e158_); have k3_ := x_B3 (b_ := b_) (n_ := n_) (p_ := q_) (s_ := ((k8_, t8_) :: o8_, sg_, sc_)) hp1_ k77_.1 ⟨htp_, by show k8_ ≠ -4; omega⟩ (by show sc_.length + ((k8_, t8_) :: o8_).length ≤ 3 * q_; omega) (by rw [pB3_c (by omega), if_pos e140_.1, p_ad_c e158_]; rfl); refine ⟨o8_, _, _, (lx_nx b_ n_ q_), e158_, ?_, k3_.2.1, k3_.2.2.2.2, by omega, Or.inl ⟨rfl, w5_⟩⟩; first | (rw [show decide (k8_ = -2) = true from decide_eq_true (by omega), hg8_]; exact xr_fr x151_ f158_ rfl rfl rfl rfl rfl rfl rfl rfl rfl) | (rw [show decide (k8_ = -2) = false from decide_eq_false (by omega)]; exact xr_fr x140_ f158_ rfl rfl rfl rfl rfl rfl rfl rfl rfl)) | (obtain ⟨t1_, t2_, t3_, t4_⟩ := k77_.1; refine ⟨o8_, z2_ :: g8_, 7 :: sc_, q_, c194_, x194_, ⟨t1_.2.2, ?_, ?_, ?_⟩, ?_, y5_, Or.inr ⟨rfl, ?_, w4_⟩⟩; (have t2_ : 1 + o_mk o8_ ≤ 60 := t2_; show o_mk o8_ ≤ 60; omega); (have t3_ : (z1_ :: z2_ :: z3_ :: g8_).length = 2 + o_hl o8_ + 1 := t3_; show g8_.length + 1 = o_hl o8_ + 1; omega); (exact h_ok_c.mpr ⟨(h_ok_c.mp (h_ok_c.mp t4_).2).1, (h_ok_c.mp (h_ok_c.mp (h_ok_c.mp t4_).2).2).2⟩); (show sc_.length + 1 + o8_.length ≤ 3 * q_; omega); (intro z_; first | omega | cases hm9_))
              · first | (have hf9_ := f158_.1 7 0 14 rfl; first | (have hf8_ : _ = (o8_.length : Int) := x151_.1.1; omega) | (have hf8_ : _ = (o8_.length : Int) := x140_.1.1; omega)) | omega
            · have cx95_ : ¬ (vx87_ ≠ (-2)) := of_decide_eq_false cx95_
              exfalso; omega
          · have cx88_ : ¬ (vx87_ = (-1)) := of_decide_eq_false cx88_
            refine sm_T_go 2 (c1 := (136, [some (.inr (.inr (some (7, 0)))), some (.inl 1), some (.inl i_), none, some (.inl vx87_)], [.inl (-2), .inl vx87_], Sx1_)) rfl ?_
            refine sm_T_br (a := 1) (z := 30) rfl (fun cx101_ => ?_) (fun cx101_ => ?_)
            · have cx101_ : vx87_ ≠ (-2) := of_decide_eq_true cx101_
              refine sm_T_go 2 (c1 := (170, [some (.inr (.inr (some (7, 0)))), some (.inl 1), some (.inl i_), none, some (.inl vx87_)], [.inl (-3), .inl vx87_], Sx1_)) rfl ?_
              refine sm_T_br (a := 1) (z := 16) rfl (fun cx102_ => ?_) (fun cx102_ => ?_)
              · have cx102_ : vx87_ ≠ (-3) := of_decide_eq_true cx102_
                refine sm_T_go 2 (c1 := (190, [some (.inr (.inr (some (7, 0)))), some (.inl 1), some (.inl i_), none, some (.inl vx87_)], [.inl (-4), .inl vx87_], Sx1_)) rfl ?_
                refine sm_T_br (a := 1) (z := 10) rfl (fun cx103_ => ?_) (fun cx103_ => ?_)
                · have cx103_ : vx87_ ≠ (-4) := of_decide_eq_true cx103_
                  refine sm_T_go 1 (c1 := (201, [some (.inr (.inr (some (7, 0)))), some (.inl 1), some (.inl i_), none, some (.inl vx87_)], [.inl 0], Sx1_)) rfl ?_
                  refine sm_T_rz rfl (by omega) (Or.inl ⟨_, _, rfl, _, rfl, hIx2_, hFx5_, ?_⟩)
                  have so0_ := o_tp_0 k77_.1.1 (by show o_tp so_ = 0; omega)
                  have so0_ : so_ = [] := so0_
                  subst so0_
                  right
                  have w6_ : p_yy b_ n_ md_ pr_ (.inr (.inr (q_, sg_, sc_))) R_ := w4_
                  refine ⟨rfl, sg_, sc_, q_, c77_, xr77_, w6_, by rw [hgl_]; rfl, y5_, ?_⟩
                  have hls2_ : sc_.length + 0 ≤ c1_.length + o1_.length := hls_
                  omega
                · have cx103_ : ¬ (vx87_ ≠ (-4)) := of_decide_eq_false cx103_
                  obtain ⟨k8_, t8_, o8_, rfl, e8_⟩ := o_tp_c (o_ := so_) (by omega)
                  have k84_ : k8_ = -4 := by omega
                  subst k84_
                  have hm8_ := o_md k77_.1.1
                  subst hm8_
                  obtain ⟨z1_, z2_, z3_, g8_, hg7_⟩ := s_ok_3 k77_.1
                  subst hg7_
                  have hl8_ : ((-4, t8_) :: o8_ : List (Int × Nat)).length = o8_.length + 1 := rfl
                  have hl9_ : (z1_ :: z2_ :: z3_ :: g8_).length = g8_.length + 3 := rfl
                  refine sm_T_go 1 (c1 := (194, [some (.inr (.inr (some (7, 0)))), some (.inl 1), some (.inl i_), none, some (.inl vx87_)], [.inr (.inr (some (7, 0)))], Sx1_)) rfl ?_
                  refine sm_T_calx (d1 := 1) (Q1 := vq_152 o8_ g8_ sc_ (-4) t8_ z1_ z2_ z3_ Sx1_) (Q2 := vx_152 o8_ g8_ sc_ (-4) t8_ z1_ z2_ z3_ Sx1_) rfl rfl (by decide) (vc_152 o8_ g8_ sc_ (-4) t8_ z1_ z2_ z3_ Sx1_ hIx2_ (by exact x77_) (by (rw [hop_]; show (1 : Int) ≤ ((1 + o_mk o8_ : Nat) : Int); omega)) (by omega) (by omega) (by omega) (by exact k77_.1.1.2.1)) rfl (fun Sx104_ px107_ => ?_) (fun u_ Sx104_ px107_ => ?_)
                  · obtain ⟨hIx105_, hFx106_, px107_⟩ := px107_
                    refine Or.inr ⟨_, rfl, hIx105_, ai_fr_tr hFx5_ (fr_le hFx106_ rfl), ?_⟩
                    refine ⟨(13, t8_), ?_, px107_.2⟩
                    rw [p_sa_cx px107_.1] at w4_
                    exact w4_
                  obtain ⟨rfl, hIx105_, hFx106_, px107_⟩ := px107_
                  have hFx108_ : ai_fr (sx_W vw_145) S0_ Sx104_ := ai_fr_tr hFx5_ (fr_le hFx106_ rfl)
                  have ex109_ : Sx104_.1 10 0 2 = Sx1_.1 10 0 2 := hFx106_.1 10 0 2 rfl
                  have e194_ := px107_
                  have c194_ := ct_fr c77_ hFx106_ rfl rfl rfl rfl rfl rfl rfl
                  have x194_ : xr false o8_ (z2_ :: g8_) (7 :: sc_) Sx104_ := ⟨e194_.2.1, by rw [e194_.2.2, hop_]; show ((1 + o_mk o8_ : Nat) : Int) - 1 = _; omega⟩
                  rw [p_sa_ch e194_.1] at w4_
                  have hxl9_ : Sx104_.1 7 0 14 = (o8_.length : Int) := e194_.2.1.1
                  refine sm_T_go 1 (c1 := (202, [some (.inr (.inr (some (7, 0)))), some (.inl 1), some (.inl i_), none, some (.inl vx87_)], [], Sx104_)) rfl ?_
                  refine sm_T_inc (a := 2) (z := 1) (v := i_) (w := i_ + 1) rfl rfl (by omega) (by omega) (by omega) ?_
                  refine sm_T_go 1 (c1 := (4, [some (.inr (.inr (some (7, 0)))), some (.inl 1), some (.inl (i_ + 1)), none, some (.inl vx87_)], [], Sx104_)) rfl ?_
                  refine sm_T_wk [some (.inr (.inr (some (7, 0)))), some (.inl 1), some (.inl (i_ + 1)), none, none] (by exact ⟨rfl, rfl, rfl, trivial⟩) ?_
                  refine ih_.1 1 (i_ + 1) Sx104_ hIx105_ hFx108_ ⟨?_, ?_, trivial⟩ ?_
                  · first | (have hf9_ := f158_.1 7 0 14 rfl; first | (have hf8_ : _ = (o8_.length : Int) := x151_.1.1; omega) | (have hf8_ : _ = (o8_.length : Int) := x140_.1.1; omega)) | omega
                  · first | (have k1_ := p_ad_ok hp1_ (by omega) (p_ad_c e158_); have k3_ := x_B3 (b_ := b_) (n_ := n_) (p_ := q_) (s_ := ((k8_, t8_) :: o8_, sg_, sc_)) hp1_ k77_.1 ⟨htp_, by show k8_ ≠ -4; omega⟩ (by show sc_.length + ((k8_, t8_) :: o8_).length ≤ 3 * q_; omega) (by rw [pB3_c (by omega), if_pos e140_.1, p_ad_c e158_]; rfl); refine ⟨o8_, _, _, (lx_nx b_ n_ q_), e158_, ?_, k3_.2.1, k3_.2.2.2.2, by omega, Or.inl ⟨rfl, w5_⟩⟩; first | (rw [show decide (k8_ = -2) = true from decide_eq_true (by omega), hg8_]; exact xr_fr x151_ f158_ rfl rfl rfl rfl rfl rfl rfl rfl rfl) | (rw [show decide (k8_ = -2) = false from decide_eq_false (by omega)]; exact xr_fr x140_ f158_ rfl rfl rfl rfl rfl rfl rfl rfl rfl)) | (obtain ⟨t1_, t2_, t3_, t4_⟩ := k77_.1; refine ⟨o8_, z2_ :: g8_, 7 :: sc_, q_, c194_, x194_, ⟨t1_.2.2, ?_, ?_, ?_⟩, ?_, y5_, Or.inr ⟨rfl, ?_, w4_⟩⟩; (have t2_ : 1 + o_mk o8_ ≤ 60 := t2_; show o_mk o8_ ≤ 60; omega); (have t3_ : (z1_ :: z2_ :: z3_ :: g8_).length = 2 + o_hl o8_ + 1 := t3_; show g8_.length + 1 = o_hl o8_ + 1; omega); (exact h_ok_c.mpr ⟨(h_ok_c.mp (h_ok_c.mp t4_).2).1, (h_ok_c.mp (h_ok_c.mp (h_ok_c.mp t4_).2).2).2⟩); (show sc_.length + 1 + o8_.length ≤ 3 * q_; omega); (intro z_; first | omega | cases hm9_))
                  · first | (have hf9_ := f158_.1 7 0 14 rfl; first | (have hf8_ : _ = (o8_.length : Int) := x151_.1.1; omega) | (have hf8_ : _ = (o8_.length : Int) := x140_.1.1; omega)) | omega
              · have cx102_ : ¬ (vx87_ ≠ (-3)) := of_decide_eq_false cx102_
                obtain ⟨k8_, t8_, o8_, rfl, e8_⟩ := o_tp_c (o_ := so_) (by omega)
                have k83_ : k8_ = -3 := by omega
                subst k83_
                rw [p_sa_st htp_ (by omega)] at w4_
                have w5_ : p_yy b_ n_ md_ pr_ (p_B3 b_ n_ md_ q_ ((-3, t8_) :: o8_, sg_, sc_)) R_ := w4_
                rw [pB3_q] at w5_
                have hl8_ : ((-3, t8_) :: o8_ : List (Int × Nat)).length = o8_.length + 1 := rfl
                refine sm_T_go 1 (c1 := (174, [some (.inr (.inr (some (7, 0)))), some (.inl 1), some (.inl i_), none, some (.inl vx87_)], [.inr (.inr (some (7, 0)))], Sx1_)) rfl ?_
                refine sm_T_calx (d1 := 1) (Q1 := vq_150 md_ o8_ sg_ sc_ t8_ b_ n_ q_ Sx1_) (Q2 := vx_150 md_ o8_ sg_ sc_ t8_ b_ n_ q_ Sx1_) rfl rfl (by decide) (vc_150 md_ o8_ sg_ sc_ t8_ b_ n_ q_ Sx1_ hIx2_ (by exact x77_) (by exact c77_) (by omega)) rfl (fun Sx110_ px113_ => ?_) (fun u_ Sx110_ px113_ => ?_)
                · obtain ⟨hIx111_, hFx112_, px113_⟩ := px113_
                  refine Or.inr ⟨_, rfl, hIx111_, ai_fr_tr hFx5_ (fr_le hFx112_ rfl), ?_⟩
                  refine ⟨(2, q_), ?_, px113_.2⟩
                  rw [if_neg px113_.1] at w5_
                  exact w5_
                obtain ⟨rfl, hIx111_, hFx112_, px113_⟩ := px113_
                have hFx114_ : ai_fr (sx_W vw_145) S0_ Sx110_ := ai_fr_tr hFx5_ (fr_le hFx112_ rfl)
                have ex115_ : Sx110_.1 10 0 2 = Sx1_.1 10 0 2 := hFx112_.1 10 0 2 rfl
                have e174_ := px113_
                have c174_ := ct_fr c77_ hFx112_ rfl rfl rfl rfl rfl rfl rfl
                have x174_ : xr md_ ((-4, t8_) :: o8_) sg_ sc_ Sx110_ := ⟨e174_.2, (hFx112_.1 7 0 17 rfl).trans (hop_.trans rfl)⟩
                rw [if_pos e174_.1] at w5_
                refine sm_T_go 2 (c1 := (181, [some (.inr (.inr (some (7, 0)))), some (.inl 1), some (.inl i_), none, some (.inl vx87_)], [.inr (.inr (some (10, 0)))], Sx110_)) rfl ?_
                refine sm_T_calx (d1 := 1) (Q1 := vq_191 b_ n_ (lx_en b_ n_ q_) Sx110_) (Q2 := vx_191 b_ n_ (lx_en b_ n_ q_) Sx110_) rfl rfl (by decide) (vc_191 b_ n_ (lx_en b_ n_ q_) Sx110_ hIx111_ (by exact c174_.1) (by exact c174_.2.1) (by exact c174_.2.2.1) (by exact c174_.2.2.2.2.2.2.1) (by exact (lx_en_le (b := b_) c174_.2.2.2.1).2)) rfl (fun Sx116_ px119_ => ?_) (fun u_ Sx116_ px119_ => ?_)
                · obtain ⟨hIx117_, hFx118_, px119_⟩ := px119_
                  refine Or.inr ⟨_, rfl, hIx117_, ai_fr_tr hFx114_ (fr_le hFx118_ rfl), ?_⟩
                  refine ⟨(1, (lx_nx b_ n_ q_)), ?_, px119_.2⟩
                  rw [p_ad_x px119_.1] at w5_
                  exact w5_
                obtain ⟨rfl, hIx117_, hFx118_, px119_⟩ := px119_
                have hFx120_ : ai_fr (sx_W vw_145) S0_ Sx116_ := ai_fr_tr hFx114_ (fr_le hFx118_ rfl)
                have e181_ := px119_
                have f181_ := hFx118_
                rw [p_ad_c e181_] at w5_
                refine sm_T_go 1 (c1 := (185, [some (.inr (.inr (some (7, 0)))), some (.inl 1), some (.inl i_), none, some (.inl vx87_)], [.inl 1], Sx116_)) rfl ?_
                refine sm_T_rz rfl (by omega) (Or.inl ⟨_, _, rfl, _, rfl, hIx117_, hFx120_, ?_⟩)
                have k1_ := p_ad_ok hp1_ (by omega) (p_ad_c e181_)
                left
                refine ⟨rfl, _, _, _, lx_nx b_ n_ q_, e181_, xr_fr x174_ f181_ rfl rfl rfl rfl rfl rfl rfl rfl rfl, x_B3 (b_ := b_) (n_ := n_) (p_ := q_) (s_ := ((-3, t8_) :: o8_, sg_, sc_)) hp1_ k77_.1 ⟨htp_, by show (-3 : Int) ≠ -4; decide⟩ (by show sc_.length + ((-3, t8_) :: o8_ : List (Int × Nat)).length ≤ 3 * q_; omega) (by rw [pB3_q, if_pos e174_.1, p_ad_c e181_]; rfl), w5_, by omega⟩
            · have cx101_ : ¬ (vx87_ ≠ (-2)) := of_decide_eq_false cx101_
              obtain ⟨k8_, t8_, o8_, rfl, e8_⟩ := o_tp_c (o_ := so_) (by omega)
              rw [p_sa_st htp_ (by omega)] at w4_
              have w5_ : p_yy b_ n_ md_ pr_ (p_B3 b_ n_ md_ q_ ((k8_, t8_) :: o8_, sg_, sc_)) R_ := w4_
              rw [pB3_c (by omega)] at w5_
              refine sm_T_go 1 (c1 := (140, [some (.inr (.inr (some (7, 0)))), some (.inl 1), some (.inl i_), none, some (.inl vx87_)], [.inr (.inr (some (7, 0)))], Sx1_)) rfl ?_
              refine sm_T_calx (d1 := 1) (Q1 := vq_151 md_ o8_ sg_ sc_ k8_ t8_ b_ n_ q_ Sx1_) (Q2 := vx_151 md_ o8_ sg_ sc_ k8_ t8_ b_ n_ q_ Sx1_) rfl rfl (by decide) (vc_151 md_ o8_ sg_ sc_ k8_ t8_ b_ n_ q_ Sx1_ hIx2_ (by exact x77_) (by exact c77_) (by (rw [hop_]; show (1 : Int) ≤ (((if k8_ < 0 then 1 else 0) + o_mk o8_ : Nat) : Int); rw [if_pos (by omega)]; omega))) rfl (fun Sx121_ px124_ => ?_) (fun u_ Sx121_ px124_ => ?_)
              · obtain ⟨hIx122_, hFx123_, px124_⟩ := px124_
                refine Or.inr ⟨_, rfl, hIx122_, ai_fr_tr hFx5_ (fr_le hFx123_ rfl), ?_⟩
                refine ⟨(2, q_), ?_, px124_.2⟩
                rw [if_neg px124_.1] at w5_
                exact w5_
              obtain ⟨rfl, hIx122_, hFx123_, px124_⟩ := px124_
              have hFx125_ : ai_fr (sx_W vw_145) S0_ Sx121_ := ai_fr_tr hFx5_ (fr_le hFx123_ rfl)
              have ex126_ : Sx121_.1 10 0 2 = Sx1_.1 10 0 2 := hFx123_.1 10 0 2 rfl
              have e140_ := px124_
              have c140_ := ct_fr c77_ hFx123_ rfl rfl rfl rfl rfl rfl rfl
              have x140_ : xr md_ o8_ sg_ sc_ Sx121_ := ⟨e140_.2.1, by rw [e140_.2.2, hop_]; show (((if k8_ < 0 then 1 else 0) + o_mk o8_ : Nat) : Int) - 1 = _; rw [if_pos (by omega)]; omega⟩
              rw [if_pos e140_.1] at w5_
              have w140_ := e140_.2.1
              rw [hg8_] at w140_
              have hl8_ : ((k8_, t8_) :: o8_).length = o8_.length + 1 := rfl
              refine sm_T_go 2 (c1 := (147, [some (.inr (.inr (some (7, 0)))), some (.inl 1), some (.inl i_), none, some (.inl vx87_)], [.inl (-2), .inl vx87_], Sx121_)) rfl ?_
              refine sm_T_br (a := 1) (z := 7) rfl (fun cx127_ => ?_) (fun cx127_ => ?_)
              · have cx127_ : vx87_ ≠ (-2) := of_decide_eq_true cx127_
                exfalso; omega
              · have cx127_ : ¬ (vx87_ ≠ (-2)) := of_decide_eq_false cx127_
                refine sm_T_go 1 (c1 := (151, [some (.inr (.inr (some (7, 0)))), some (.inl 1), some (.inl i_), none, some (.inl vx87_)], [.inr (.inr (some (7, 0)))], Sx121_)) rfl ?_
                refine sm_T_cal (d1 := 1) (Q1 := vq_139 md_ o8_ g9_ sc_ z9_ Sx121_) rfl rfl (by decide) (vc_139 md_ o8_ g9_ sc_ z9_ Sx121_ hIx122_ (by exact w140_) (by omega)) (fun u_ Sx128_ px131_ => ?_)
                obtain ⟨rfl, hIx129_, hFx130_, px131_⟩ := px131_
                have hFx132_ : ai_fr (sx_W vw_145) S0_ Sx128_ := ai_fr_tr hFx125_ (fr_le hFx130_ rfl)
                have e151_ := px131_
                have c151_ := ct_fr c140_ hFx130_ rfl rfl rfl rfl rfl rfl rfl
                have x151_ : xr md_ o8_ (p_tn md_ (z9_ :: g9_) sc_).1 (p_tn md_ (z9_ :: g9_) sc_).2 Sx128_ := ⟨e151_, (hFx130_.1 7 0 17 rfl).trans x140_.2⟩
                refine sm_T_go 2 (c1 := (158, [some (.inr (.inr (some (7, 0)))), some (.inl 1), some (.inl i_), none, some (.inl vx87_)], [.inr (.inr (some (10, 0)))], Sx128_)) rfl ?_
                refine sm_T_calx (d1 := 1) (Q1 := vq_191 b_ n_ (lx_en b_ n_ q_) Sx128_) (Q2 := vx_191 b_ n_ (lx_en b_ n_ q_) Sx128_) rfl rfl (by decide) (vc_191 b_ n_ (lx_en b_ n_ q_) Sx128_ hIx129_ (by first | exact c151_.1 | exact c140_.1) (by first | exact c151_.2.1 | exact c140_.2.1) (by exact hn1_) (by first | exact c151_.2.2.2.2.2.2.1 | exact c140_.2.2.2.2.2.2.1) (by exact (lx_en_le (b := b_) hp1_).2)) rfl (fun Sx133_ px136_ => ?_) (fun u_ Sx133_ px136_ => ?_)
                · obtain ⟨hIx134_, hFx135_, px136_⟩ := px136_
                  refine Or.inr ⟨_, rfl, hIx134_, ai_fr_tr hFx132_ (fr_le hFx135_ rfl), ?_⟩
                  refine ⟨(1, (lx_nx b_ n_ q_)), ?_, px136_.2⟩
                  rw [p_ad_x px136_.1] at w5_
                  exact w5_
                obtain ⟨rfl, hIx134_, hFx135_, px136_⟩ := px136_
                have hFx137_ : ai_fr (sx_W vw_145) S0_ Sx133_ := ai_fr_tr hFx132_ (fr_le hFx135_ rfl)
                have e158_ := px136_
                have f158_ := hFx135_
                rw [p_ad_c e158_] at w5_
                refine sm_T_go 3 (c1 := (202, [some (.inr (.inr (some (7, 0)))), some (.inl 0), some (.inl i_), none, some (.inl vx87_)], [], Sx133_)) rfl ?_
                refine sm_T_inc (a := 2) (z := 1) (v := i_) (w := i_ + 1) rfl rfl (by omega) (by omega) (by omega) ?_
                refine sm_T_go 1 (c1 := (4, [some (.inr (.inr (some (7, 0)))), some (.inl 0), some (.inl (i_ + 1)), none, some (.inl vx87_)], [], Sx133_)) rfl ?_
                refine sm_T_wk [some (.inr (.inr (some (7, 0)))), some (.inl 0), some (.inl (i_ + 1)), none, none] (by exact ⟨rfl, rfl, rfl, trivial⟩) ?_
                refine ih_.1 0 (i_ + 1) Sx133_ hIx134_ hFx137_ ⟨?_, ?_, trivial⟩ ?_
                · first | (have hf9_ := f158_.1 7 0 14 rfl; first | (have hf8_ : _ = (o8_.length : Int) := x151_.1.1; omega) | (have hf8_ : _ = (o8_.length : Int) := x140_.1.1; omega)) | omega
                · first | (have k1_ := p_ad_ok hp1_ (by omega) (p_ad_c e158_); have k3_ := x_B3 (b_ := b_) (n_ := n_) (p_ := q_) (s_ := ((k8_, t8_) :: o8_, sg_, sc_)) hp1_ k77_.1 ⟨htp_, by show k8_ ≠ -4; omega⟩ (by show sc_.length + ((k8_, t8_) :: o8_).length ≤ 3 * q_; omega) (by rw [pB3_c (by omega), if_pos e140_.1, p_ad_c e158_]; rfl); refine ⟨o8_, _, _, (lx_nx b_ n_ q_), e158_, ?_, k3_.2.1, k3_.2.2.2.2, by omega, Or.inl ⟨rfl, w5_⟩⟩; first | (rw [show decide (k8_ = -2) = true from decide_eq_true (by omega), hg8_]; exact xr_fr x151_ f158_ rfl rfl rfl rfl rfl rfl rfl rfl rfl) | (rw [show decide (k8_ = -2) = false from decide_eq_false (by omega)]; exact xr_fr x140_ f158_ rfl rfl rfl rfl rfl rfl rfl rfl rfl)) | (obtain ⟨t1_, t2_, t3_, t4_⟩ := k77_.1; refine ⟨o8_, z2_ :: g8_, 7 :: sc_, q_, c194_, x194_, ⟨t1_.2.2, ?_, ?_, ?_⟩, ?_, y5_, Or.inr ⟨rfl, ?_, w4_⟩⟩; (have t2_ : 1 + o_mk o8_ ≤ 60 := t2_; show o_mk o8_ ≤ 60; omega); (have t3_ : (z1_ :: z2_ :: z3_ :: g8_).length = 2 + o_hl o8_ + 1 := t3_; show g8_.length + 1 = o_hl o8_ + 1; omega); (exact h_ok_c.mpr ⟨(h_ok_c.mp (h_ok_c.mp t4_).2).1, (h_ok_c.mp (h_ok_c.mp (h_ok_c.mp t4_).2).2).2⟩); (show sc_.length + 1 + o8_.length ≤ 3 * q_; omega); (intro z_; first | omega | cases hm9_))
                · first | (have hf9_ := f158_.1 7 0 14 rfl; first | (have hf8_ : _ = (o8_.length : Int) := x151_.1.1; omega) | (have hf8_ : _ = (o8_.length : Int) := x140_.1.1; omega)) | omega
set_option maxHeartbeats 2000000 in
set_option maxRecDepth 20000 in
theorem vc_145 {sc_ : Nat × (Nat → Int)} (b_ : Nat → Int) (n_ : Nat) (md_ : Bool) (pr_ : pPr) (R_ : pE pR) (o_ : List (Int × Nat)) (g_ : List Int) (c_ : List Int) (p_ : Nat) (S0_ : sm_S) (hI_ : gi S0_) (hx_ : xr md_ o_ g_ c_ S0_) (hc_ : ct b_ n_ p_ S0_) (hpr_ : pr_ok b_ n_ pr_) (hok_ : x_ok b_ n_ md_ (1, false, p_, o_, g_, c_)) (hR_ : p_xx b_ n_ md_ pr_ (1, false, p_, o_, g_, c_) R_) : sm_T (mt_P sc_) 3 145 (0, [some (.inr (.inr (some (7, 0)))), none, none, none, none], [], S0_) (fun r_ => (∃ u_ S1_, r_ = (.inl u_, S1_, 0) ∧ vq_145 b_ n_ md_ pr_ R_ o_ g_ c_ p_ S0_ u_ S1_) ∨ ∃ S1_, r_ = (.inr 2, S1_, 1) ∧ vx_145 b_ n_ md_ pr_ R_ o_ g_ c_ p_ S0_ S1_) := by
  have hF_ : ai_fr (sx_W vw_145) S0_ S0_ := ai_fr_rf
  refine sm_T_go 4 (c1 := (4, [some (.inr (.inr (some (7, 0)))), some (.inl 0), some (.inl 0), none, none], [], S0_)) rfl ?_
  refine (vl_145 b_ n_ md_ pr_ R_ o_ g_ c_ p_ S0_ hx_ hc_ hpr_ hok_ hR_ _).1 0 0 S0_ hI_ hF_ ⟨?_, ?_, trivial⟩ (Nat.lt_succ_self _)
  · have x9_ := hx_.1.1
    have hol_ := o_lim hok_.2.1.1 hok_.2.1.2.1
    have hol1_ : o_.length ≤ 365 := hol_.1
    omega
  · exact ⟨o_, g_, c_, p_, hc_, hx_, hok_.2.1, hok_.2.2.2.2, Nat.le_refl _, Or.inl ⟨rfl, hR_⟩⟩
end
/-! 99.x7a -/
section
/-! the class reader: expressions; written by wip/p55/gen/vg -/

theorem ms_lt {a_ b_ : Int} {k_ : Nat} (h_ : a_ < b_) (hb_ : b_ ≤ 1280) (hm_ : (1300 - a_).toNat < k_ + 1) : (1300 - b_).toNat < k_ := by omega
def p_pm (b_ : Nat → Int) (n_ : Nat) (md_ : Bool) (A_ : pA) (M_ K_ : Nat) (f_ : Nat → Nat) : pPr := if md_ = true then p_pl b_ n_ K_ f_ else p_pd b_ n_ A_ M_
/-! Reader.expression -/
def vw_134 : sx_Wl := ([(7, 2), (7, 14), (7, 16), (7, 17), (10, 2), (10, 3), (10, 4), (10, 5), (10, 6), (10, 7), (10, 8)], [74, 82, 83, 84], [])
def vq_134 (b_ : Nat → Int) (n_ : Nat) (md_ : Bool) (A_ : pA) (M_ : Nat) (K_ : Nat) (f_ : Nat → Nat) (R_ : pE pR) (c_ : List Int) (p_ : Nat) (S0_ : sm_S) (u_ : Option sm_V) (S1_ : sm_S) : Prop := ∃ v_ : Int, u_ = some (.inl v_) ∧ gi S1_ ∧ ai_fr (sx_W vw_134) S0_ S1_ ∧ (∃ r_ w_, R_ = .inr r_ ∧ r_.2.1 = [w_] ∧ v_ = w_ ∧ (0 ≤ v_ ∧ v_ ≤ 255) ∧ ct b_ n_ r_.1 S1_ ∧ p_ < r_.1 ∧ (md_ = false → S1_.1 7 0 2 = (r_.2.2.length : Int) ∧ stk (S1_.2.2.1 74 0) r_.2.2) ∧ r_.2.2.length ≤ 3 * r_.1)
def vx_134 (b_ : Nat → Int) (n_ : Nat) (md_ : Bool) (A_ : pA) (M_ : Nat) (K_ : Nat) (f_ : Nat → Nat) (R_ : pE pR) (c_ : List Int) (p_ : Nat) (S0_ : sm_S) (S1_ : sm_S) : Prop := gi S1_ ∧ ai_fr (sx_W vw_134) S0_ S1_ ∧ (∃ e_, R_ = .inl e_ ∧ ter S1_ e_)
set_option maxHeartbeats 1000000 in
theorem vl_134 {sc_ : Nat × (Nat → Int)} (b_ : Nat → Int) (n_ : Nat) (md_ : Bool) (A_ : pA) (M_ : Nat) (K_ : Nat) (f_ : Nat → Nat) (R_ : pE pR) (c_ : List Int) (p_ : Nat) (S0_ : sm_S) (hc_ : ct b_ n_ p_ S0_) (hlb_ : S0_.2.1 7 0 11 = none ↔ md_ = false) (hcd_ : md_ = false → S0_.1 7 0 2 = (c_.length : Int) ∧ stk (S0_.2.2.1 74 0) c_) (hcl_ : c_.length ≤ 3 * p_) (her_ : md_ = false → er b_ n_ A_ M_ S0_) (hnr_ : md_ = true → nmr b_ n_ 1 K_ f_ S0_ ∧ K_ ≤ 3) (hR_ : p_xx b_ n_ md_ (p_pm b_ n_ md_ A_ M_ K_ f_) (0, false, p_, [], [], c_) R_) : ∀ nn_ : Nat, (∀ (m_ : Int) (i_ : Int) (S_ : sm_S), gi S_ → ai_fr (sx_W vw_134) S0_ S_ → ((0 ≤ i_ ∧ i_ ≤ (S_.1 10 0 3)) ∧ ((m_ = 1 ∧ ∃ o1_ g1_ c1_ q_, ct b_ n_ q_ S_ ∧ xr md_ o1_ g1_ c1_ S_ ∧ x_ok b_ n_ md_ (0, false, q_, o1_, g1_, c1_) ∧ p_xx b_ n_ md_ (p_pm b_ n_ md_ A_ M_ K_ f_) (0, false, q_, o1_, g1_, c1_) R_ ∧ p_ ≤ q_) ∨ (m_ = 0 ∧ ∃ g1_ c1_ q_, ct b_ n_ q_ S_ ∧ xr md_ [] g1_ c1_ S_ ∧ R_ = .inr (q_, g1_, c1_) ∧ g1_.length = 1 ∧ p_ < q_ ∧ c1_.length ≤ 3 * q_)) ∧ True) → ((1300 - (S_.1 10 0 3)).toNat) < nn_ → sm_T (mt_P sc_) 4 134 (19, [some (.inr (.inr (some (7, 0)))), some (.inl m_), some (.inl i_), none], [], S_) (fun r_ => (∃ u_ S1_, r_ = (.inl u_, S1_, 0) ∧ vq_134 b_ n_ md_ A_ M_ K_ f_ R_ c_ p_ S0_ u_ S1_) ∨ ∃ S1_, r_ = (.inr 2, S1_, 1) ∧ vx_134 b_ n_ md_ A_ M_ K_ f_ R_ c_ p_ S0_ S1_)) := by
  intro nn_
  induction nn_ with
  | zero => exact fun _ _ _ _ _ _ h_ => absurd h_ (Nat.not_lt_zero _)
  | succ nn_ ih_ =>
    rintro m_ i_ S_ hI_ hF_ ⟨h0_, h1_, -⟩ hm_
    have her1_ : md_ = false → er b_ n_ A_ M_ S_ := fun z_ => er_fr (her_ z_) hF_ rfl rfl rfl rfl rfl rfl
    have hnr1_ : md_ = true → nmr b_ n_ 1 K_ f_ S_ ∧ K_ ≤ 3 := fun z_ => ⟨nmr_fr (hnr_ z_).1 hF_ rfl rfl, (hnr_ z_).2⟩
    have hn1_ := hc_.2.2.1
    have cst_ : 0 ≤ S_.1 10 0 3 ∧ S_.1 10 0 3 ≤ 1280 := hI_.1 10 0 3 rfl
    have hpr_ : pr_ok b_ n_ (p_pm b_ n_ md_ A_ M_ K_ f_) := by unfold p_pm; by_cases z_ : md_ = true; (rw [if_pos z_]; exact pl_ok); (rw [if_neg z_]; exact pd_ok (her_ (by cases md_; rfl; exact absurd rfl z_)).2.1)
    refine sm_T_go 1 (c1 := (20, [some (.inr (.inr (some (7, 0)))), some (.inl m_), some (.inl i_), none], [.inl i_], S_)) rfl ?_
    refine sm_T_nt (u := some (.inl 65536)) (S1 := S_) rfl rfl rfl ?_
    refine sm_T_br (a := 3) (z := 103) rfl (fun cx1_ => ?_) (fun cx1_ => ?_)
    · have cx1_ : 65536 ≤ i_ := of_decide_eq_true cx1_
      exfalso; omega
    · have cx1_ : ¬ (65536 ≤ i_) := of_decide_eq_false cx1_
      refine sm_T_go 1 (c1 := (26, [some (.inr (.inr (some (7, 0)))), some (.inl m_), some (.inl i_), none], [.inl m_], S_)) rfl ?_
      refine sm_T_b0 (a := 0) (z := 99) rfl (fun cx2_ => ?_) (fun cx2_ => ?_)
      · have cx2_ : m_ = 0 := of_decide_eq_true cx2_
        refine sm_T_go 3 (c1 := (130, [some (.inr (.inr (some (7, 0)))), some (.inl m_), some (.inl i_), none], [.inl 0, .inr (.inr (some (84, 0)))], S_)) rfl ?_
        refine sm_T_iald (n := 488) rfl rfl (by omega) (by omega) ?_
        have bx3_ : 0 ≤ S_.2.2.1 84 0 (0 : Int).toNat ∧ S_.2.2.1 84 0 (0 : Int).toNat ≤ 255 := hI_.2 84 0 _
        refine sm_T_ri rfl (Or.inl ⟨_, _, rfl, _, rfl, hI_, hF_, ?_⟩)
        obtain ⟨g1_, c1_, q_, z1_, z2_, z3_, z4_, z5_, z6_⟩ : ∃ g1_ c1_ q_, ct b_ n_ q_ S_ ∧ xr md_ [] g1_ c1_ S_ ∧ R_ = .inr (q_, g1_, c1_) ∧ g1_.length = 1 ∧ p_ < q_ ∧ c1_.length ≤ 3 * q_ := by rcases h1_ with z_ | z_; (exfalso; omega); (exact z_.2)
        obtain ⟨w_, rfl⟩ : ∃ w_, g1_ = [w_] := by cases g1_ with | nil => (simp at z4_) | cons a_ l_ => (cases l_ with | nil => exact ⟨a_, rfl⟩ | cons a2_ l2_ => simp at z4_)
        refine ⟨(q_, [w_], c1_), w_, z3_, rfl, z2_.1.2.2.2.2.1.1, by omega, z1_, z5_, z2_.1.2.2.2.2.2.2, z6_⟩
      · have cx2_ : ¬ (m_ = 0) := of_decide_eq_false cx2_
        obtain ⟨o1_, g1_, c1_, q_, y1_, y2_, y3_, y4_, y5_⟩ : ∃ o1_ g1_ c1_ q_, ct b_ n_ q_ S_ ∧ xr md_ o1_ g1_ c1_ S_ ∧ x_ok b_ n_ md_ (0, false, q_, o1_, g1_, c1_) ∧ p_xx b_ n_ md_ (p_pm b_ n_ md_ A_ M_ K_ f_) (0, false, q_, o1_, g1_, c1_) R_ ∧ p_ ≤ q_ := by rcases h1_ with z_ | z_; (exact z_.2); (exfalso; omega)
        have st1_ := y1_.2.2.2.2.2.1
        refine sm_T_go 1 (c1 := (30, [some (.inr (.inr (some (7, 0)))), some (.inl m_), some (.inl i_), none], [.inr (.inr (some (7, 0)))], S_)) rfl ?_
        refine sm_T_calx (d1 := 2) (Q1 := vq_135 b_ n_ md_ (p_pm b_ n_ md_ A_ M_ K_ f_) R_ o1_ g1_ c1_ q_ S_) (Q2 := vx_135 b_ n_ md_ (p_pm b_ n_ md_ A_ M_ K_ f_) R_ o1_ g1_ c1_ q_ S_) rfl rfl (by decide) (vc_135 b_ n_ md_ (p_pm b_ n_ md_ A_ M_ K_ f_) R_ o1_ g1_ c1_ q_ S_ hI_ (by exact y2_) (by exact y1_) (by exact hpr_) (by exact y3_) (by exact y4_)) rfl (fun Sx4_ px7_ => ?_) (fun u_ Sx4_ px7_ => ?_)
        · obtain ⟨hIx5_, hFx6_, px7_⟩ := px7_
          refine Or.inr ⟨_, rfl, hIx5_, ai_fr_tr hF_ (fr_le hFx6_ rfl), ?_⟩
          exact px7_
        obtain ⟨vx9_, rfl, hIx5_, hFx6_, px7_⟩ := px7_
        have hFx8_ : ai_fr (sx_W vw_134) S0_ Sx4_ := ai_fr_tr hF_ (fr_le hFx6_ rfl)
        obtain ⟨tb_, o2_, q2_, t30_, x30_, c30_, ok30_, R30_, k33_, k40_, le30_⟩ := px7_
        have kd30_ := c30_.2.2.2.2.2.2.2.1
        have st30_ := c30_.2.2.2.2.2.1
        have hp30_ := c30_.2.2.2.1
        have her2_ := fun z_ => er_fr (her1_ z_) hFx6_ rfl rfl rfl rfl rfl rfl
        have hnr2_ : md_ = true → nmr b_ n_ 1 K_ f_ Sx4_ ∧ K_ ≤ 3 := fun z_ => ⟨nmr_fr (hnr1_ z_).1 hFx6_ rfl rfl, (hnr1_ z_).2⟩
        have lim2_ := o_lim ok30_.2.1.1 ok30_.2.1.2.1
        have gl2_ : g1_.length = o_hl o2_ + 0 := ok30_.2.1.2.2.1
        have gl3_ : o_hl o2_ ≤ 425 := lim2_.2
        have cl2_ : c1_.length + o2_.length ≤ 3 * q2_ := Nat.le_trans (Nat.le_add_right _ _) ok30_.2.2.2.2
        have her3_ := her2_
        refine sm_T_go 2 (c1 := (35, [some (.inr (.inr (some (7, 0)))), some (.inl m_), some (.inl i_), some (.inl vx9_)], [.inr (.inr (some (7, 0)))], Sx4_)) rfl ?_
        cases qx10_ : Sx4_.2.1 7 0 11 with
        | none =>
          refine sm_T_gr rfl rfl qx10_ ?_
          have hmd_ : md_ = false := xs_n x30_.1 qx10_
          have bx12_ : (-128) ≤ Sx4_.1 10 0 2 ∧ Sx4_.1 10 0 2 ≤ 257 := hIx5_.1 10 0 2 rfl
          refine sm_T_go 5 (c1 := (49, [some (.inr (.inr (some (7, 0)))), some (.inl m_), some (.inl i_), some (.inl vx9_)], [.inl 2, .inl (Sx4_.1 10 0 2)], Sx4_)) rfl ?_
          refine sm_T_br (a := 1) (z := 10) rfl (fun cx13_ => ?_) (fun cx13_ => ?_)
          · have cx13_ : (Sx4_.1 10 0 2) ≠ 2 := of_decide_eq_true cx13_
            refine sm_T_go 4 (c1 := (67, [some (.inr (.inr (some (7, 0)))), some (.inl m_), some (.inl i_), some (.inl vx9_)], [.inl 1, .inl (Sx4_.1 10 0 2)], Sx4_)) rfl ?_
            refine sm_T_br (a := 0) (z := 21) rfl (fun cx14_ => ?_) (fun cx14_ => ?_)
            · have cx14_ : (Sx4_.1 10 0 2) = 1 := of_decide_eq_true cx14_
              refine sm_T_go 1 (c1 := (89, [some (.inr (.inr (some (7, 0)))), some (.inl m_), some (.inl i_), some (.inl vx9_)], [.inr (.inr (some (7, 0)))], Sx4_)) rfl ?_
              refine sm_T_gr rfl rfl qx10_ ?_
              refine sm_T_go 2 (c1 := (96, [some (.inr (.inr (some (7, 0)))), some (.inl m_), some (.inl i_), some (.inl vx9_)], [.inr (.inr (some (7, 0)))], Sx4_)) rfl ?_
              refine sm_T_calx (d1 := 2) (Q1 := vq_143 o2_ g1_ c1_ b_ n_ q2_ A_ M_ Sx4_) (Q2 := vx_143 o2_ g1_ c1_ b_ n_ q2_ A_ M_ Sx4_) rfl rfl (by decide) (vc_143 o2_ g1_ c1_ b_ n_ q2_ A_ M_ Sx4_ hIx5_ (by rw [hmd_] at x30_; exact x30_) (by exact c30_) (by omega) (by exact her2_ hmd_) (by omega) (by omega)) rfl (fun Sx15_ px18_ => ?_) (fun u_ Sx15_ px18_ => ?_)
              · obtain ⟨hIx16_, hFx17_, px18_⟩ := px18_
                refine Or.inr ⟨_, rfl, hIx16_, ai_fr_tr hFx8_ (fr_le hFx17_ rfl), ?_⟩
                obtain ⟨e9_, w1_, w2_⟩ := px18_
                refine ⟨e9_, p_er R30_ ?_, w2_⟩
                rw [pA_p k33_ k40_]; unfold p_pm; rw [if_neg (by rw [hmd_]; decide)]; unfold p_pd; rw [if_neg (by omega), if_pos (by omega)]; rw [w1_]; rfl
              obtain ⟨rfl, hIx16_, hFx17_, px18_⟩ := px18_
              have hFx19_ : ai_fr (sx_W vw_134) S0_ Sx15_ := ai_fr_tr hFx8_ (fr_le hFx17_ rfl)
              obtain ⟨r9_, pr9_, x9_, c9_⟩ := px18_
              have pq9_ : (p_pm b_ n_ md_ A_ M_ K_ f_) q2_ = .inr r9_ := by unfold p_pm; rw [if_neg (by rw [hmd_]; decide)]; unfold p_pd; rw [if_neg (by omega), if_pos (by omega)]; exact pr9_
              have hs9_ := p_go hn1_ hpr_ ok30_ R30_ (by rw [pA_p k33_ k40_, pq9_]; rfl)
              have hlt9_ := hpr_ q2_ r9_ ok30_.2.2.1 ok30_.2.2.2.1 pq9_
              have x99_ : xr md_ o2_ (r9_.2.1 :: g1_) (r9_.2.2 ++ c1_) Sx15_ := by rw [hmd_]; exact x9_
              refine sm_T_go 2 (c1 := (107, [some (.inr (.inr (some (7, 0)))), some (.inl m_), some (.inl i_), some (.inl vx9_)], [.inl vx9_], Sx15_)) rfl ?_
              refine sm_T_b0 (a := 0) (z := 7) rfl (fun cx20_ => ?_) (fun cx20_ => ?_)
              · have cx20_ : vx9_ = 0 := of_decide_eq_true cx20_
                have ht_ : tb_ = false := by cases tb_; rfl; (rw [if_pos rfl] at t30_; omega)
                refine sm_T_go 1 (c1 := (115, [some (.inr (.inr (some (7, 0)))), some (.inl m_), some (.inl i_), some (.inl vx9_)], [.inr (.inr (some (7, 0)))], Sx15_)) rfl ?_
                refine sm_T_calx (d1 := 3) (Q1 := vq_145 b_ n_ md_ (p_pm b_ n_ md_ A_ M_ K_ f_) R_ o2_ (p_ti md_ tb_ (r9_.2.1 :: g1_) (r9_.2.2 ++ c1_)).1 (p_ti md_ tb_ (r9_.2.1 :: g1_) (r9_.2.2 ++ c1_)).2 r9_.1 Sx15_) (Q2 := vx_145 b_ n_ md_ (p_pm b_ n_ md_ A_ M_ K_ f_) R_ o2_ (p_ti md_ tb_ (r9_.2.1 :: g1_) (r9_.2.2 ++ c1_)).1 (p_ti md_ tb_ (r9_.2.1 :: g1_) (r9_.2.2 ++ c1_)).2 r9_.1 Sx15_) rfl rfl (by decide) (vc_145 b_ n_ md_ (p_pm b_ n_ md_ A_ M_ K_ f_) R_ o2_ (p_ti md_ tb_ (r9_.2.1 :: g1_) (r9_.2.2 ++ c1_)).1 (p_ti md_ tb_ (r9_.2.1 :: g1_) (r9_.2.2 ++ c1_)).2 r9_.1 Sx15_ hIx16_ (by rw [ht_]; first | exact x111_ | exact x99_) (by first | exact c111_ | exact c9_) (by exact hpr_) (by exact hs9_.1) (by exact hs9_.2)) rfl (fun Sx21_ px24_ => ?_) (fun u_ Sx21_ px24_ => ?_)
                · obtain ⟨hIx22_, hFx23_, px24_⟩ := px24_
                  refine Or.inr ⟨_, rfl, hIx22_, ai_fr_tr hFx19_ (fr_le hFx23_ rfl), ?_⟩
                  exact px24_
                obtain ⟨vx26_, rfl, hIx22_, hFx23_, px24_⟩ := px24_
                have hFx25_ : ai_fr (sx_W vw_134) S0_ Sx21_ := ai_fr_tr hFx19_ (fr_le hFx23_ rfl)
                have e115_ := px24_
                refine sm_T_go 1 (c1 := (119, [some (.inr (.inr (some (7, 0)))), some (.inl vx26_), some (.inl i_), some (.inl vx9_)], [], Sx21_)) rfl ?_
                refine sm_T_inc (a := 2) (z := 1) (v := i_) (w := i_ + 1) rfl rfl (by omega) (by omega) (by omega) ?_
                refine sm_T_go 1 (c1 := (19, [some (.inr (.inr (some (7, 0)))), some (.inl vx26_), some (.inl (i_ + 1)), some (.inl vx9_)], [], Sx21_)) rfl ?_
                refine sm_T_wk [some (.inr (.inr (some (7, 0)))), some (.inl vx26_), some (.inl (i_ + 1)), none] (by exact ⟨rfl, rfl, rfl, trivial⟩) ?_
                refine ih_ vx26_ (i_ + 1) Sx21_ hIx22_ hFx25_ ⟨?_, ?_, trivial⟩ ?_
                · rcases e115_ with ⟨z1_, o3_, g3_, c3_, q3_, z2_, z3_, z4_, z5_, z6_⟩ | ⟨z1_, g3_, c3_, q3_, z2_, z3_, z4_, z5_, z6_, z7_⟩
                  · have st3_ := z2_.2.2.2.2.2.1
                    have := hlt9_.1
                    omega
                  · have st3_ := z2_.2.2.2.2.2.1
                    have := hlt9_.1
                    omega
                · have := hlt9_.1
                  rcases e115_ with ⟨z1_, o3_, g3_, c3_, q3_, z2_, z3_, z4_, z5_, z6_⟩ | ⟨z1_, g3_, c3_, q3_, z2_, z3_, z4_, z5_, z6_, z7_⟩
                  · left; exact ⟨z1_, o3_, g3_, c3_, q3_, z2_, z3_, z4_, z5_, by omega⟩
                  · right; exact ⟨z1_, g3_, c3_, q3_, z2_, z3_, z4_, z5_, by omega, z7_⟩
                · (refine ms_lt ?_ ?_ hm_); (have := hlt9_.1; rcases e115_ with ⟨z1_, o3_, g3_, c3_, q3_, z2_, z3_, z4_, z5_, z6_⟩ | ⟨z1_, g3_, c3_, q3_, z2_, z3_, z4_, z5_, z6_, z7_⟩ <;> (have st3_ := z2_.2.2.2.2.2.1; omega)); (rcases e115_ with ⟨z1_, o3_, g3_, c3_, q3_, z2_, z3_, z4_, z5_, z6_⟩ | ⟨z1_, g3_, c3_, q3_, z2_, z3_, z4_, z5_, z6_, z7_⟩ <;> (have st3_ := z2_.2.2.2.2.2.1; have hp3_ := z2_.2.2.2.1; omega))
              · have cx20_ : ¬ (vx9_ = 0) := of_decide_eq_false cx20_
                have ht_ : tb_ = true := by cases tb_; (rw [if_neg (by decide)] at t30_; omega); rfl
                refine sm_T_go 1 (c1 := (111, [some (.inr (.inr (some (7, 0)))), some (.inl m_), some (.inl i_), some (.inl vx9_)], [.inr (.inr (some (7, 0)))], Sx15_)) rfl ?_
                refine sm_T_cal (d1 := 1) (Q1 := vq_139 md_ o2_ g1_ (r9_.2.2 ++ c1_) r9_.2.1 Sx15_) rfl rfl (by decide) (vc_139 md_ o2_ g1_ (r9_.2.2 ++ c1_) r9_.2.1 Sx15_ hIx16_ (by exact x99_.1) (by (rw [List.length_append]; have := hlt9_.2.2.2.2; have := hlt9_.2.1; omega))) (fun u_ Sx27_ px30_ => ?_)
                obtain ⟨rfl, hIx28_, hFx29_, px30_⟩ := px30_
                have hFx31_ : ai_fr (sx_W vw_134) S0_ Sx27_ := ai_fr_tr hFx19_ (fr_le hFx29_ rfl)
                have x111_ : xr md_ o2_ _ _ Sx27_ := ⟨px30_, (hFx29_.1 7 0 17 rfl).trans x99_.2⟩
                have c111_ := ct_fr c9_ hFx29_ rfl rfl rfl rfl rfl rfl rfl
                refine sm_T_go 1 (c1 := (115, [some (.inr (.inr (some (7, 0)))), some (.inl m_), some (.inl i_), some (.inl vx9_)], [.inr (.inr (some (7, 0)))], Sx27_)) rfl ?_
                refine sm_T_calx (d1 := 3) (Q1 := vq_145 b_ n_ md_ (p_pm b_ n_ md_ A_ M_ K_ f_) R_ o2_ (p_ti md_ tb_ (r9_.2.1 :: g1_) (r9_.2.2 ++ c1_)).1 (p_ti md_ tb_ (r9_.2.1 :: g1_) (r9_.2.2 ++ c1_)).2 r9_.1 Sx27_) (Q2 := vx_145 b_ n_ md_ (p_pm b_ n_ md_ A_ M_ K_ f_) R_ o2_ (p_ti md_ tb_ (r9_.2.1 :: g1_) (r9_.2.2 ++ c1_)).1 (p_ti md_ tb_ (r9_.2.1 :: g1_) (r9_.2.2 ++ c1_)).2 r9_.1 Sx27_) rfl rfl (by decide) (vc_145 b_ n_ md_ (p_pm b_ n_ md_ A_ M_ K_ f_) R_ o2_ (p_ti md_ tb_ (r9_.2.1 :: g1_) (r9_.2.2 ++ c1_)).1 (p_ti md_ tb_ (r9_.2.1 :: g1_) (r9_.2.2 ++ c1_)).2 r9_.1 Sx27_ hIx28_ (by rw [ht_]; first | exact x111_ | exact x99_) (by first | exact c111_ | exact c9_) (by exact hpr_) (by exact hs9_.1) (by exact hs9_.2)) rfl (fun Sx32_ px35_ => ?_) (fun u_ Sx32_ px35_ => ?_)
                · obtain ⟨hIx33_, hFx34_, px35_⟩ := px35_
                  refine Or.inr ⟨_, rfl, hIx33_, ai_fr_tr hFx31_ (fr_le hFx34_ rfl), ?_⟩
                  exact px35_
                obtain ⟨vx37_, rfl, hIx33_, hFx34_, px35_⟩ := px35_
                have hFx36_ : ai_fr (sx_W vw_134) S0_ Sx32_ := ai_fr_tr hFx31_ (fr_le hFx34_ rfl)
                have e115_ := px35_
                refine sm_T_go 1 (c1 := (119, [some (.inr (.inr (some (7, 0)))), some (.inl vx37_), some (.inl i_), some (.inl vx9_)], [], Sx32_)) rfl ?_
                refine sm_T_inc (a := 2) (z := 1) (v := i_) (w := i_ + 1) rfl rfl (by omega) (by omega) (by omega) ?_
                refine sm_T_go 1 (c1 := (19, [some (.inr (.inr (some (7, 0)))), some (.inl vx37_), some (.inl (i_ + 1)), some (.inl vx9_)], [], Sx32_)) rfl ?_
                refine sm_T_wk [some (.inr (.inr (some (7, 0)))), some (.inl vx37_), some (.inl (i_ + 1)), none] (by exact ⟨rfl, rfl, rfl, trivial⟩) ?_
                refine ih_ vx37_ (i_ + 1) Sx32_ hIx33_ hFx36_ ⟨?_, ?_, trivial⟩ ?_
                · rcases e115_ with ⟨z1_, o3_, g3_, c3_, q3_, z2_, z3_, z4_, z5_, z6_⟩ | ⟨z1_, g3_, c3_, q3_, z2_, z3_, z4_, z5_, z6_, z7_⟩
                  · have st3_ := z2_.2.2.2.2.2.1
                    have := hlt9_.1
                    omega
                  · have st3_ := z2_.2.2.2.2.2.1
                    have := hlt9_.1
                    omega
                · have := hlt9_.1
                  rcases e115_ with ⟨z1_, o3_, g3_, c3_, q3_, z2_, z3_, z4_, z5_, z6_⟩ | ⟨z1_, g3_, c3_, q3_, z2_, z3_, z4_, z5_, z6_, z7_⟩
                  · left; exact ⟨z1_, o3_, g3_, c3_, q3_, z2_, z3_, z4_, z5_, by omega⟩
                  · right; exact ⟨z1_, g3_, c3_, q3_, z2_, z3_, z4_, z5_, by omega, z7_⟩
                · (refine ms_lt ?_ ?_ hm_); (have := hlt9_.1; rcases e115_ with ⟨z1_, o3_, g3_, c3_, q3_, z2_, z3_, z4_, z5_, z6_⟩ | ⟨z1_, g3_, c3_, q3_, z2_, z3_, z4_, z5_, z6_, z7_⟩ <;> (have st3_ := z2_.2.2.2.2.2.1; omega)); (rcases e115_ with ⟨z1_, o3_, g3_, c3_, q3_, z2_, z3_, z4_, z5_, z6_⟩ | ⟨z1_, g3_, c3_, q3_, z2_, z3_, z4_, z5_, z6_, z7_⟩ <;> (have st3_ := z2_.2.2.2.2.2.1; have hp3_ := z2_.2.2.2.1; omega))
            · have cx14_ : ¬ ((Sx4_.1 10 0 2) = 1) := of_decide_eq_false cx14_
              have bx38_ : 0 ≤ Sx4_.1 10 0 3 ∧ Sx4_.1 10 0 3 ≤ 1280 := hIx5_.1 10 0 3 rfl
              refine sm_T_go 6 (c1 := (82, [some (.inr (.inr (some (7, 0)))), some (.inl m_), some (.inl i_), some (.inl vx9_)], [.inl (Sx4_.1 10 0 3), .inl 2, .inr (.inr (some (10, 0)))], Sx4_)) rfl ?_
              refine sm_T_calx (d1 := 0) (Q1 := vq_187 2 (Sx4_.1 10 0 3) Sx4_) (Q2 := vx_187 2 (Sx4_.1 10 0 3) Sx4_) rfl rfl (by decide) (vc_187 2 (Sx4_.1 10 0 3) Sx4_ hIx5_ (by decide) (by omega)) rfl (fun Sx39_ px42_ => ?_) (fun u_ Sx39_ px42_ => ?_)
              · obtain ⟨hIx40_, hFx41_, px42_⟩ := px42_
                refine Or.inr ⟨_, rfl, hIx40_, ai_fr_tr hFx8_ (fr_le hFx41_ rfl), ?_⟩
                refine ⟨(2, q2_), p_er R30_ ?_, px42_.1, px42_.2.trans st30_⟩
                rw [pA_p k33_ k40_]; unfold p_pm; first | (rw [if_neg (by rw [hmd_]; decide)]; unfold p_pd; rw [if_neg (by omega), if_neg (by omega)]; rfl) | (rw [if_pos hmd_]; unfold p_pl; rw [if_neg (by omega)]; rfl)
              · exact (px42_.2.2.2).elim
          · have cx13_ : ¬ ((Sx4_.1 10 0 2) ≠ 2) := of_decide_eq_false cx13_
            refine sm_T_go 1 (c1 := (53, [some (.inr (.inr (some (7, 0)))), some (.inl m_), some (.inl i_), some (.inl vx9_)], [.inr (.inr (some (7, 0)))], Sx4_)) rfl ?_
            refine sm_T_calx (d1 := 2) (Q1 := vq_142 o2_ g1_ c1_ b_ n_ q2_ Sx4_) (Q2 := vx_142 o2_ g1_ c1_ b_ n_ q2_ Sx4_) rfl rfl (by decide) (vc_142 o2_ g1_ c1_ b_ n_ q2_ Sx4_ hIx5_ (by rw [hmd_] at x30_; exact x30_) (by exact c30_) (by omega) (by omega) (by omega)) rfl (fun Sx44_ px47_ => ?_) (fun u_ Sx44_ px47_ => ?_)
            · obtain ⟨hIx45_, hFx46_, px47_⟩ := px47_
              refine Or.inr ⟨_, rfl, hIx45_, ai_fr_tr hFx8_ (fr_le hFx46_ rfl), ?_⟩
              obtain ⟨e9_, w1_, w2_⟩ := px47_
              refine ⟨e9_, p_er R30_ ?_, w2_⟩
              rw [pA_p k33_ k40_]; unfold p_pm; rw [if_neg (by rw [hmd_]; decide)]; unfold p_pd; rw [if_pos (by omega)]; rw [w1_]; rfl
            obtain ⟨rfl, hIx45_, hFx46_, px47_⟩ := px47_
            have hFx48_ : ai_fr (sx_W vw_134) S0_ Sx44_ := ai_fr_tr hFx8_ (fr_le hFx46_ rfl)
            obtain ⟨r9_, pr9_, x9_, c9_⟩ := px47_
            have pq9_ : (p_pm b_ n_ md_ A_ M_ K_ f_) q2_ = .inr r9_ := by unfold p_pm; rw [if_neg (by rw [hmd_]; decide)]; unfold p_pd; rw [if_pos (by omega)]; exact pr9_
            have hs9_ := p_go hn1_ hpr_ ok30_ R30_ (by rw [pA_p k33_ k40_, pq9_]; rfl)
            have hlt9_ := hpr_ q2_ r9_ ok30_.2.2.1 ok30_.2.2.2.1 pq9_
            have x99_ : xr md_ o2_ (r9_.2.1 :: g1_) (r9_.2.2 ++ c1_) Sx44_ := by rw [hmd_]; exact x9_
            refine sm_T_go 2 (c1 := (107, [some (.inr (.inr (some (7, 0)))), some (.inl m_), some (.inl i_), some (.inl vx9_)], [.inl vx9_], Sx44_)) rfl ?_
            refine sm_T_b0 (a := 0) (z := 7) rfl (fun cx49_ => ?_) (fun cx49_ => ?_)
            · have cx49_ : vx9_ = 0 := of_decide_eq_true cx49_
              have ht_ : tb_ = false := by cases tb_; rfl; (rw [if_pos rfl] at t30_; omega)
              refine sm_T_go 1 (c1 := (115, [some (.inr (.inr (some (7, 0)))), some (.inl m_), some (.inl i_), some (.inl vx9_)], [.inr (.inr (some (7, 0)))], Sx44_)) rfl ?_
              refine sm_T_calx (d1 := 3) (Q1 := vq_145 b_ n_ md_ (p_pm b_ n_ md_ A_ M_ K_ f_) R_ o2_ (p_ti md_ tb_ (r9_.2.1 :: g1_) (r9_.2.2 ++ c1_)).1 (p_ti md_ tb_ (r9_.2.1 :: g1_) (r9_.2.2 ++ c1_)).2 r9_.1 Sx44_) (Q2 := vx_145 b_ n_ md_ (p_pm b_ n_ md_ A_ M_ K_ f_) R_ o2_ (p_ti md_ tb_ (r9_.2.1 :: g1_) (r9_.2.2 ++ c1_)).1 (p_ti md_ tb_ (r9_.2.1 :: g1_) (r9_.2.2 ++ c1_)).2 r9_.1 Sx44_) rfl rfl (by decide) (vc_145 b_ n_ md_ (p_pm b_ n_ md_ A_ M_ K_ f_) R_ o2_ (p_ti md_ tb_ (r9_.2.1 :: g1_) (r9_.2.2 ++ c1_)).1 (p_ti md_ tb_ (r9_.2.1 :: g1_) (r9_.2.2 ++ c1_)).2 r9_.1 Sx44_ hIx45_ (by rw [ht_]; first | exact x111_ | exact x99_) (by first | exact c111_ | exact c9_) (by exact hpr_) (by exact hs9_.1) (by exact hs9_.2)) rfl (fun Sx50_ px53_ => ?_) (fun u_ Sx50_ px53_ => ?_)
              · obtain ⟨hIx51_, hFx52_, px53_⟩ := px53_
                refine Or.inr ⟨_, rfl, hIx51_, ai_fr_tr hFx48_ (fr_le hFx52_ rfl), ?_⟩
                exact px53_
              obtain ⟨vx55_, rfl, hIx51_, hFx52_, px53_⟩ := px53_
              have hFx54_ : ai_fr (sx_W vw_134) S0_ Sx50_ := ai_fr_tr hFx48_ (fr_le hFx52_ rfl)
              have e115_ := px53_
              refine sm_T_go 1 (c1 := (119, [some (.inr (.inr (some (7, 0)))), some (.inl vx55_), some (.inl i_), some (.inl vx9_)], [], Sx50_)) rfl ?_
              refine sm_T_inc (a := 2) (z := 1) (v := i_) (w := i_ + 1) rfl rfl (by omega) (by omega) (by omega) ?_
              refine sm_T_go 1 (c1 := (19, [some (.inr (.inr (some (7, 0)))), some (.inl vx55_), some (.inl (i_ + 1)), some (.inl vx9_)], [], Sx50_)) rfl ?_
              refine sm_T_wk [some (.inr (.inr (some (7, 0)))), some (.inl vx55_), some (.inl (i_ + 1)), none] (by exact ⟨rfl, rfl, rfl, trivial⟩) ?_
              refine ih_ vx55_ (i_ + 1) Sx50_ hIx51_ hFx54_ ⟨?_, ?_, trivial⟩ ?_
              · rcases e115_ with ⟨z1_, o3_, g3_, c3_, q3_, z2_, z3_, z4_, z5_, z6_⟩ | ⟨z1_, g3_, c3_, q3_, z2_, z3_, z4_, z5_, z6_, z7_⟩
                · have st3_ := z2_.2.2.2.2.2.1
                  have := hlt9_.1
                  omega
                · have st3_ := z2_.2.2.2.2.2.1
                  have := hlt9_.1
                  omega
              · have := hlt9_.1
                rcases e115_ with ⟨z1_, o3_, g3_, c3_, q3_, z2_, z3_, z4_, z5_, z6_⟩ | ⟨z1_, g3_, c3_, q3_, z2_, z3_, z4_, z5_, z6_, z7_⟩
                · left; exact ⟨z1_, o3_, g3_, c3_, q3_, z2_, z3_, z4_, z5_, by omega⟩
                · right; exact ⟨z1_, g3_, c3_, q3_, z2_, z3_, z4_, z5_, by omega, z7_⟩
              · (refine ms_lt ?_ ?_ hm_); (have := hlt9_.1; rcases e115_ with ⟨z1_, o3_, g3_, c3_, q3_, z2_, z3_, z4_, z5_, z6_⟩ | ⟨z1_, g3_, c3_, q3_, z2_, z3_, z4_, z5_, z6_, z7_⟩ <;> (have st3_ := z2_.2.2.2.2.2.1; omega)); (rcases e115_ with ⟨z1_, o3_, g3_, c3_, q3_, z2_, z3_, z4_, z5_, z6_⟩ | ⟨z1_, g3_, c3_, q3_, z2_, z3_, z4_, z5_, z6_, z7_⟩ <;> (have st3_ := z2_.2.2.2.2.2.1; have hp3_ := z2_.2.2.2.1; omega))
            · have cx49_ : ¬ (vx9_ = 0) := of_decide_eq_false cx49_
              have ht_ : tb_ = true := by cases tb_; (rw [if_neg (by decide)] at t30_; omega); rfl
              refine sm_T_go 1 (c1 := (111, [some (.inr (.inr (some (7, 0)))), some (.inl m_), some (.inl i_), some (.inl vx9_)], [.inr (.inr (some (7, 0)))], Sx44_)) rfl ?_
              refine sm_T_cal (d1 := 1) (Q1 := vq_139 md_ o2_ g1_ (r9_.2.2 ++ c1_) r9_.2.1 Sx44_) rfl rfl (by decide) (vc_139 md_ o2_ g1_ (r9_.2.2 ++ c1_) r9_.2.1 Sx44_ hIx45_ (by exact x99_.1) (by (rw [List.length_append]; have := hlt9_.2.2.2.2; have := hlt9_.2.1; omega))) (fun u_ Sx56_ px59_ => ?_)
              obtain ⟨rfl, hIx57_, hFx58_, px59_⟩ := px59_
              have hFx60_ : ai_fr (sx_W vw_134) S0_ Sx56_ := ai_fr_tr hFx48_ (fr_le hFx58_ rfl)
              have x111_ : xr md_ o2_ _ _ Sx56_ := ⟨px59_, (hFx58_.1 7 0 17 rfl).trans x99_.2⟩
              have c111_ := ct_fr c9_ hFx58_ rfl rfl rfl rfl rfl rfl rfl
              refine sm_T_go 1 (c1 := (115, [some (.inr (.inr (some (7, 0)))), some (.inl m_), some (.inl i_), some (.inl vx9_)], [.inr (.inr (some (7, 0)))], Sx56_)) rfl ?_
              refine sm_T_calx (d1 := 3) (Q1 := vq_145 b_ n_ md_ (p_pm b_ n_ md_ A_ M_ K_ f_) R_ o2_ (p_ti md_ tb_ (r9_.2.1 :: g1_) (r9_.2.2 ++ c1_)).1 (p_ti md_ tb_ (r9_.2.1 :: g1_) (r9_.2.2 ++ c1_)).2 r9_.1 Sx56_) (Q2 := vx_145 b_ n_ md_ (p_pm b_ n_ md_ A_ M_ K_ f_) R_ o2_ (p_ti md_ tb_ (r9_.2.1 :: g1_) (r9_.2.2 ++ c1_)).1 (p_ti md_ tb_ (r9_.2.1 :: g1_) (r9_.2.2 ++ c1_)).2 r9_.1 Sx56_) rfl rfl (by decide) (vc_145 b_ n_ md_ (p_pm b_ n_ md_ A_ M_ K_ f_) R_ o2_ (p_ti md_ tb_ (r9_.2.1 :: g1_) (r9_.2.2 ++ c1_)).1 (p_ti md_ tb_ (r9_.2.1 :: g1_) (r9_.2.2 ++ c1_)).2 r9_.1 Sx56_ hIx57_ (by rw [ht_]; first | exact x111_ | exact x99_) (by first | exact c111_ | exact c9_) (by exact hpr_) (by exact hs9_.1) (by exact hs9_.2)) rfl (fun Sx61_ px64_ => ?_) (fun u_ Sx61_ px64_ => ?_)
              · obtain ⟨hIx62_, hFx63_, px64_⟩ := px64_
                refine Or.inr ⟨_, rfl, hIx62_, ai_fr_tr hFx60_ (fr_le hFx63_ rfl), ?_⟩
                exact px64_
              obtain ⟨vx66_, rfl, hIx62_, hFx63_, px64_⟩ := px64_
              have hFx65_ : ai_fr (sx_W vw_134) S0_ Sx61_ := ai_fr_tr hFx60_ (fr_le hFx63_ rfl)
              have e115_ := px64_
              refine sm_T_go 1 (c1 := (119, [some (.inr (.inr (some (7, 0)))), some (.inl vx66_), some (.inl i_), some (.inl vx9_)], [], Sx61_)) rfl ?_
              refine sm_T_inc (a := 2) (z := 1) (v := i_) (w := i_ + 1) rfl rfl (by omega) (by omega) (by omega) ?_
              refine sm_T_go 1 (c1 := (19, [some (.inr (.inr (some (7, 0)))), some (.inl vx66_), some (.inl (i_ + 1)), some (.inl vx9_)], [], Sx61_)) rfl ?_
              refine sm_T_wk [some (.inr (.inr (some (7, 0)))), some (.inl vx66_), some (.inl (i_ + 1)), none] (by exact ⟨rfl, rfl, rfl, trivial⟩) ?_
              refine ih_ vx66_ (i_ + 1) Sx61_ hIx62_ hFx65_ ⟨?_, ?_, trivial⟩ ?_
              · rcases e115_ with ⟨z1_, o3_, g3_, c3_, q3_, z2_, z3_, z4_, z5_, z6_⟩ | ⟨z1_, g3_, c3_, q3_, z2_, z3_, z4_, z5_, z6_, z7_⟩
                · have st3_ := z2_.2.2.2.2.2.1
                  have := hlt9_.1
                  omega
                · have st3_ := z2_.2.2.2.2.2.1
                  have := hlt9_.1
                  omega
              · have := hlt9_.1
                rcases e115_ with ⟨z1_, o3_, g3_, c3_, q3_, z2_, z3_, z4_, z5_, z6_⟩ | ⟨z1_, g3_, c3_, q3_, z2_, z3_, z4_, z5_, z6_, z7_⟩
                · left; exact ⟨z1_, o3_, g3_, c3_, q3_, z2_, z3_, z4_, z5_, by omega⟩
                · right; exact ⟨z1_, g3_, c3_, q3_, z2_, z3_, z4_, z5_, by omega, z7_⟩
              · (refine ms_lt ?_ ?_ hm_); (have := hlt9_.1; rcases e115_ with ⟨z1_, o3_, g3_, c3_, q3_, z2_, z3_, z4_, z5_, z6_⟩ | ⟨z1_, g3_, c3_, q3_, z2_, z3_, z4_, z5_, z6_, z7_⟩ <;> (have st3_ := z2_.2.2.2.2.2.1; omega)); (rcases e115_ with ⟨z1_, o3_, g3_, c3_, q3_, z2_, z3_, z4_, z5_, z6_⟩ | ⟨z1_, g3_, c3_, q3_, z2_, z3_, z4_, z5_, z6_, z7_⟩ <;> (have st3_ := z2_.2.2.2.2.2.1; have hp3_ := z2_.2.2.2.1; omega))
        | some jx11_ =>
          refine sm_T_gr rfl rfl qx10_ ?_
          have hmd_ : md_ = true := xs_s x30_.1 qx10_
          have bx67_ : (-128) ≤ Sx4_.1 10 0 2 ∧ Sx4_.1 10 0 2 ≤ 257 := hIx5_.1 10 0 2 rfl
          refine sm_T_go 5 (c1 := (67, [some (.inr (.inr (some (7, 0)))), some (.inl m_), some (.inl i_), some (.inl vx9_)], [.inl 1, .inl (Sx4_.1 10 0 2)], Sx4_)) rfl ?_
          refine sm_T_br (a := 0) (z := 21) rfl (fun cx68_ => ?_) (fun cx68_ => ?_)
          · have cx68_ : (Sx4_.1 10 0 2) = 1 := of_decide_eq_true cx68_
            refine sm_T_go 1 (c1 := (89, [some (.inr (.inr (some (7, 0)))), some (.inl m_), some (.inl i_), some (.inl vx9_)], [.inr (.inr (some (7, 0)))], Sx4_)) rfl ?_
            refine sm_T_gr rfl rfl qx10_ ?_
            refine sm_T_go 2 (c1 := (103, [some (.inr (.inr (some (7, 0)))), some (.inl m_), some (.inl i_), some (.inl vx9_)], [.inr (.inr (some (7, 0)))], Sx4_)) rfl ?_
            refine sm_T_calx (d1 := 2) (Q1 := vq_141 o2_ g1_ c1_ b_ n_ q2_ K_ f_ Sx4_) (Q2 := vx_141 o2_ g1_ c1_ b_ n_ q2_ K_ f_ Sx4_) rfl rfl (by decide) (vc_141 o2_ g1_ c1_ b_ n_ q2_ K_ f_ Sx4_ hIx5_ (by rw [hmd_] at x30_; exact x30_) (by exact c30_) (by omega) (by exact (hnr2_ hmd_).1) (by exact (hnr2_ hmd_).2) (by omega)) rfl (fun Sx69_ px72_ => ?_) (fun u_ Sx69_ px72_ => ?_)
            · obtain ⟨hIx70_, hFx71_, px72_⟩ := px72_
              refine Or.inr ⟨_, rfl, hIx70_, ai_fr_tr hFx8_ (fr_le hFx71_ rfl), ?_⟩
              obtain ⟨e9_, w1_, w2_⟩ := px72_
              refine ⟨e9_, p_er R30_ ?_, w2_⟩
              rw [pA_p k33_ k40_]; unfold p_pm; rw [if_pos hmd_, w1_]; rfl
            obtain ⟨rfl, hIx70_, hFx71_, px72_⟩ := px72_
            have hFx73_ : ai_fr (sx_W vw_134) S0_ Sx69_ := ai_fr_tr hFx8_ (fr_le hFx71_ rfl)
            obtain ⟨r9_, pr9_, x9_, c9_⟩ := px72_
            have pq9_ : (p_pm b_ n_ md_ A_ M_ K_ f_) q2_ = .inr r9_ := by unfold p_pm; rw [if_pos hmd_]; exact pr9_
            have hs9_ := p_go hn1_ hpr_ ok30_ R30_ (by rw [pA_p k33_ k40_, pq9_]; rfl)
            have hlt9_ := hpr_ q2_ r9_ ok30_.2.2.1 ok30_.2.2.2.1 pq9_
            have x99_ : xr md_ o2_ (r9_.2.1 :: g1_) (r9_.2.2 ++ c1_) Sx69_ := by rw [hmd_]; exact x9_
            refine sm_T_go 1 (c1 := (107, [some (.inr (.inr (some (7, 0)))), some (.inl m_), some (.inl i_), some (.inl vx9_)], [.inl vx9_], Sx69_)) rfl ?_
            refine sm_T_b0 (a := 0) (z := 7) rfl (fun cx74_ => ?_) (fun cx74_ => ?_)
            · have cx74_ : vx9_ = 0 := of_decide_eq_true cx74_
              have ht_ : tb_ = false := by cases tb_; rfl; (rw [if_pos rfl] at t30_; omega)
              refine sm_T_go 1 (c1 := (115, [some (.inr (.inr (some (7, 0)))), some (.inl m_), some (.inl i_), some (.inl vx9_)], [.inr (.inr (some (7, 0)))], Sx69_)) rfl ?_
              refine sm_T_calx (d1 := 3) (Q1 := vq_145 b_ n_ md_ (p_pm b_ n_ md_ A_ M_ K_ f_) R_ o2_ (p_ti md_ tb_ (r9_.2.1 :: g1_) (r9_.2.2 ++ c1_)).1 (p_ti md_ tb_ (r9_.2.1 :: g1_) (r9_.2.2 ++ c1_)).2 r9_.1 Sx69_) (Q2 := vx_145 b_ n_ md_ (p_pm b_ n_ md_ A_ M_ K_ f_) R_ o2_ (p_ti md_ tb_ (r9_.2.1 :: g1_) (r9_.2.2 ++ c1_)).1 (p_ti md_ tb_ (r9_.2.1 :: g1_) (r9_.2.2 ++ c1_)).2 r9_.1 Sx69_) rfl rfl (by decide) (vc_145 b_ n_ md_ (p_pm b_ n_ md_ A_ M_ K_ f_) R_ o2_ (p_ti md_ tb_ (r9_.2.1 :: g1_) (r9_.2.2 ++ c1_)).1 (p_ti md_ tb_ (r9_.2.1 :: g1_) (r9_.2.2 ++ c1_)).2 r9_.1 Sx69_ hIx70_ (by rw [ht_]; first | exact x111_ | exact x99_) (by first | exact c111_ | exact c9_) (by exact hpr_) (by exact hs9_.1) (by exact hs9_.2)) rfl (fun Sx75_ px78_ => ?_) (fun u_ Sx75_ px78_ => ?_)
              · obtain ⟨hIx76_, hFx77_, px78_⟩ := px78_
                refine Or.inr ⟨_, rfl, hIx76_, ai_fr_tr hFx73_ (fr_le hFx77_ rfl), ?_⟩
                exact px78_
              obtain ⟨vx80_, rfl, hIx76_, hFx77_, px78_⟩ := px78_
              have hFx79_ : ai_fr (sx_W vw_134) S0_ Sx75_ := ai_fr_tr hFx73_ (fr_le hFx77_ rfl)
              have e115_ := px78_
              refine sm_T_go 1 (c1 := (119, [some (.inr (.inr (some (7, 0)))), some (.inl vx80_), some (.inl i_), some (.inl vx9_)], [], Sx75_)) rfl ?_
              refine sm_T_inc (a := 2) (z := 1) (v := i_) (w := i_ + 1) rfl rfl (by omega) (by omega) (by omega) ?_
              refine sm_T_go 1 (c1 := (19, [some (.inr (.inr (some (7, 0)))), some (.inl vx80_), some (.inl (i_ + 1)), some (.inl vx9_)], [], Sx75_)) rfl ?_
              refine sm_T_wk [some (.inr (.inr (some (7, 0)))), some (.inl vx80_), some (.inl (i_ + 1)), none] (by exact ⟨rfl, rfl, rfl, trivial⟩) ?_
              refine ih_ vx80_ (i_ + 1) Sx75_ hIx76_ hFx79_ ⟨?_, ?_, trivial⟩ ?_
              · rcases e115_ with ⟨z1_, o3_, g3_, c3_, q3_, z2_, z3_, z4_, z5_, z6_⟩ | ⟨z1_, g3_, c3_, q3_, z2_, z3_, z4_, z5_, z6_, z7_⟩
                · have st3_ := z2_.2.2.2.2.2.1
                  have := hlt9_.1
                  omega
                · have st3_ := z2_.2.2.2.2.2.1
                  have := hlt9_.1
                  omega
              · have := hlt9_.1
                rcases e115_ with ⟨z1_, o3_, g3_, c3_, q3_, z2_, z3_, z4_, z5_, z6_⟩ | ⟨z1_, g3_, c3_, q3_, z2_, z3_, z4_, z5_, z6_, z7_⟩
                · left; exact ⟨z1_, o3_, g3_, c3_, q3_, z2_, z3_, z4_, z5_, by omega⟩
                · right; exact ⟨z1_, g3_, c3_, q3_, z2_, z3_, z4_, z5_, by omega, z7_⟩
              · (refine ms_lt ?_ ?_ hm_); (have := hlt9_.1; rcases e115_ with ⟨z1_, o3_, g3_, c3_, q3_, z2_, z3_, z4_, z5_, z6_⟩ | ⟨z1_, g3_, c3_, q3_, z2_, z3_, z4_, z5_, z6_, z7_⟩ <;> (have st3_ := z2_.2.2.2.2.2.1; omega)); (rcases e115_ with ⟨z1_, o3_, g3_, c3_, q3_, z2_, z3_, z4_, z5_, z6_⟩ | ⟨z1_, g3_, c3_, q3_, z2_, z3_, z4_, z5_, z6_, z7_⟩ <;> (have st3_ := z2_.2.2.2.2.2.1; have hp3_ := z2_.2.2.2.1; omega))
            · have cx74_ : ¬ (vx9_ = 0) := of_decide_eq_false cx74_
              have ht_ : tb_ = true := by cases tb_; (rw [if_neg (by decide)] at t30_; omega); rfl
              refine sm_T_go 1 (c1 := (111, [some (.inr (.inr (some (7, 0)))), some (.inl m_), some (.inl i_), some (.inl vx9_)], [.inr (.inr (some (7, 0)))], Sx69_)) rfl ?_
              refine sm_T_cal (d1 := 1) (Q1 := vq_139 md_ o2_ g1_ (r9_.2.2 ++ c1_) r9_.2.1 Sx69_) rfl rfl (by decide) (vc_139 md_ o2_ g1_ (r9_.2.2 ++ c1_) r9_.2.1 Sx69_ hIx70_ (by exact x99_.1) (by (rw [List.length_append]; have := hlt9_.2.2.2.2; have := hlt9_.2.1; omega))) (fun u_ Sx81_ px84_ => ?_)
              obtain ⟨rfl, hIx82_, hFx83_, px84_⟩ := px84_
              have hFx85_ : ai_fr (sx_W vw_134) S0_ Sx81_ := ai_fr_tr hFx73_ (fr_le hFx83_ rfl)
              have x111_ : xr md_ o2_ _ _ Sx81_ := ⟨px84_, (hFx83_.1 7 0 17 rfl).trans x99_.2⟩
              have c111_ := ct_fr c9_ hFx83_ rfl rfl rfl rfl rfl rfl rfl
              refine sm_T_go 1 (c1 := (115, [some (.inr (.inr (some (7, 0)))), some (.inl m_), some (.inl i_), some (.inl vx9_)], [.inr (.inr (some (7, 0)))], Sx81_)) rfl ?_
              refine sm_T_calx (d1 := 3) (Q1 := vq_145 b_ n_ md_ (p_pm b_ n_ md_ A_ M_ K_ f_) R_ o2_ (p_ti md_ tb_ (r9_.2.1 :: g1_) (r9_.2.2 ++ c1_)).1 (p_ti md_ tb_ (r9_.2.1 :: g1_) (r9_.2.2 ++ c1_)).2 r9_.1 Sx81_) (Q2 := vx_145 b_ n_ md_ (p_pm b_ n_ md_ A_ M_ K_ f_) R_ o2_ (p_ti md_ tb_ (r9_.2.1 :: g1_) (r9_.2.2 ++ c1_)).1 (p_ti md_ tb_ (r9_.2.1 :: g1_) (r9_.2.2 ++ c1_)).2 r9_.1 Sx81_) rfl rfl (by decide) (vc_145 b_ n_ md_ (p_pm b_ n_ md_ A_ M_ K_ f_) R_ o2_ (p_ti md_ tb_ (r9_.2.1 :: g1_) (r9_.2.2 ++ c1_)).1 (p_ti md_ tb_ (r9_.2.1 :: g1_) (r9_.2.2 ++ c1_)).2 r9_.1 Sx81_ hIx82_ (by rw [ht_]; first | exact x111_ | exact x99_) (by first | exact c111_ | exact c9_) (by exact hpr_) (by exact hs9_.1) (by exact hs9_.2)) rfl (fun Sx86_ px89_ => ?_) (fun u_ Sx86_ px89_ => ?_)
              · obtain ⟨hIx87_, hFx88_, px89_⟩ := px89_
                refine Or.inr ⟨_, rfl, hIx87_, ai_fr_tr hFx85_ (fr_le hFx88_ rfl), ?_⟩
                exact px89_
              obtain ⟨vx91_, rfl, hIx87_, hFx88_, px89_⟩ := px89_
              have hFx90_ : ai_fr (sx_W vw_134) S0_ Sx86_ := ai_fr_tr hFx85_ (fr_le hFx88_ rfl)
              have e115_ := px89_
              refine sm_T_go 1 (c1 := (119, [some (.inr (.inr (some (7, 0)))), some (.inl vx91_), some (.inl i_), some (.inl vx9_)], [], Sx86_)) rfl ?_
              refine sm_T_inc (a := 2) (z := 1) (v := i_) (w := i_ + 1) rfl rfl (by omega) (by omega) (by omega) ?_
              refine sm_T_go 1 (c1 := (19, [some (.inr (.inr (some (7, 0)))), some (.inl vx91_), some (.inl (i_ + 1)), some (.inl vx9_)], [], Sx86_)) rfl ?_
              refine sm_T_wk [some (.inr (.inr (some (7, 0)))), some (.inl vx91_), some (.inl (i_ + 1)), none] (by exact ⟨rfl, rfl, rfl, trivial⟩) ?_
              refine ih_ vx91_ (i_ + 1) Sx86_ hIx87_ hFx90_ ⟨?_, ?_, trivial⟩ ?_
              · rcases e115_ with ⟨z1_, o3_, g3_, c3_, q3_, z2_, z3_, z4_, z5_, z6_⟩ | ⟨z1_, g3_, c3_, q3_, z2_, z3_, z4_, z5_, z6_, z7_⟩
                · have st3_ := z2_.2.2.2.2.2.1
                  have := hlt9_.1
                  omega
                · have st3_ := z2_.2.2.2.2.2.1
                  have := hlt9_.1
                  omega
              · have := hlt9_.1
                rcases e115_ with ⟨z1_, o3_, g3_, c3_, q3_, z2_, z3_, z4_, z5_, z6_⟩ | ⟨z1_, g3_, c3_, q3_, z2_, z3_, z4_, z5_, z6_, z7_⟩
                · left; exact ⟨z1_, o3_, g3_, c3_, q3_, z2_, z3_, z4_, z5_, by omega⟩
                · right; exact ⟨z1_, g3_, c3_, q3_, z2_, z3_, z4_, z5_, by omega, z7_⟩
              · (refine ms_lt ?_ ?_ hm_); (have := hlt9_.1; rcases e115_ with ⟨z1_, o3_, g3_, c3_, q3_, z2_, z3_, z4_, z5_, z6_⟩ | ⟨z1_, g3_, c3_, q3_, z2_, z3_, z4_, z5_, z6_, z7_⟩ <;> (have st3_ := z2_.2.2.2.2.2.1; omega)); (rcases e115_ with ⟨z1_, o3_, g3_, c3_, q3_, z2_, z3_, z4_, z5_, z6_⟩ | ⟨z1_, g3_, c3_, q3_, z2_, z3_, z4_, z5_, z6_, z7_⟩ <;> (have st3_ := z2_.2.2.2.2.2.1; have hp3_ := z2_.2.2.2.1; omega))
          · have cx68_ : ¬ ((Sx4_.1 10 0 2) = 1) := of_decide_eq_false cx68_
            have bx92_ : 0 ≤ Sx4_.1 10 0 3 ∧ Sx4_.1 10 0 3 ≤ 1280 := hIx5_.1 10 0 3 rfl
            refine sm_T_go 6 (c1 := (82, [some (.inr (.inr (some (7, 0)))), some (.inl m_), some (.inl i_), some (.inl vx9_)], [.inl (Sx4_.1 10 0 3), .inl 2, .inr (.inr (some (10, 0)))], Sx4_)) rfl ?_
            refine sm_T_calx (d1 := 0) (Q1 := vq_187 2 (Sx4_.1 10 0 3) Sx4_) (Q2 := vx_187 2 (Sx4_.1 10 0 3) Sx4_) rfl rfl (by decide) (vc_187 2 (Sx4_.1 10 0 3) Sx4_ hIx5_ (by decide) (by omega)) rfl (fun Sx93_ px96_ => ?_) (fun u_ Sx93_ px96_ => ?_)
            · obtain ⟨hIx94_, hFx95_, px96_⟩ := px96_
              refine Or.inr ⟨_, rfl, hIx94_, ai_fr_tr hFx8_ (fr_le hFx95_ rfl), ?_⟩
              refine ⟨(2, q2_), p_er R30_ ?_, px96_.1, px96_.2.trans st30_⟩
              rw [pA_p k33_ k40_]; unfold p_pm; first | (rw [if_neg (by rw [hmd_]; decide)]; unfold p_pd; rw [if_neg (by omega), if_neg (by omega)]; rfl) | (rw [if_pos hmd_]; unfold p_pl; rw [if_neg (by omega)]; rfl)
            · exact (px96_.2.2.2).elim
set_option maxHeartbeats 1000000 in
theorem vc_134 {sc_ : Nat × (Nat → Int)} (b_ : Nat → Int) (n_ : Nat) (md_ : Bool) (A_ : pA) (M_ : Nat) (K_ : Nat) (f_ : Nat → Nat) (R_ : pE pR) (c_ : List Int) (p_ : Nat) (S0_ : sm_S) (hI_ : gi S0_) (hc_ : ct b_ n_ p_ S0_) (hlb_ : S0_.2.1 7 0 11 = none ↔ md_ = false) (hcd_ : md_ = false → S0_.1 7 0 2 = (c_.length : Int) ∧ stk (S0_.2.2.1 74 0) c_) (hcl_ : c_.length ≤ 3 * p_) (her_ : md_ = false → er b_ n_ A_ M_ S0_) (hnr_ : md_ = true → nmr b_ n_ 1 K_ f_ S0_ ∧ K_ ≤ 3) (hR_ : p_xx b_ n_ md_ (p_pm b_ n_ md_ A_ M_ K_ f_) (0, false, p_, [], [], c_) R_) : sm_T (mt_P sc_) 4 134 (0, [some (.inr (.inr (some (7, 0)))), none, none, none], [], S0_) (fun r_ => (∃ u_ S1_, r_ = (.inl u_, S1_, 0) ∧ vq_134 b_ n_ md_ A_ M_ K_ f_ R_ c_ p_ S0_ u_ S1_) ∨ ∃ S1_, r_ = (.inr 2, S1_, 1) ∧ vx_134 b_ n_ md_ A_ M_ K_ f_ R_ c_ p_ S0_ S1_) := by
  have hF_ : ai_fr (sx_W vw_134) S0_ S0_ := ai_fr_rf
  have hIx1_ : gi (sm_pI S0_ 7 0 14 0) := gi_pI hI_ (show 0 ≤ 0 ∧ 0 ≤ 488 from ⟨by omega, by omega⟩)
  have hFx2_ : ai_fr (sx_W vw_134) S0_ (sm_pI S0_ 7 0 14 0) := ai_fr_tr hF_ (ai_fr_pI rfl)
  have hIx3_ : gi (sm_pI (sm_pI S0_ 7 0 14 0) 7 0 16 0) := gi_pI hIx1_ (show 0 ≤ 0 ∧ 0 ≤ 488 from ⟨by omega, by omega⟩)
  have hFx4_ : ai_fr (sx_W vw_134) S0_ (sm_pI (sm_pI S0_ 7 0 14 0) 7 0 16 0) := ai_fr_tr hFx2_ (ai_fr_pI rfl)
  have hIx5_ : gi (sm_pI (sm_pI (sm_pI S0_ 7 0 14 0) 7 0 16 0) 7 0 17 0) := gi_pI hIx3_ (show 0 ≤ 0 ∧ 0 ≤ 60 from ⟨by omega, by omega⟩)
  have hFx6_ : ai_fr (sx_W vw_134) S0_ (sm_pI (sm_pI (sm_pI S0_ 7 0 14 0) 7 0 16 0) 7 0 17 0) := ai_fr_tr hFx4_ (ai_fr_pI rfl)
  refine sm_T_go 13 (c1 := (19, [some (.inr (.inr (some (7, 0)))), some (.inl 1), some (.inl 0), none], [], sm_pI (sm_pI (sm_pI S0_ 7 0 14 0) 7 0 16 0) 7 0 17 0)) rfl ?_
  refine (vl_134 b_ n_ md_ A_ M_ K_ f_ R_ c_ p_ S0_ hc_ hlb_ hcd_ hcl_ her_ hnr_ hR_ _) 1 0 (sm_pI (sm_pI (sm_pI S0_ 7 0 14 0) 7 0 16 0) 7 0 17 0) hIx5_ hFx6_ ⟨?_, ?_, trivial⟩ (Nat.lt_succ_self _)
  · have cst_ : 0 ≤ S0_.1 10 0 3 ∧ S0_.1 10 0 3 ≤ 1280 := hI_.1 10 0 3 rfl
    show 0 ≤ (0 : Int) ∧ (0 : Int) ≤ S0_.1 10 0 3
    omega
  · left
    exact ⟨rfl, [], [], c_, p_, hc_, ⟨⟨rfl, rfl, trivial, trivial, trivial, hlb_, hcd_⟩, rfl⟩, ⟨Nat.zero_le _, ⟨trivial, Nat.zero_le _, rfl, fun x_ hx_ => by cases hx_⟩, hc_.2.2.2.1, hc_.2.2.2.2.1, by show c_.length + 0 + 0 ≤ 3 * p_; exact hcl_⟩, hR_, Nat.le_refl _⟩
end
/-! 99.x8 -/
section
/-! what a module says; written by wip/p55/gen/vg -/

/-! what a_ module says -/
theorem pb_r {α β : Type} {x_ : pE α} {f_ : α → pE β} {a_ : α} (h_ : x_ = .inr a_) : pb x_ f_ = f_ a_ := by rw [h_]; rfl
theorem pb_l {α β : Type} {x_ : pE α} {f_ : α → pE β} {e_ : Int × Nat} (h_ : x_ = .inl e_) : pb x_ f_ = .inl e_ := by rw [h_]; rfl
theorem stk_ex (f_ : Nat → Int) : ∀ k_ : Nat, ∃ l_ : List Int, l_.length = k_ ∧ stk f_ l_
  | 0 => ⟨[], rfl, trivial⟩
  | k_ + 1 => by
    obtain ⟨l_, h1_, h2_⟩ := stk_ex f_ k_
    exact ⟨f_ k_ :: l_, by rw [List.length_cons, h1_], by rw [h1_], h2_⟩
theorem stk_e2 (f_ g_ : Nat → Int) (hg_ : ∀ k_, 0 ≤ g_ k_) : ∀ k_ : Nat, ∃ o_ : List (Int × Nat), o_.length = k_ ∧ stk f_ (o_.map fun x_ => x_.1) ∧ stk g_ (o_.map fun x_ => (x_.2 : Int))
  | 0 => ⟨[], rfl, trivial, trivial⟩
  | k_ + 1 => by
    obtain ⟨o_, h1_, h2_, h3_⟩ := stk_e2 f_ g_ hg_ k_
    refine ⟨(f_ k_, (g_ k_).toNat) :: o_, by rw [List.length_cons, h1_], ⟨?_, h2_⟩, ⟨?_, h3_⟩⟩
    · show f_ (o_.map fun x_ => x_.1).length = f_ k_
      rw [List.length_map, h1_]
    · show g_ (o_.map fun x_ => (x_.2 : Int)).length = ((g_ k_).toNat : Int)
      rw [List.length_map, h1_]
      have := hg_ k_
      omega
theorem xs_ex {S_ : sm_S} {c_ : List Int} (hI_ : gi S_) (hl_ : S_.2.1 7 0 11 = none) (h1_ : S_.1 7 0 2 = (c_.length : Int)) (h2_ : stk (S_.2.2.1 74 0) c_) : ∃ o_ g_, xs false o_ g_ c_ S_ := by
  have b1_ : 0 ≤ S_.1 7 0 14 ∧ S_.1 7 0 14 ≤ 488 := hI_.1 7 0 14 rfl
  have b2_ : 0 ≤ S_.1 7 0 16 ∧ S_.1 7 0 16 ≤ 488 := hI_.1 7 0 16 rfl
  obtain ⟨g_, g1_, g2_⟩ := stk_ex (S_.2.2.1 84 0) (S_.1 7 0 16).toNat
  obtain ⟨o_, o1_, o2_, o3_⟩ := stk_e2 (S_.2.2.1 82 0) (S_.2.2.1 83 0) (fun k_ => (show 0 ≤ S_.2.2.1 83 0 k_ ∧ S_.2.2.1 83 0 k_ ≤ 1280 from hI_.2 83 0 k_).1) (S_.1 7 0 14).toNat
  refine ⟨o_, g_, by omega, by omega, o2_, o3_, g2_, ⟨fun _ => rfl, fun _ => hl_⟩, fun _ => ⟨h1_, h2_⟩⟩
/-! widths, new_ names, telling -/
def p_wi (b_ : Nat → Int) (n_ p_ : Nat) : pE (Nat × Int) := if lx_kd b_ n_ p_ = 58 then pb (p_ad b_ n_ p_) fun q_ => pb (p_nu b_ n_ 1 8 q_) fun w_ => pb (p_ad b_ n_ q_) fun r_ => .inr (r_, w_) else .inr (p_, 1)
def a_te (A_ : pA) (M_ p_ : Nat) (so_ wd_ dt_ : Int) : pA := (fun m_ => if m_ = M_ then A_.1 M_ + 1 else A_.1 m_, fun i_ => if i_ = 40 * M_ + A_.1 M_ then p_ else A_.2.1 i_, fun i_ => if i_ = 40 * M_ + A_.1 M_ then so_ else A_.2.2.1 i_, fun i_ => if i_ = 40 * M_ + A_.1 M_ then wd_ else A_.2.2.2.1 i_, fun i_ => if i_ = 40 * M_ + A_.1 M_ then dt_ else A_.2.2.2.2 i_)
def a_dr (A_ : pA) (k_ : Nat) : pA := (A_.1, A_.2.1, fun i_ => if i_ = k_ then 4 else A_.2.2.1 i_, A_.2.2.2.1, A_.2.2.2.2)
def p_nw (b_ : Nat → Int) (n_ : Nat) (A_ : pA) (M_ p_ : Nat) : pE Nat := p_nn b_ n_ (A_.1 M_) (fun s_ => A_.2.1 (40 * M_ + s_)) 40 p_
abbrev pT : Type := pA × List Int × Nat
def p_xd (b_ : Nat → Int) (n_ : Nat) (A_ : pA) (M_ : Nat) (c_ : List Int) (p_ : Nat) : pE pR := p_ex b_ n_ false (p_pd b_ n_ A_ M_) c_ p_
def p_in (b_ : Nat → Int) (n_ : Nat) (A_ : pA) (M_ : Nat) (c_ : List Int) (p_ : Nat) : pE pT := pb (p_ad b_ n_ p_) fun q_ => pb (p_nw b_ n_ A_ M_ q_) fun r_ => pb (p_wi b_ n_ r_) fun u_ => pb (p_nd b_ n_ 59 u_.1) fun y_ => .inr (a_te A_ M_ q_ 0 u_.2 0, c_, y_)
def p_va (b_ : Nat → Int) (n_ : Nat) (A_ : pA) (M_ : Nat) (so_ : Int) (c_ : List Int) (p_ : Nat) : pE pT := pb (p_ad b_ n_ p_) fun q_ => pb (p_nw b_ n_ A_ M_ q_) fun r_ => pb (p_wi b_ n_ r_) fun u_ => pb (p_nd b_ n_ 61 u_.1) fun v_ => pb (p_xd b_ n_ A_ M_ c_ v_) fun x_ => if h_tp x_.2.1 = u_.2 then pb (p_nd b_ n_ 59 x_.1) fun y_ => .inr (a_te A_ M_ q_ so_ u_.2 0, cw 12 (A_.1 M_) 0 :: x_.2.2, y_) else .inl (13, u_.1)
def p_rb (b_ : Nat → Int) (n_ : Nat) (w_ : Int) (p_ : Nat) : pE (Nat × Int) := if lx_kd b_ n_ p_ = 61 then pb (p_ad b_ n_ p_) fun q_ => pb (p_nu b_ n_ 0 (2 ^ w_.toNat - 1) q_) fun x_ => pb (p_ad b_ n_ q_) fun r_ => .inr (r_, x_) else .inr (p_, 0)
def p_re (b_ : Nat → Int) (n_ : Nat) (A_ : pA) (M_ : Nat) (c_ : List Int) (p_ : Nat) : pE pT := pb (p_ad b_ n_ p_) fun q_ => pb (p_nw b_ n_ A_ M_ q_) fun r_ => pb (p_wi b_ n_ r_) fun u_ => pb (p_rb b_ n_ u_.2 u_.1) fun z_ => pb (p_nd b_ n_ 59 z_.1) fun y_ => .inr (a_te A_ M_ q_ 3 u_.2 z_.2, cw 13 (A_.1 M_) 0 :: c_, y_)
def p_ne (b_ : Nat → Int) (n_ : Nat) (A_ : pA) (M_ : Nat) (c_ : List Int) (p_ : Nat) : pE pT := if p_fn b_ n_ A_ M_ p_ = -1 ∨ A_.2.2.1 (40 * M_ + (p_fn b_ n_ A_ M_ p_).toNat) ≠ 3 then .inl (11, p_) else pb (p_ad b_ n_ p_) fun q_ => pb (p_nd b_ n_ 256 q_) fun r_ => pb (p_xd b_ n_ A_ M_ c_ r_) fun x_ => if h_tp x_.2.1 = A_.2.2.2.1 (40 * M_ + (p_fn b_ n_ A_ M_ p_).toNat) then pb (p_nd b_ n_ 59 x_.1) fun y_ => .inr (a_dr A_ (40 * M_ + (p_fn b_ n_ A_ M_ p_).toNat), cw 14 (p_fn b_ n_ A_ M_ p_) 0 :: x_.2.2, y_) else .inl (13, q_)
/-! the_ modules' names -/
def p_fm (b_ : Nat → Int) (n_ : Nat) (N_ : Nat → Nat) (M_ p_ : Nat) : Int := p_fd (fun m_ => nm_q b_ n_ (N_ m_) p_) M_
def p_ni (A_ : pA) (m_ k_ : Nat) : Int := p_fd (fun s_ => decide (k_ ≤ s_) && decide (A_.2.2.1 (40 * m_ + s_) = 0)) (A_.1 m_)
def p_ae (b_ : Nat → Int) (n_ pl_ : Nat) (t_ : Bool) (c_ : List Int) (p_ : Nat) : pE (List Int × Nat) := if lx_kd b_ n_ p_ = 41 ∧ t_ = true then .inl (14, pl_) else pb (p_nd b_ n_ 41 p_) fun q_ => .inr (c_, q_)
def p_a1 (A_ : pA) (m_ s_ : Nat) (i_ : Int) (l_ : List Int) : List Int := if i_ = -1 then l_ else cw 16 s_ i_ :: l_
def p_a2 (A_ : pA) (m_ : Nat) (i_ : Int) : Int := if i_ = -1 then -1 else p_ni A_ m_ (i_.toNat + 1)
def p_ar (b_ : Nat → Int) (n_ : Nat) (A_ : pA) (M_ m_ s_ pl_ : Nat) : Nat → Int → List Int → Nat → pE (List Int × Nat)
  | 0, _, _, _ => .inl (0, 0)
  | f_ + 1, i_, c_, p_ => pb (p_xd b_ n_ A_ M_ c_ p_) fun x_ => if i_ ≠ -1 ∧ h_tp x_.2.1 ≠ A_.2.2.2.1 (40 * m_ + i_.toNat) then .inl (13, p_) else if lx_kd b_ n_ x_.1 = 44 then (if p_a2 A_ m_ i_ = -1 then .inl (14, pl_) else pb (p_ad b_ n_ x_.1) fun q_ => p_ar b_ n_ A_ M_ m_ s_ pl_ f_ (p_a2 A_ m_ i_) (p_a1 A_ m_ s_ i_ x_.2.2) q_) else p_ae b_ n_ pl_ (decide (i_ = -1 ∨ p_a2 A_ m_ i_ ≠ -1)) (p_a1 A_ m_ s_ i_ x_.2.2) x_.1
def p_ua (b_ : Nat → Int) (n_ : Nat) (A_ : pA) (M_ m_ s_ pl_ : Nat) (c_ : List Int) (p_ : Nat) : pE (List Int × Nat) := if lx_kd b_ n_ p_ = 41 then p_ae b_ n_ pl_ (decide (p_ni A_ m_ 0 ≠ -1)) c_ p_ else p_ar b_ n_ A_ M_ m_ s_ pl_ (n_ + 1) (p_ni A_ m_ 0) c_ p_
def p_us (b_ : Nat → Int) (n_ : Nat) (A_ : pA) (N_ : Nat → Nat) (M_ : Nat) (c_ : List Int) (p_ : Nat) : pE pT := pb (p_ad b_ n_ p_) fun q_ => pb (p_nw b_ n_ A_ M_ q_) fun r_ => if lx_kd b_ n_ r_ = 1 then (if p_fm b_ n_ N_ M_ r_ = -1 then .inl (11, r_) else pb (p_ad b_ n_ r_) fun u_ => pb (p_nd b_ n_ 40 u_) fun v_ => pb (p_ua b_ n_ A_ M_ (p_fm b_ n_ N_ M_ r_).toNat (A_.1 M_) q_ (cw 15 (A_.1 M_) 0 :: c_) v_) fun x_ => pb (p_nd b_ n_ 59 x_.2) fun y_ => .inr (a_te A_ M_ q_ 5 0 (p_fm b_ n_ N_ M_ r_), cw 17 (A_.1 M_) (p_fm b_ n_ N_ M_ r_) :: x_.1, y_)) else .inl (2, r_)
/-! what the_ class holds of_ a_ design -/
def nr (b_ : Nat → Int) (n_ : Nat) (N_ : Nat → Nat) (M_ : Nat) (S_ : sm_S) : Prop := M_ ≤ 16 ∧ ∀ m_, m_ < M_ → S_.2.2.1 75 0 m_ = (16 * N_ m_ + lx_sz b_ n_ (N_ m_) : Nat) ∧ nmp b_ n_ (N_ m_)
def cr (c_ : List Int) (S_ : sm_S) : Prop := S_.2.1 7 0 11 = none ∧ S_.1 7 0 2 = (c_.length : Int) ∧ stk (S_.2.2.1 74 0) c_
def dr (b_ : Nat → Int) (n_ : Nat) (A_ : pA) (N_ : Nat → Nat) (M_ : Nat) (c_ : List Int) (S_ : sm_S) : Prop := er b_ n_ A_ M_ S_ ∧ nr b_ n_ N_ M_ S_ ∧ cr c_ S_
theorem nr_fr {w_ : sx_Wl} {S_ S'_ : sm_S} {b_ : Nat → Int} {n_ M_ : Nat} {N_ : Nat → Nat} (x_ : nr b_ n_ N_ M_ S_) (g_ : ai_fr (sx_W w_) S_ S'_) (h0_ : (sx_W w_).2.1 75 = false) : nr b_ n_ N_ M_ S'_ := by
  unfold nr at x_ ⊢
  rw [fr_arr g_ h0_]
  exact x_
theorem cr_fr {w_ : sx_Wl} {S_ S'_ : sm_S} {c_ : List Int} (x_ : cr c_ S_) (g_ : ai_fr (sx_W w_) S_ S'_) (h0_ : (sx_W w_).2.2 7 11 = false) (h1_ : (sx_W w_).1 7 2 = false) (h2_ : (sx_W w_).2.1 74 = false) : cr c_ S'_ := by
  unfold cr at x_ ⊢
  rw [fr_arr g_ h2_, g_.1 7 0 2 h1_, g_.2.1 7 0 11 h0_]
  exact x_
theorem dr_fr {w_ : sx_Wl} {S_ S'_ : sm_S} {b_ : Nat → Int} {n_ M_ : Nat} {A_ : pA} {N_ : Nat → Nat} {c_ : List Int} (x_ : dr b_ n_ A_ N_ M_ c_ S_) (g_ : ai_fr (sx_W w_) S_ S'_) (h0_ : (sx_W w_).2.1 77 = false) (h1_ : (sx_W w_).2.1 78 = false) (h2_ : (sx_W w_).2.1 79 = false) (h3_ : (sx_W w_).2.1 80 = false) (h4_ : (sx_W w_).2.1 81 = false) (h5_ : (sx_W w_).1 7 3 = false) (h6_ : (sx_W w_).2.1 75 = false) (h7_ : (sx_W w_).2.2 7 11 = false) (h8_ : (sx_W w_).1 7 2 = false) (h9_ : (sx_W w_).2.1 74 = false) : dr b_ n_ A_ N_ M_ c_ S'_ :=
  ⟨er_fr x_.1 g_ h0_ h1_ h2_ h3_ h4_ h5_, nr_fr x_.2.1 g_ h6_, cr_fr x_.2.2 g_ h7_ h8_ h9_⟩
/-- a_ name is_ told -/
theorem a_te_ok {b_ : Nat → Int} {n_ M_ p_ : Nat} {A_ : pA} {so_ wd_ dt_ : Int} (h_ : a_ok b_ n_ A_ M_) (hc_ : A_.1 M_ < 40) (hp_ : nmp b_ n_ p_) (h1_ : 0 ≤ so_ ∧ so_ ≤ 5) (h2_ : 0 ≤ wd_ ∧ wd_ ≤ 8) (h3_ : so_ ≠ 5 → 1 ≤ wd_) (h4_ : so_ = 5 → 0 ≤ dt_ ∧ dt_ < M_) (h5_ : 0 ≤ dt_ ∧ dt_ ≤ 255) : a_ok b_ n_ (a_te A_ M_ p_ so_ wd_ dt_) M_ := by
  refine ⟨h_.1, fun m_ hm_ => ?_⟩
  have hh_ := h_.2 m_ hm_
  by_cases e_ : m_ = M_
  · subst e_
    refine ⟨?_, fun s_ hs_ => ?_⟩
    · show (if m_ = m_ then A_.1 m_ + 1 else A_.1 m_) ≤ 40
      rw [if_pos rfl]; omega
    · have hs_ : s_ < (if m_ = m_ then A_.1 m_ + 1 else A_.1 m_) := hs_
      rw [if_pos rfl] at hs_
      simp only [a_te]
      by_cases e_ : s_ = A_.1 m_
      · rw [if_pos (by omega), if_pos (by omega), if_pos (by omega), if_pos (by omega)]
        exact ⟨hp_, h1_, h2_, h3_, h4_, h5_⟩
      · rw [if_neg (by omega), if_neg (by omega), if_neg (by omega), if_neg (by omega)]
        exact hh_.2 s_ (by omega)
  · refine ⟨?_, fun s_ hs_ => ?_⟩
    · show (if m_ = M_ then A_.1 M_ + 1 else A_.1 m_) ≤ 40
      rw [if_neg e_]; exact hh_.1
    · have hs_ : s_ < (if m_ = M_ then A_.1 M_ + 1 else A_.1 m_) := hs_
      rw [if_neg e_] at hs_
      have := hh_.1
      simp only [a_te]
      rw [if_neg (by omega), if_neg (by omega), if_neg (by omega), if_neg (by omega)]
      exact hh_.2 s_ hs_
theorem a_dr_ok {b_ : Nat → Int} {n_ M_ k_ : Nat} {A_ : pA} (h_ : a_ok b_ n_ A_ M_) (hk_ : A_.2.2.1 k_ = 3) : a_ok b_ n_ (a_dr A_ k_) M_ := by
  refine ⟨h_.1, fun m_ hm_ => ⟨(h_.2 m_ hm_).1, fun s_ hs_ => ?_⟩⟩
  have hh_ := (h_.2 m_ hm_).2 s_ hs_
  simp only [a_dr]
  by_cases e_ : 40 * m_ + s_ = k_
  · rw [if_pos e_]
    rw [e_] at hh_ ⊢
    rw [hk_] at hh_
    exact ⟨hh_.1, by decide, hh_.2.2.1, fun _ => hh_.2.2.2.1 (by decide), fun z_ => absurd z_ (by decide), hh_.2.2.2.2.2⟩
  · rw [if_neg e_]
    exact hh_
theorem p_wi_ok {b_ : Nat → Int} {n_ p_ : Nat} {u_ : Nat × Int} (hp_ : p_ ≤ n_) (hk_ : lx_kd b_ n_ p_ ≠ -1) (h_ : p_wi b_ n_ p_ = .inr u_) : p_ ≤ u_.1 ∧ u_.1 ≤ n_ ∧ lx_kd b_ n_ u_.1 ≠ -1 ∧ 1 ≤ u_.2 ∧ u_.2 ≤ 8 := by
  unfold p_wi at h_
  split at h_
  · obtain ⟨q_, h1_, h_⟩ := pb_inr h_
    obtain ⟨w_, h2_, h_⟩ := pb_inr h_
    obtain ⟨r_, h3_, h_⟩ := pb_inr h_
    cases h_
    have k1_ := p_ad_ok hp_ (by omega) h1_
    have k2_ := p_nu_ok h2_
    have k3_ := p_ad_ok k1_.2.2.1 (by omega) h3_
    exact ⟨by show p_ ≤ r_; omega, k3_.2.2.1, k3_.2.2.2, k2_.2.2.1, k2_.2.2.2⟩
  · cases h_
    exact ⟨Nat.le_refl _, hp_, hk_, by show (1 : Int) ≤ 1; decide, by show (1 : Int) ≤ 8; decide⟩
end
/-! 99.x9a -/
section
/-! the class reader: widths, tables of names; written by wip/p55/gen/vg -/

/-! lemmas -/
theorem p_nn_ok {b_ : Nat → Int} {n_ K_ p_ r_ : Nat} {f_ : Nat → Nat} {w_ : Int} (h_ : p_nn b_ n_ K_ f_ w_ p_ = .inr r_) : (K_ : Int) ≠ w_ ∧ lx_kd b_ n_ p_ = 1 ∧ p_ad b_ n_ p_ = .inr r_ := by
  unfold p_nn at h_
  split at h_
  · rename_i g_
    split at h_
    · split at h_
      · cases h_
      · rename_i g1_
        exact ⟨g1_, g_, h_⟩
    · cases h_
  · cases h_
theorem p_nd_ok {b_ : Nat → Int} {n_ p_ r_ : Nat} {w_ : Int} (hw_ : w_ ≠ 0) (hp_ : p_ ≤ n_) (h_ : p_nd b_ n_ w_ p_ = .inr r_) : lx_kd b_ n_ p_ = w_ ∧ p_ < r_ ∧ r_ ≤ n_ ∧ lx_kd b_ n_ r_ ≠ -1 := by
  unfold p_nd at h_
  split at h_
  · rename_i g_
    have := p_ad_ok hp_ (by omega) h_
    exact ⟨g_, this.2⟩
  · cases h_
end
/-! 99.x9b -/
section
/-! Reader.readWidth -/
def vw_123 : sx_Wl := ([(10, 2), (10, 3), (10, 4), (10, 5), (10, 6), (10, 7), (10, 8)], [], [])
def vq_123 (b_ : Nat → Int) (n_ : Nat) (p_ : Nat) (S0_ : sm_S) (u_ : Option sm_V) (S1_ : sm_S) : Prop := ∃ v_ : Int, u_ = some (.inl v_) ∧ gi S1_ ∧ ai_fr (sx_W vw_123) S0_ S1_ ∧ (∃ r_, p_wi b_ n_ p_ = .inr (r_, v_) ∧ ct b_ n_ r_ S1_)
def vx_123 (b_ : Nat → Int) (n_ : Nat) (p_ : Nat) (S0_ : sm_S) (S1_ : sm_S) : Prop := gi S1_ ∧ ai_fr (sx_W vw_123) S0_ S1_ ∧ (∃ e_, p_wi b_ n_ p_ = .inl e_ ∧ ter S1_ e_)
set_option maxHeartbeats 400000 in
theorem vc_123 {sc_ : Nat × (Nat → Int)} (b_ : Nat → Int) (n_ : Nat) (p_ : Nat) (S0_ : sm_S) (hI_ : gi S0_) (hc_ : ct b_ n_ p_ S0_) : sm_T (mt_P sc_) 2 123 (0, [some (.inr (.inr (some (7, 0)))), none], [], S0_) (fun r_ => (∃ u_ S1_, r_ = (.inl u_, S1_, 0) ∧ vq_123 b_ n_ p_ S0_ u_ S1_) ∨ ∃ S1_, r_ = (.inr 2, S1_, 1) ∧ vx_123 b_ n_ p_ S0_ S1_) := by
  have hF_ : ai_fr (sx_W vw_123) S0_ S0_ := ai_fr_rf
  have st0_ := hc_.2.2.2.2.2.1
  have kd0_ := hc_.2.2.2.2.2.2.2.1
  have hp0_ := hc_.2.2.2.1
  have bx1_ : (-128) ≤ S0_.1 10 0 2 ∧ S0_.1 10 0 2 ≤ 257 := hI_.1 10 0 2 rfl
  refine sm_T_go 4 (c1 := (9, [some (.inr (.inr (some (7, 0)))), none], [.inl 58, .inl (S0_.1 10 0 2)], S0_)) rfl ?_
  refine sm_T_br (a := 0) (z := 5) rfl (fun cx2_ => ?_) (fun cx2_ => ?_)
  · have cx2_ : (S0_.1 10 0 2) = 58 := of_decide_eq_true cx2_
    refine sm_T_go 2 (c1 := (18, [some (.inr (.inr (some (7, 0)))), none], [.inr (.inr (some (10, 0)))], S0_)) rfl ?_
    refine sm_T_calx (d1 := 1) (Q1 := vq_191 b_ n_ (lx_en b_ n_ p_) S0_) (Q2 := vx_191 b_ n_ (lx_en b_ n_ p_) S0_) rfl rfl (by decide) (vc_191 b_ n_ (lx_en b_ n_ p_) S0_ hI_ (by exact hc_.1) (by exact hc_.2.1) (by exact hc_.2.2.1) (by exact hc_.2.2.2.2.2.2.1) (by exact (lx_en_le (b := b_) hc_.2.2.2.1).2)) rfl (fun Sx3_ px6_ => ?_) (fun u_ Sx3_ px6_ => ?_)
    · obtain ⟨hIx4_, hFx5_, px6_⟩ := px6_
      refine Or.inr ⟨_, rfl, hIx4_, ai_fr_tr hF_ (fr_le hFx5_ rfl), ?_⟩
      refine ⟨(1, (lx_nx b_ n_ p_)), ?_, px6_.2⟩
      unfold p_wi; rw [if_pos (by omega), pb_l (p_ad_x px6_.1)]
    obtain ⟨rfl, hIx4_, hFx5_, px6_⟩ := px6_
    have hFx7_ : ai_fr (sx_W vw_123) S0_ Sx3_ := ai_fr_tr hF_ (fr_le hFx5_ rfl)
    have c1_ : ct b_ n_ (lx_nx b_ n_ p_) _ := px6_
    have a1_ := p_ad_c px6_
    refine sm_T_go 3 (c1 := (25, [some (.inr (.inr (some (7, 0)))), none], [.inl 8, .inl 1, .inr (.inr (some (7, 0)))], Sx3_)) rfl ?_
    refine sm_T_calx (d1 := 1) (Q1 := vq_122 1 8 b_ n_ (lx_nx b_ n_ p_) Sx3_) (Q2 := vx_122 1 8 b_ n_ (lx_nx b_ n_ p_) Sx3_) rfl rfl (by decide) (vc_122 1 8 b_ n_ (lx_nx b_ n_ p_) Sx3_ hIx4_ (by exact c1_)) rfl (fun Sx8_ px11_ => ?_) (fun u_ Sx8_ px11_ => ?_)
    · obtain ⟨hIx9_, hFx10_, px11_⟩ := px11_
      refine Or.inr ⟨_, rfl, hIx9_, ai_fr_tr hFx7_ (fr_le hFx10_ rfl), ?_⟩
      obtain ⟨e_, w1_, w2_⟩ := px11_
      refine ⟨e_, ?_, w2_⟩
      unfold p_wi; rw [if_pos (by omega), pb_r a1_, pb_l w1_]
    obtain ⟨vx13_, rfl, hIx9_, hFx10_, px11_⟩ := px11_
    have hFx12_ : ai_fr (sx_W vw_123) S0_ Sx8_ := ai_fr_tr hFx7_ (fr_le hFx10_ rfl)
    have a2_ := px11_
    have c2_ := ct_fr c1_ hFx10_ rfl rfl rfl rfl rfl rfl rfl
    refine sm_T_go 3 (c1 := (33, [some (.inr (.inr (some (7, 0)))), some (.inl vx13_)], [.inr (.inr (some (10, 0)))], Sx8_)) rfl ?_
    refine sm_T_calx (d1 := 1) (Q1 := vq_191 b_ n_ (lx_en b_ n_ (lx_nx b_ n_ p_)) Sx8_) (Q2 := vx_191 b_ n_ (lx_en b_ n_ (lx_nx b_ n_ p_)) Sx8_) rfl rfl (by decide) (vc_191 b_ n_ (lx_en b_ n_ (lx_nx b_ n_ p_)) Sx8_ hIx9_ (by exact c2_.1) (by exact c2_.2.1) (by exact c2_.2.2.1) (by exact c2_.2.2.2.2.2.2.1) (by exact (lx_en_le (b := b_) c2_.2.2.2.1).2)) rfl (fun Sx14_ px17_ => ?_) (fun u_ Sx14_ px17_ => ?_)
    · obtain ⟨hIx15_, hFx16_, px17_⟩ := px17_
      refine Or.inr ⟨_, rfl, hIx15_, ai_fr_tr hFx12_ (fr_le hFx16_ rfl), ?_⟩
      refine ⟨(1, (lx_nx b_ n_ (lx_nx b_ n_ p_))), ?_, px17_.2⟩
      unfold p_wi; rw [if_pos (by omega), pb_r a1_, pb_r a2_, pb_l (p_ad_x px17_.1)]
    obtain ⟨rfl, hIx15_, hFx16_, px17_⟩ := px17_
    have hFx18_ : ai_fr (sx_W vw_123) S0_ Sx14_ := ai_fr_tr hFx12_ (fr_le hFx16_ rfl)
    have c3_ : ct b_ n_ (lx_nx b_ n_ (lx_nx b_ n_ p_)) _ := px17_
    have a3_ := p_ad_c px17_
    refine sm_T_go 1 (c1 := (37, [some (.inr (.inr (some (7, 0)))), some (.inl vx13_)], [.inl vx13_], Sx14_)) rfl ?_
    refine sm_T_ri rfl (Or.inl ⟨_, _, rfl, _, rfl, hIx15_, hFx18_, ?_⟩)
    exact ⟨(lx_nx b_ n_ (lx_nx b_ n_ p_)), by unfold p_wi; rw [if_pos (by omega), pb_r a1_, pb_r a2_, pb_r a3_], c3_⟩
  · have cx2_ : ¬ ((S0_.1 10 0 2) = 58) := of_decide_eq_false cx2_
    refine sm_T_go 1 (c1 := (13, [some (.inr (.inr (some (7, 0)))), none], [.inl 1], S0_)) rfl ?_
    refine sm_T_ri rfl (Or.inl ⟨_, _, rfl, _, rfl, hI_, hF_, ?_⟩)
    exact ⟨p_, by unfold p_wi; rw [if_neg (by omega)], hc_⟩
end
/-! 99.x9c -/
section
/-! Reader.findModule -/
def vw_118 : sx_Wl := ([], [], [])
def vq_118 (y_ : Int) (b_ : Nat → Int) (n_ : Nat) (N_ : Nat → Nat) (M_ : Nat) (q_ : Nat) (S0_ : sm_S) (u_ : Option sm_V) (S1_ : sm_S) : Prop := S0_ = S1_ ∧ ∃ v_ : Int, u_ = some (.inl v_) ∧ (v_ = p_fm b_ n_ N_ M_ q_)
set_option maxHeartbeats 400000 in
theorem vl_118 {sc_ : Nat × (Nat → Int)} (y_ : Int) (b_ : Nat → Int) (n_ : Nat) (N_ : Nat → Nat) (M_ : Nat) (q_ : Nat) (S0_ : sm_S) (hb_ : S0_.2.2.1 98 0 = b_) (hn1_ : n_ ≤ 1280) (hmd_ : (S0_.1 7 0 3) = (M_ : Int)) (hr_ : nr b_ n_ N_ M_ S0_) (hy_ : y_ = (16 * q_ + lx_sz b_ n_ q_ : Nat)) (hq_ : nmp b_ n_ q_) : ∀ nn_ : Nat, (∀ (s_ : Int) (S_ : sm_S), gi S_ → ai_fr (sx_W vw_118) S0_ S_ → ((0 ≤ s_ ∧ s_ ≤ (M_ : Int)) ∧ (p_fd (fun m_ => nm_q b_ n_ (N_ m_) q_) s_.toNat = -1) ∧ (S_ = S0_) ∧ True) → (((M_ : Int) - s_).toNat) < nn_ → sm_T (mt_P sc_) 1 118 (2, [some (.inr (.inr (some (7, 0)))), some (.inl y_), some (.inl s_)], [], S_) (fun r_ => ∃ u_ S1_, r_ = (.inl u_, S1_, 0) ∧ vq_118 y_ b_ n_ N_ M_ q_ S0_ u_ S1_)) := by
  intro nn_
  induction nn_ with
  | zero => exact fun _ _ _ _ _ h_ => absurd h_ (Nat.not_lt_zero _)
  | succ nn_ ih_ =>
    rintro s_ S_ hI_ hF_ ⟨h0_, h1_, hS_, -⟩ hm_
    have hb1_ : S_.2.2.1 98 0 = b_ := by rw [hS_]; exact hb_
    obtain ⟨r1_, r2_⟩ := hr_
    have hK_ : S_.1 7 0 3 = (M_ : Int) := by rw [hS_]; exact hmd_
    have bx1_ : 0 ≤ S_.1 7 0 3 ∧ S_.1 7 0 3 ≤ 16 := hI_.1 7 0 3 rfl
    refine sm_T_go 3 (c1 := (7, [some (.inr (.inr (some (7, 0)))), some (.inl y_), some (.inl s_)], [.inl (S_.1 7 0 3), .inl s_], S_)) rfl ?_
    refine sm_T_br (a := 3) (z := 28) rfl (fun cx2_ => ?_) (fun cx2_ => ?_)
    · have cx2_ : (S_.1 7 0 3) ≤ s_ := of_decide_eq_true cx2_
      refine sm_T_go 1 (c1 := (36, [some (.inr (.inr (some (7, 0)))), some (.inl y_), some (.inl s_)], [.inl (-1)], S_)) rfl ?_
      refine sm_T_ri rfl ⟨_, _, rfl, (by first | rfl | exact hS_.symm), _, rfl, ?_⟩
      unfold p_fm
      rw [show M_ = s_.toNat by omega]
      exact h1_.symm
    · have cx2_ : ¬ ((S_.1 7 0 3) ≤ s_) := of_decide_eq_false cx2_
      refine sm_T_go 5 (c1 := (19, [some (.inr (.inr (some (7, 0)))), some (.inl y_), some (.inl s_)], [.inl s_, .inr (.inr (some (75, 0))), .inr (.inr (some (10, 0)))], S_)) rfl ?_
      refine sm_T_iald (n := 16) rfl rfl (by omega) (by omega) ?_
      have bx3_ : 0 ≤ S_.2.2.1 75 0 s_.toNat ∧ S_.2.2.1 75 0 s_.toNat ≤ 65535 := hI_.2 75 0 _
      refine sm_T_go 1 (c1 := (21, [some (.inr (.inr (some (7, 0)))), some (.inl y_), some (.inl s_)], [.inl y_, .inl (S_.2.2.1 75 0 s_.toNat), .inr (.inr (some (10, 0)))], S_)) rfl ?_
      refine sm_T_cal (d1 := 0) (Q1 := vq_190 (S_.2.2.1 75 0 s_.toNat) y_ b_ n_ (N_ s_.toNat) q_ S_) rfl rfl (by decide) (vc_190 (S_.2.2.1 75 0 s_.toNat) y_ b_ n_ (N_ s_.toNat) q_ S_ hI_ (by exact hb1_) (by exact hn1_) (by rw [hS_]; exact (r2_ s_.toNat (by omega)).1) (by exact hy_) (by exact (r2_ s_.toNat (by omega)).2) (by exact hq_)) (fun u_ Sx4_ px7_ => ?_)
      obtain ⟨rfl, vx9_, rfl, px7_⟩ := px7_
      have e28_ := px7_
      refine sm_T_b0 (a := 0) (z := 5) rfl (fun cx10_ => ?_) (fun cx10_ => ?_)
      · have cx10_ : vx9_ = 0 := of_decide_eq_true cx10_
        refine sm_T_inc (a := 2) (z := 1) (v := s_) (w := s_ + 1) rfl rfl (by omega) (by omega) (by omega) ?_
        refine sm_T_go 1 (c1 := (2, [some (.inr (.inr (some (7, 0)))), some (.inl y_), some (.inl (s_ + 1))], [], S_)) rfl ?_
        refine ih_ (s_ + 1) S_ hI_ hF_ ⟨?_, ?_, ?_, trivial⟩ ?_
        · omega
        · rw [show (s_ + 1).toNat = s_.toNat + 1 by omega]
          refine p_fd_nx h1_ ?_
          by_cases g_ : nm_q b_ n_ (N_ s_.toNat) q_ = true
          · rw [if_pos g_] at e28_
            omega
          · exact Bool.eq_false_iff.mpr g_
        · first | rfl | exact hS_
        · omega
      · have cx10_ : ¬ (vx9_ = 0) := of_decide_eq_false cx10_
        refine sm_T_go 1 (c1 := (28, [some (.inr (.inr (some (7, 0)))), some (.inl y_), some (.inl s_)], [.inl s_], S_)) rfl ?_
        refine sm_T_ri rfl ⟨_, _, rfl, (by first | rfl | exact hS_.symm), _, rfl, ?_⟩
        unfold p_fm
        rw [p_fd_go h1_ ?_ (show s_.toNat < M_ by omega)]
        · omega
        · by_cases g_ : nm_q b_ n_ (N_ s_.toNat) q_ = true
          · exact g_
          · rw [if_neg g_] at e28_
            omega
set_option maxHeartbeats 400000 in
theorem vc_118 {sc_ : Nat × (Nat → Int)} (y_ : Int) (b_ : Nat → Int) (n_ : Nat) (N_ : Nat → Nat) (M_ : Nat) (q_ : Nat) (S0_ : sm_S) (hI_ : gi S0_) (hb_ : S0_.2.2.1 98 0 = b_) (hn1_ : n_ ≤ 1280) (hmd_ : (S0_.1 7 0 3) = (M_ : Int)) (hr_ : nr b_ n_ N_ M_ S0_) (hy_ : y_ = (16 * q_ + lx_sz b_ n_ q_ : Nat)) (hq_ : nmp b_ n_ q_) : sm_T (mt_P sc_) 1 118 (0, [some (.inr (.inr (some (7, 0)))), some (.inl y_), none], [], S0_) (fun r_ => ∃ u_ S1_, r_ = (.inl u_, S1_, 0) ∧ vq_118 y_ b_ n_ N_ M_ q_ S0_ u_ S1_) := by
  have hF_ : ai_fr (sx_W vw_118) S0_ S0_ := ai_fr_rf
  refine sm_T_go 2 (c1 := (2, [some (.inr (.inr (some (7, 0)))), some (.inl y_), some (.inl 0)], [], S0_)) rfl ?_
  refine (vl_118 y_ b_ n_ N_ M_ q_ S0_ hb_ hn1_ hmd_ hr_ hy_ hq_ _) 0 S0_ hI_ hF_ ⟨?_, ?_, ?_, trivial⟩ (Nat.lt_succ_self _)
  · omega
  · rfl
  · first | rfl | exact hS_
end
