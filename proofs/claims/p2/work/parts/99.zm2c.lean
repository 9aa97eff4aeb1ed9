/-! Times.offer -/
def vw_203 : sx_Wl := ([(11, 5)], [102, 103, 104, 105], [])
def vq_203 (a1_ : Int) (a2_ : Int) (a3_ : Int) (S0_ : sm_S) (u_ : Option sm_V) (S1_ : sm_S) : Prop := u_ = none ∧ gi S1_ ∧ ai_fr (sx_W vw_203) S0_ S1_ ∧ (tpo S1_)
set_option maxHeartbeats 2000000 in
theorem vl_203 {sc_ : Nat × (Nat → Int)} (a1_ : Int) (a2_ : Int) (a3_ : Int) (S0_ : sm_S) (hp_ : tpo S0_) (ht_ : ttr S0_) (h1_ : (0 ≤ a1_ ∧ a1_ ≤ 10161) ∧ (a1_ < 162 ∨ 10000 ≤ a1_)) (hz_ : S0_.1 11 0 11 = 0 → a1_ < 12) : ∀ nn_ : Nat, (∀ (sl_ : Int) (a9_ : Int) (S_ : sm_S), gi S_ → ai_fr (sx_W vw_203) S0_ S_ → ((0 ≤ sl_ ∧ sl_ ≤ 40 ∧ 0 ≤ a9_ ∧ a9_ ≤ S_.1 11 0 5 ∧ S_.1 11 0 5 ≤ 40) ∧ (tsl (S_.2.2.1 104 0) (S_.2.2.1 105 0) sl_.toNat) ∧ (tph (S_.2.2.1 104 0) (S_.2.2.1 105 0) (S_.2.2.1 102 0) (S_.1 11 0 5) a9_) ∧ True) → ((100 + a9_).toNat) < nn_ → sm_T (mt_P sc_) 1 203 (95, [some (.inr (.inr (some (11, 0)))), some (.inl a1_), some (.inl a2_), some (.inl a3_), some (.inl sl_), some (.inl a9_)], [], S_) (fun ro9_ => ∃ u_ S1_, ro9_ = (.inl u_, S1_, 0) ∧ vq_203 a1_ a2_ a3_ S0_ u_ S1_)) := by
  intro nn_
  induction nn_ with
  | zero => exact fun _ _ _ _ _ _ h_ => absurd h_ (Nat.not_lt_zero _)
  | succ nn_ ih_ =>
    rintro sl_ a9_ S_ hI_ hF_ ⟨h0_, hs_, hh_, -⟩ hm_
    have cp_ : 0 ≤ S_.1 11 0 5 ∧ S_.1 11 0 5 ≤ 41 := hI_.1 11 0 5 rfl
    refine sm_T_go 1 (c1 := (97, [some (.inr (.inr (some (11, 0)))), some (.inl a1_), some (.inl a2_), some (.inl a3_), some (.inl sl_), some (.inl a9_)], [.inl a9_], S_)) rfl ?_
    refine sm_T_b0 (a := 5) (z := 43) rfl (fun cx1_ => ?_) (fun cx1_ => ?_)
    · have cx1_ : a9_ ≤ 0 := of_decide_eq_true cx1_
      refine sm_T_go 4 (c1 := (148, [some (.inr (.inr (some (11, 0)))), some (.inl a1_), some (.inl a2_), some (.inl a3_), some (.inl sl_), some (.inl a9_)], [.inl sl_, .inl a9_, .inr (.inr (some (102, 0)))], S_)) rfl ?_
      refine sm_T_iast (n := 41) rfl rfl (by omega) (by omega) ?_
      have hIx2_ : gi (sm_aI S_ 102 0 a9_.toNat sl_) := gi_aI hI_ (show 0 ≤ sl_ ∧ sl_ ≤ 40 from ⟨by omega, by omega⟩)
      have hFx3_ : ai_fr (sx_W vw_203) S0_ (sm_aI S_ 102 0 a9_.toNat sl_) := ai_fr_tr hF_ (ai_fr_aI rfl)
      have bx4_ : 0 ≤ S_.1 11 0 5 ∧ S_.1 11 0 5 ≤ 41 := hI_.1 11 0 5 rfl
      refine sm_T_go 3 (c1 := (155, [some (.inr (.inr (some (11, 0)))), some (.inl a1_), some (.inl a2_), some (.inl a3_), some (.inl sl_), some (.inl a9_)], [.inl 40, .inl (S_.1 11 0 5)], sm_aI S_ 102 0 a9_.toNat sl_)) rfl ?_
      refine sm_T_br (a := 3) (z := 13) rfl (fun cx5_ => ?_) (fun cx5_ => ?_)
      · have cx5_ : 40 ≤ (S_.1 11 0 5) := of_decide_eq_true cx5_
        refine sm_T_rv rfl ⟨_, _, rfl, rfl, hIx2_, hFx3_, ?_⟩
        refine ⟨?_, ?_⟩
        · first | (show S_.1 11 0 5 ≤ 40; omega) | (show S_.1 11 0 5 + 1 ≤ 40; omega)
        · first | exact tph_in (q_ := S_.1 11 0 5) hh_ hs_ (by omega) (fun i_ => rd_eq) (by omega) | exact tph_in (q_ := S_.1 11 0 5 + 1) hh_ hs_ (by omega) (fun i_ => by rw [rd_fa, rd_eq]) (by omega)
      · have cx5_ : ¬ (40 ≤ (S_.1 11 0 5)) := of_decide_eq_false cx5_
        refine sm_T_go 4 (c1 := (164, [some (.inr (.inr (some (11, 0)))), some (.inl a1_), some (.inl a2_), some (.inl a3_), some (.inl sl_), some (.inl a9_)], [.inl 1, .inl (S_.1 11 0 5), .inr (.inr (some (11, 0)))], sm_aI S_ 102 0 a9_.toNat sl_)) rfl ?_
        refine sm_T_bin (w := (S_.1 11 0 5) + 1) rfl (bi_add (by omega) (by omega) (by omega)) ?_ -- pc_ 164
        have hIx6_ : gi (sm_pI (sm_aI S_ 102 0 a9_.toNat sl_) 11 0 5 ((S_.1 11 0 5) + 1)) := gi_pI hIx2_ (show 0 ≤ (S_.1 11 0 5) + 1 ∧ (S_.1 11 0 5) + 1 ≤ 41 from ⟨by omega, by omega⟩)
        have hFx7_ : ai_fr (sx_W vw_203) S0_ (sm_pI (sm_aI S_ 102 0 a9_.toNat sl_) 11 0 5 ((S_.1 11 0 5) + 1)) := ai_fr_tr hFx3_ (ai_fr_pI rfl)
        refine sm_T_go 1 (c1 := (168, [some (.inr (.inr (some (11, 0)))), some (.inl a1_), some (.inl a2_), some (.inl a3_), some (.inl sl_), some (.inl a9_)], [], sm_pI (sm_aI S_ 102 0 a9_.toNat sl_) 11 0 5 ((S_.1 11 0 5) + 1))) rfl ?_
        refine sm_T_rv rfl ⟨_, _, rfl, rfl, hIx6_, hFx7_, ?_⟩
        refine ⟨?_, ?_⟩
        · first | (show S_.1 11 0 5 ≤ 40; omega) | (show S_.1 11 0 5 + 1 ≤ 40; omega)
        · first | exact tph_in (q_ := S_.1 11 0 5) hh_ hs_ (by omega) (fun i_ => rd_eq) (by omega) | exact tph_in (q_ := S_.1 11 0 5 + 1) hh_ hs_ (by omega) (fun i_ => by rw [rd_fa, rd_eq]) (by omega)
    · have cx1_ : ¬ (a9_ ≤ 0) := of_decide_eq_false cx1_
      refine sm_T_go 6 (c1 := (110, [some (.inr (.inr (some (11, 0)))), some (.inl a1_), some (.inl a2_), some (.inl a3_), some (.inl sl_), some (.inl a9_)], [.inl 1, .inl a9_, .inr (.inr (some (102, 0))), .inl sl_, .inr (.inr (some (11, 0)))], S_)) rfl ?_
      refine sm_T_bin (w := a9_ - 1) rfl (bi_sub (by omega) (by omega) (by omega)) ?_ -- pc_ 110
      refine sm_T_iald (n := 41) rfl rfl (by omega) (by omega) ?_
      have bx8_ : 0 ≤ S_.2.2.1 102 0 (a9_ - 1).toNat ∧ S_.2.2.1 102 0 (a9_ - 1).toNat ≤ 40 := hI_.2 102 0 _
      refine sm_T_cal (d1 := 0) (Q1 := vq_204 sl_ (S_.2.2.1 102 0 (a9_ - 1).toNat) S_) rfl rfl (by decide) (vc_204 sl_ (S_.2.2.1 102 0 (a9_ - 1).toNat) S_ hI_ (by omega) (by omega)) (fun u_ Sx9_ px12_ => ?_)
      obtain ⟨rfl, vx14_, rfl, px12_⟩ := px12_
      have c9_ := px12_
      refine sm_T_b0 (a := 0) (z := 25) rfl (fun cx15_ => ?_) (fun cx15_ => ?_)
      · have cx15_ : vx14_ = 0 := of_decide_eq_true cx15_
        refine sm_T_go 4 (c1 := (148, [some (.inr (.inr (some (11, 0)))), some (.inl a1_), some (.inl a2_), some (.inl a3_), some (.inl sl_), some (.inl a9_)], [.inl sl_, .inl a9_, .inr (.inr (some (102, 0)))], S_)) rfl ?_
        refine sm_T_iast (n := 41) rfl rfl (by omega) (by omega) ?_
        have hIx16_ : gi (sm_aI S_ 102 0 a9_.toNat sl_) := gi_aI hI_ (show 0 ≤ sl_ ∧ sl_ ≤ 40 from ⟨by omega, by omega⟩)
        have hFx17_ : ai_fr (sx_W vw_203) S0_ (sm_aI S_ 102 0 a9_.toNat sl_) := ai_fr_tr hF_ (ai_fr_aI rfl)
        have bx18_ : 0 ≤ S_.1 11 0 5 ∧ S_.1 11 0 5 ≤ 41 := hI_.1 11 0 5 rfl
        refine sm_T_go 3 (c1 := (155, [some (.inr (.inr (some (11, 0)))), some (.inl a1_), some (.inl a2_), some (.inl a3_), some (.inl sl_), some (.inl a9_)], [.inl 40, .inl (S_.1 11 0 5)], sm_aI S_ 102 0 a9_.toNat sl_)) rfl ?_
        refine sm_T_br (a := 3) (z := 13) rfl (fun cx19_ => ?_) (fun cx19_ => ?_)
        · have cx19_ : 40 ≤ (S_.1 11 0 5) := of_decide_eq_true cx19_
          refine sm_T_rv rfl ⟨_, _, rfl, rfl, hIx16_, hFx17_, ?_⟩
          refine ⟨?_, ?_⟩
          · first | (show S_.1 11 0 5 ≤ 40; omega) | (show S_.1 11 0 5 + 1 ≤ 40; omega)
          · first | exact tph_in (q_ := S_.1 11 0 5) hh_ hs_ (by omega) (fun i_ => rd_eq) (by omega) | exact tph_in (q_ := S_.1 11 0 5 + 1) hh_ hs_ (by omega) (fun i_ => by rw [rd_fa, rd_eq]) (by omega)
        · have cx19_ : ¬ (40 ≤ (S_.1 11 0 5)) := of_decide_eq_false cx19_
          refine sm_T_go 4 (c1 := (164, [some (.inr (.inr (some (11, 0)))), some (.inl a1_), some (.inl a2_), some (.inl a3_), some (.inl sl_), some (.inl a9_)], [.inl 1, .inl (S_.1 11 0 5), .inr (.inr (some (11, 0)))], sm_aI S_ 102 0 a9_.toNat sl_)) rfl ?_
          refine sm_T_bin (w := (S_.1 11 0 5) + 1) rfl (bi_add (by omega) (by omega) (by omega)) ?_ -- pc_ 164
          have hIx20_ : gi (sm_pI (sm_aI S_ 102 0 a9_.toNat sl_) 11 0 5 ((S_.1 11 0 5) + 1)) := gi_pI hIx16_ (show 0 ≤ (S_.1 11 0 5) + 1 ∧ (S_.1 11 0 5) + 1 ≤ 41 from ⟨by omega, by omega⟩)
          have hFx21_ : ai_fr (sx_W vw_203) S0_ (sm_pI (sm_aI S_ 102 0 a9_.toNat sl_) 11 0 5 ((S_.1 11 0 5) + 1)) := ai_fr_tr hFx17_ (ai_fr_pI rfl)
          refine sm_T_go 1 (c1 := (168, [some (.inr (.inr (some (11, 0)))), some (.inl a1_), some (.inl a2_), some (.inl a3_), some (.inl sl_), some (.inl a9_)], [], sm_pI (sm_aI S_ 102 0 a9_.toNat sl_) 11 0 5 ((S_.1 11 0 5) + 1))) rfl ?_
          refine sm_T_rv rfl ⟨_, _, rfl, rfl, hIx20_, hFx21_, ?_⟩
          refine ⟨?_, ?_⟩
          · first | (show S_.1 11 0 5 ≤ 40; omega) | (show S_.1 11 0 5 + 1 ≤ 40; omega)
          · first | exact tph_in (q_ := S_.1 11 0 5) hh_ hs_ (by omega) (fun i_ => rd_eq) (by omega) | exact tph_in (q_ := S_.1 11 0 5 + 1) hh_ hs_ (by omega) (fun i_ => by rw [rd_fa, rd_eq]) (by omega)
      · have cx15_ : ¬ (vx14_ = 0) := of_decide_eq_false cx15_
        refine sm_T_go 7 (c1 := (131, [some (.inr (.inr (some (11, 0)))), some (.inl a1_), some (.inl a2_), some (.inl a3_), some (.inl sl_), some (.inl a9_)], [.inl 1, .inl a9_, .inr (.inr (some (102, 0))), .inl a9_, .inr (.inr (some (102, 0)))], S_)) rfl ?_
        refine sm_T_bin (w := a9_ - 1) rfl (bi_sub (by omega) (by omega) (by omega)) ?_ -- pc_ 131
        refine sm_T_iald (n := 41) rfl rfl (by omega) (by omega) ?_
        refine sm_T_iast (n := 41) rfl rfl (by omega) (by omega) ?_
        have hIx22_ : gi (sm_aI S_ 102 0 a9_.toNat (S_.2.2.1 102 0 (a9_ - 1).toNat)) := gi_aI hI_ (show 0 ≤ (S_.2.2.1 102 0 (a9_ - 1).toNat) ∧ (S_.2.2.1 102 0 (a9_ - 1).toNat) ≤ 40 from ⟨by omega, by omega⟩)
        have hFx23_ : ai_fr (sx_W vw_203) S0_ (sm_aI S_ 102 0 a9_.toNat (S_.2.2.1 102 0 (a9_ - 1).toNat)) := ai_fr_tr hF_ (ai_fr_aI rfl)
        refine sm_T_inc (a := 5) (z := (-1)) (v := a9_) (w := a9_ - 1) rfl rfl (by omega) (by omega) (by omega) ?_ -- pc_ 134
        refine sm_T_go 1 (c1 := (95, [some (.inr (.inr (some (11, 0)))), some (.inl a1_), some (.inl a2_), some (.inl a3_), some (.inl sl_), some (.inl (a9_ - 1))], [], sm_aI S_ 102 0 a9_.toNat (S_.2.2.1 102 0 (a9_ - 1).toNat))) rfl ?_
        refine ih_ sl_ (a9_ - 1) (sm_aI S_ 102 0 a9_.toNat (S_.2.2.1 102 0 (a9_ - 1).toNat)) hIx22_ hFx23_ ⟨?_, ?_, ?_, trivial⟩ ?_
        · (simp only [rd_af]; omega)
        · exact hs_
        · exact tph_mv (k_ := S_.1 11 0 5) hh_ (by omega) (fun i_ => rd_eq)
        · omega
set_option maxHeartbeats 2000000 in
theorem vc_203 {sc_ : Nat × (Nat → Int)} (a1_ : Int) (a2_ : Int) (a3_ : Int) (S0_ : sm_S) (hI_ : gi S0_) (hp_ : tpo S0_) (ht_ : ttr S0_) (h1_ : (0 ≤ a1_ ∧ a1_ ≤ 10161) ∧ (a1_ < 162 ∨ 10000 ≤ a1_)) (hz_ : S0_.1 11 0 11 = 0 → a1_ < 12) : sm_T (mt_P sc_) 1 203 (0, [some (.inr (.inr (some (11, 0)))), some (.inl a1_), some (.inl a2_), some (.inl a3_), none, none], [], S0_) (fun ro9_ => ∃ u_ S1_, ro9_ = (.inl u_, S1_, 0) ∧ vq_203 a1_ a2_ a3_ S0_ u_ S1_) := by
  have hF_ : ai_fr (sx_W vw_203) S0_ S0_ := ai_fr_rf
  have cp_ : 0 ≤ S0_.1 11 0 5 ∧ S0_.1 11 0 5 ≤ 41 := hI_.1 11 0 5 rfl
  have cs_ : 0 ≤ S0_.1 11 0 11 ∧ S0_.1 11 0 11 ≤ 152 := hI_.1 11 0 11 rfl
  have co_ : 0 ≤ S0_.2.2.1 102 0 (S0_.1 11 0 5).toNat ∧ S0_.2.2.1 102 0 (S0_.1 11 0 5).toNat ≤ 40 := hI_.2 102 0 _
  have p40_ := hp_.1
  refine sm_T_go 2 (c1 := (2, [some (.inr (.inr (some (11, 0)))), some (.inl a1_), some (.inl a2_), some (.inl a3_), none, none], [.inl (-1), .inl a3_], S0_)) rfl ?_
  refine sm_T_br (a := 0) (z := 13) rfl (fun cx1_ => ?_) (fun cx1_ => ?_)
  · have cx1_ : a3_ = (-1) := of_decide_eq_true cx1_
    refine sm_T_rv rfl ⟨_, _, rfl, rfl, hI_, hF_, ?_⟩
    exact hp_
  · have cx1_ : ¬ (a3_ = (-1)) := of_decide_eq_false cx1_
    have bx2_ : 0 ≤ S0_.1 11 0 11 ∧ S0_.1 11 0 11 ≤ 152 := hI_.1 11 0 11 rfl
    refine sm_T_go 3 (c1 := (12, [some (.inr (.inr (some (11, 0)))), some (.inl a1_), some (.inl a2_), some (.inl a3_), none, none], [.inl 152, .inl (S0_.1 11 0 11)], S0_)) rfl ?_
    refine sm_T_br (a := 2) (z := 4) rfl (fun cx3_ => ?_) (fun cx3_ => ?_)
    · have cx3_ : (S0_.1 11 0 11) < 152 := of_decide_eq_true cx3_
      have bx4_ : 0 ≤ S0_.1 11 0 5 ∧ S0_.1 11 0 5 ≤ 41 := hI_.1 11 0 5 rfl
      refine sm_T_go 4 (c1 := (24, [some (.inr (.inr (some (11, 0)))), some (.inl a1_), some (.inl a2_), some (.inl a3_), none, none], [.inl (S0_.1 11 0 5), .inr (.inr (some (102, 0)))], S0_)) rfl ?_
      refine sm_T_iald (n := 41) rfl rfl (by omega) (by omega) ?_
      have bx5_ : 0 ≤ S0_.2.2.1 102 0 (S0_.1 11 0 5).toNat ∧ S0_.2.2.1 102 0 (S0_.1 11 0 5).toNat ≤ 40 := hI_.2 102 0 _
      refine sm_T_go 8 (c1 := (41, [some (.inr (.inr (some (11, 0)))), some (.inl a1_), some (.inl a2_), some (.inl a3_), some (.inl (S0_.2.2.1 102 0 (S0_.1 11 0 5).toNat)), none], [.inl 152, .inl (S0_.2.2.1 102 0 (S0_.1 11 0 5).toNat), .inr (.inr (some (105, 0))), .inl 0, .inr (.inr (some (106, 0)))], S0_)) rfl ?_
      refine sm_T_bin (w := 152 * (S0_.2.2.1 102 0 (S0_.1 11 0 5).toNat)) rfl (bi_mul (by omega) (by omega) (by omega)) ?_ -- pc_ 41
      refine sm_T_go 2 (c1 := (46, [some (.inr (.inr (some (11, 0)))), some (.inl a1_), some (.inl a2_), some (.inl a3_), some (.inl (S0_.2.2.1 102 0 (S0_.1 11 0 5).toNat)), none], [.inl (S0_.1 11 0 11), .inl (152 * (S0_.2.2.1 102 0 (S0_.1 11 0 5).toNat)), .inr (.inr (some (105, 0))), .inl 0, .inr (.inr (some (106, 0)))], S0_)) rfl ?_
      refine sm_T_nt (u := none) (S1 := sm_acI S0_ 106 0 105 0 (0 : Int).toNat (152 * (S0_.2.2.1 102 0 (S0_.1 11 0 5).toNat)).toNat (S0_.1 11 0 11).toNat) rfl rfl (nt_acI (sc := sc_) (t := 106) (i := 0) (t' := 105) (i' := 0) (x := 0) (y := 152 * (S0_.2.2.1 102 0 (S0_.1 11 0 5).toNat)) (m := (S0_.1 11 0 11)) (n := 152) (n1 := 6232) rfl rfl (by omega) (by omega) (by omega) (by omega) (by omega)) ?_
      have hIx6_ : gi (sm_acI S0_ 106 0 105 0 (0 : Int).toNat (152 * (S0_.2.2.1 102 0 (S0_.1 11 0 5).toNat)).toNat (S0_.1 11 0 11).toNat) := gi_ac hI_ (by decide) (by decide)
      have hFx7_ : ai_fr (sx_W vw_203) S0_ (sm_acI S0_ 106 0 105 0 (0 : Int).toNat (152 * (S0_.2.2.1 102 0 (S0_.1 11 0 5).toNat)).toNat (S0_.1 11 0 11).toNat) := ai_fr_tr hF_ (fr_ac rfl)
      refine sm_T_go 4 (c1 := (58, [some (.inr (.inr (some (11, 0)))), some (.inl a1_), some (.inl a2_), some (.inl a3_), some (.inl (S0_.2.2.1 102 0 (S0_.1 11 0 5).toNat)), none], [.inl 152, .inl (S0_.2.2.1 102 0 (S0_.1 11 0 5).toNat), .inr (.inr (some (105, 0)))], sm_acI S0_ 106 0 105 0 (0 : Int).toNat (152 * (S0_.2.2.1 102 0 (S0_.1 11 0 5).toNat)).toNat (S0_.1 11 0 11).toNat)) rfl ?_
      refine sm_T_bin (w := 152 * (S0_.2.2.1 102 0 (S0_.1 11 0 5).toNat)) rfl (bi_mul (by omega) (by omega) (by omega)) ?_ -- pc_ 58
      refine sm_T_go 2 (c1 := (63, [some (.inr (.inr (some (11, 0)))), some (.inl a1_), some (.inl a2_), some (.inl a3_), some (.inl (S0_.2.2.1 102 0 (S0_.1 11 0 5).toNat)), none], [.inl (S0_.1 11 0 11), .inl (152 * (S0_.2.2.1 102 0 (S0_.1 11 0 5).toNat)), .inr (.inr (some (105, 0)))], sm_acI S0_ 106 0 105 0 (0 : Int).toNat (152 * (S0_.2.2.1 102 0 (S0_.1 11 0 5).toNat)).toNat (S0_.1 11 0 11).toNat)) rfl ?_
      refine sm_T_bin (w := 152 * (S0_.2.2.1 102 0 (S0_.1 11 0 5).toNat) + (S0_.1 11 0 11)) rfl (bi_add (by omega) (by omega) (by omega)) ?_ -- pc_ 63
      refine sm_T_go 1 (c1 := (65, [some (.inr (.inr (some (11, 0)))), some (.inl a1_), some (.inl a2_), some (.inl a3_), some (.inl (S0_.2.2.1 102 0 (S0_.1 11 0 5).toNat)), none], [.inl a1_, .inl (152 * (S0_.2.2.1 102 0 (S0_.1 11 0 5).toNat) + (S0_.1 11 0 11)), .inr (.inr (some (105, 0)))], sm_acI S0_ 106 0 105 0 (0 : Int).toNat (152 * (S0_.2.2.1 102 0 (S0_.1 11 0 5).toNat)).toNat (S0_.1 11 0 11).toNat)) rfl ?_
      refine sm_T_iast (n := 6232) rfl rfl (by omega) (by omega) ?_
      have hIx8_ : gi (sm_aI (sm_acI S0_ 106 0 105 0 (0 : Int).toNat (152 * (S0_.2.2.1 102 0 (S0_.1 11 0 5).toNat)).toNat (S0_.1 11 0 11).toNat) 105 0 (152 * (S0_.2.2.1 102 0 (S0_.1 11 0 5).toNat) + (S0_.1 11 0 11)).toNat a1_) := gi_aI hIx6_ (show 0 ≤ a1_ ∧ a1_ ≤ 10161 from ⟨by omega, by omega⟩)
      have hFx9_ : ai_fr (sx_W vw_203) S0_ (sm_aI (sm_acI S0_ 106 0 105 0 (0 : Int).toNat (152 * (S0_.2.2.1 102 0 (S0_.1 11 0 5).toNat)).toNat (S0_.1 11 0 11).toNat) 105 0 (152 * (S0_.2.2.1 102 0 (S0_.1 11 0 5).toNat) + (S0_.1 11 0 11)).toNat a1_) := ai_fr_tr hFx7_ (ai_fr_aI rfl)
      refine sm_T_go 6 (c1 := (77, [some (.inr (.inr (some (11, 0)))), some (.inl a1_), some (.inl a2_), some (.inl a3_), some (.inl (S0_.2.2.1 102 0 (S0_.1 11 0 5).toNat)), none], [.inl 1, .inl (S0_.1 11 0 11), .inl (S0_.2.2.1 102 0 (S0_.1 11 0 5).toNat), .inr (.inr (some (104, 0)))], sm_aI (sm_acI S0_ 106 0 105 0 (0 : Int).toNat (152 * (S0_.2.2.1 102 0 (S0_.1 11 0 5).toNat)).toNat (S0_.1 11 0 11).toNat) 105 0 (152 * (S0_.2.2.1 102 0 (S0_.1 11 0 5).toNat) + (S0_.1 11 0 11)).toNat a1_)) rfl ?_
      refine sm_T_bin (w := (S0_.1 11 0 11) + 1) rfl (bi_add (by omega) (by omega) (by omega)) ?_ -- pc_ 77
      refine sm_T_iast (n := 41) rfl rfl (by omega) (by omega) ?_
      have hIx10_ : gi (sm_aI (sm_aI (sm_acI S0_ 106 0 105 0 (0 : Int).toNat (152 * (S0_.2.2.1 102 0 (S0_.1 11 0 5).toNat)).toNat (S0_.1 11 0 11).toNat) 105 0 (152 * (S0_.2.2.1 102 0 (S0_.1 11 0 5).toNat) + (S0_.1 11 0 11)).toNat a1_) 104 0 (S0_.2.2.1 102 0 (S0_.1 11 0 5).toNat).toNat ((S0_.1 11 0 11) + 1)) := gi_aI hIx8_ (show 0 ≤ (S0_.1 11 0 11) + 1 ∧ (S0_.1 11 0 11) + 1 ≤ 152 from ⟨by omega, by omega⟩)
      have hFx11_ : ai_fr (sx_W vw_203) S0_ (sm_aI (sm_aI (sm_acI S0_ 106 0 105 0 (0 : Int).toNat (152 * (S0_.2.2.1 102 0 (S0_.1 11 0 5).toNat)).toNat (S0_.1 11 0 11).toNat) 105 0 (152 * (S0_.2.2.1 102 0 (S0_.1 11 0 5).toNat) + (S0_.1 11 0 11)).toNat a1_) 104 0 (S0_.2.2.1 102 0 (S0_.1 11 0 5).toNat).toNat ((S0_.1 11 0 11) + 1)) := ai_fr_tr hFx9_ (ai_fr_aI rfl)
      refine sm_T_go 5 (c1 := (87, [some (.inr (.inr (some (11, 0)))), some (.inl a1_), some (.inl a2_), some (.inl a3_), some (.inl (S0_.2.2.1 102 0 (S0_.1 11 0 5).toNat)), none], [.inl a3_, .inl a2_, .inl (S0_.2.2.1 102 0 (S0_.1 11 0 5).toNat), .inr (.inr (some (103, 0)))], sm_aI (sm_aI (sm_acI S0_ 106 0 105 0 (0 : Int).toNat (152 * (S0_.2.2.1 102 0 (S0_.1 11 0 5).toNat)).toNat (S0_.1 11 0 11).toNat) 105 0 (152 * (S0_.2.2.1 102 0 (S0_.1 11 0 5).toNat) + (S0_.1 11 0 11)).toNat a1_) 104 0 (S0_.2.2.1 102 0 (S0_.1 11 0 5).toNat).toNat ((S0_.1 11 0 11) + 1))) rfl ?_
      refine sm_T_bin (w := (i_add a2_ a3_)) rfl rfl ?_ -- pc_ 87
      have bx12_ := i_add_r a2_ a3_
      refine sm_T_iast (n := 41) rfl rfl (by omega) (by omega) ?_
      have hIx13_ : gi (sm_aI (sm_aI (sm_aI (sm_acI S0_ 106 0 105 0 (0 : Int).toNat (152 * (S0_.2.2.1 102 0 (S0_.1 11 0 5).toNat)).toNat (S0_.1 11 0 11).toNat) 105 0 (152 * (S0_.2.2.1 102 0 (S0_.1 11 0 5).toNat) + (S0_.1 11 0 11)).toNat a1_) 104 0 (S0_.2.2.1 102 0 (S0_.1 11 0 5).toNat).toNat ((S0_.1 11 0 11) + 1)) 103 0 (S0_.2.2.1 102 0 (S0_.1 11 0 5).toNat).toNat (i_add a2_ a3_)) := gi_aI hIx10_ (show (-2147483648) ≤ (i_add a2_ a3_) ∧ (i_add a2_ a3_) ≤ 2147483647 from ⟨by omega, by omega⟩)
      have hFx14_ : ai_fr (sx_W vw_203) S0_ (sm_aI (sm_aI (sm_aI (sm_acI S0_ 106 0 105 0 (0 : Int).toNat (152 * (S0_.2.2.1 102 0 (S0_.1 11 0 5).toNat)).toNat (S0_.1 11 0 11).toNat) 105 0 (152 * (S0_.2.2.1 102 0 (S0_.1 11 0 5).toNat) + (S0_.1 11 0 11)).toNat a1_) 104 0 (S0_.2.2.1 102 0 (S0_.1 11 0 5).toNat).toNat ((S0_.1 11 0 11) + 1)) 103 0 (S0_.2.2.1 102 0 (S0_.1 11 0 5).toNat).toNat (i_add a2_ a3_)) := ai_fr_tr hFx11_ (ai_fr_aI rfl)
      refine sm_T_go 3 (c1 := (95, [some (.inr (.inr (some (11, 0)))), some (.inl a1_), some (.inl a2_), some (.inl a3_), some (.inl (S0_.2.2.1 102 0 (S0_.1 11 0 5).toNat)), some (.inl (S0_.1 11 0 5))], [], sm_aI (sm_aI (sm_aI (sm_acI S0_ 106 0 105 0 (0 : Int).toNat (152 * (S0_.2.2.1 102 0 (S0_.1 11 0 5).toNat)).toNat (S0_.1 11 0 11).toNat) 105 0 (152 * (S0_.2.2.1 102 0 (S0_.1 11 0 5).toNat) + (S0_.1 11 0 11)).toNat a1_) 104 0 (S0_.2.2.1 102 0 (S0_.1 11 0 5).toNat).toNat ((S0_.1 11 0 11) + 1)) 103 0 (S0_.2.2.1 102 0 (S0_.1 11 0 5).toNat).toNat (i_add a2_ a3_))) rfl ?_
      refine (vl_203 a1_ a2_ a3_ S0_ hp_ ht_ h1_ hz_ _) (S0_.2.2.1 102 0 (S0_.1 11 0 5).toNat) (S0_.1 11 0 5) (sm_aI (sm_aI (sm_aI (sm_acI S0_ 106 0 105 0 (0 : Int).toNat (152 * (S0_.2.2.1 102 0 (S0_.1 11 0 5).toNat)).toNat (S0_.1 11 0 11).toNat) 105 0 (152 * (S0_.2.2.1 102 0 (S0_.1 11 0 5).toNat) + (S0_.1 11 0 11)).toNat a1_) 104 0 (S0_.2.2.1 102 0 (S0_.1 11 0 5).toNat).toNat ((S0_.1 11 0 11) + 1)) 103 0 (S0_.2.2.1 102 0 (S0_.1 11 0 5).toNat).toNat (i_add a2_ a3_)) hIx13_ hFx14_ ⟨?_, ?_, ?_, trivial⟩ (Nat.lt_succ_self _)
      · (simp only [rd_af]; exact ⟨co_.1, co_.2, by show 0 ≤ S0_.1 11 0 5; omega, Int.le_refl _, p40_⟩)
      · obtain ⟨X9_, hX9_⟩ : ∃ X9_, X9_ = (S0_.2.2.1 102 0 (S0_.1 11 0 5).toNat).toNat := ⟨_, rfl⟩
        have r105_ : ∀ i_, ((sm_aI (sm_aI (sm_aI (sm_acI S0_ 106 0 105 0 (0 : Int).toNat (152 * (S0_.2.2.1 102 0 (S0_.1 11 0 5).toNat)).toNat (S0_.1 11 0 11).toNat) 105 0 (152 * (S0_.2.2.1 102 0 (S0_.1 11 0 5).toNat) + (S0_.1 11 0 11)).toNat a1_) 104 0 (S0_.2.2.1 102 0 (S0_.1 11 0 5).toNat).toNat ((S0_.1 11 0 11) + 1)) 103 0 (S0_.2.2.1 102 0 (S0_.1 11 0 5).toNat).toNat (i_add a2_ a3_))).2.2.1 105 0 i_ = if i_ = (152 * (S0_.2.2.1 102 0 (S0_.1 11 0 5).toNat) + (S0_.1 11 0 11)).toNat then a1_ else sm_cp (S0_.2.2.1 106 0) (S0_.2.2.1 105 0) (0 : Int).toNat (152 * (S0_.2.2.1 102 0 (S0_.1 11 0 5).toNat)).toNat (S0_.1 11 0 11).toNat i_ := fun i_ => by rw [rd_ne (by decide), rd_ne (by decide), rd_eq, sm_acI_at]
        have r104_ : ∀ i_, ((sm_aI (sm_aI (sm_aI (sm_acI S0_ 106 0 105 0 (0 : Int).toNat (152 * (S0_.2.2.1 102 0 (S0_.1 11 0 5).toNat)).toNat (S0_.1 11 0 11).toNat) 105 0 (152 * (S0_.2.2.1 102 0 (S0_.1 11 0 5).toNat) + (S0_.1 11 0 11)).toNat a1_) 104 0 (S0_.2.2.1 102 0 (S0_.1 11 0 5).toNat).toNat ((S0_.1 11 0 11) + 1)) 103 0 (S0_.2.2.1 102 0 (S0_.1 11 0 5).toNat).toNat (i_add a2_ a3_))).2.2.1 104 0 i_ = if i_ = (S0_.2.2.1 102 0 (S0_.1 11 0 5).toNat).toNat then (S0_.1 11 0 11) + 1 else S0_.2.2.1 104 0 i_ := fun i_ => by rw [rd_ne (by decide), rd_eq, rd_ne (by decide), sm_acI_ne (by decide)]
        have TW_ := tsl_nw (z'_ := ((sm_aI (sm_aI (sm_aI (sm_acI S0_ 106 0 105 0 (0 : Int).toNat (152 * (S0_.2.2.1 102 0 (S0_.1 11 0 5).toNat)).toNat (S0_.1 11 0 11).toNat) 105 0 (152 * (S0_.2.2.1 102 0 (S0_.1 11 0 5).toNat) + (S0_.1 11 0 11)).toNat a1_) 104 0 (S0_.2.2.1 102 0 (S0_.1 11 0 5).toNat).toNat ((S0_.1 11 0 11) + 1)) 103 0 (S0_.2.2.1 102 0 (S0_.1 11 0 5).toNat).toNat (i_add a2_ a3_))).2.2.1 104 0) (r'_ := ((sm_aI (sm_aI (sm_aI (sm_acI S0_ 106 0 105 0 (0 : Int).toNat (152 * (S0_.2.2.1 102 0 (S0_.1 11 0 5).toNat)).toNat (S0_.1 11 0 11).toNat) 105 0 (152 * (S0_.2.2.1 102 0 (S0_.1 11 0 5).toNat) + (S0_.1 11 0 11)).toNat a1_) 104 0 (S0_.2.2.1 102 0 (S0_.1 11 0 5).toNat).toNat ((S0_.1 11 0 11) + 1)) 103 0 (S0_.2.2.1 102 0 (S0_.1 11 0 5).toNat).toNat (i_add a2_ a3_))).2.2.1 105 0) (tr_ := S0_.2.2.1 106 0) (s_ := X9_) (n_ := (S0_.1 11 0 11)) (a_ := a1_) (by omega) (by rw [r104_, if_pos hX9_]) (fun j_ hj_ => by rw [r105_, if_neg (by omega), cp_at (by omega) (by omega)]; exact congrArg _ (by show 0 + (152 * X9_ + j_ - _) = j_; omega)) (by rw [r105_, if_pos (by omega)]) ht_.1 ht_.2 hz_ h1_.2
        rw [hX9_] at TW_
        exact TW_
      · obtain ⟨X9_, hX9_⟩ : ∃ X9_, X9_ = (S0_.2.2.1 102 0 (S0_.1 11 0 5).toNat).toNat := ⟨_, rfl⟩
        have r105_ : ∀ i_, ((sm_aI (sm_aI (sm_aI (sm_acI S0_ 106 0 105 0 (0 : Int).toNat (152 * (S0_.2.2.1 102 0 (S0_.1 11 0 5).toNat)).toNat (S0_.1 11 0 11).toNat) 105 0 (152 * (S0_.2.2.1 102 0 (S0_.1 11 0 5).toNat) + (S0_.1 11 0 11)).toNat a1_) 104 0 (S0_.2.2.1 102 0 (S0_.1 11 0 5).toNat).toNat ((S0_.1 11 0 11) + 1)) 103 0 (S0_.2.2.1 102 0 (S0_.1 11 0 5).toNat).toNat (i_add a2_ a3_))).2.2.1 105 0 i_ = if i_ = (152 * (S0_.2.2.1 102 0 (S0_.1 11 0 5).toNat) + (S0_.1 11 0 11)).toNat then a1_ else sm_cp (S0_.2.2.1 106 0) (S0_.2.2.1 105 0) (0 : Int).toNat (152 * (S0_.2.2.1 102 0 (S0_.1 11 0 5).toNat)).toNat (S0_.1 11 0 11).toNat i_ := fun i_ => by rw [rd_ne (by decide), rd_ne (by decide), rd_eq, sm_acI_at]
        have r104_ : ∀ i_, ((sm_aI (sm_aI (sm_aI (sm_acI S0_ 106 0 105 0 (0 : Int).toNat (152 * (S0_.2.2.1 102 0 (S0_.1 11 0 5).toNat)).toNat (S0_.1 11 0 11).toNat) 105 0 (152 * (S0_.2.2.1 102 0 (S0_.1 11 0 5).toNat) + (S0_.1 11 0 11)).toNat a1_) 104 0 (S0_.2.2.1 102 0 (S0_.1 11 0 5).toNat).toNat ((S0_.1 11 0 11) + 1)) 103 0 (S0_.2.2.1 102 0 (S0_.1 11 0 5).toNat).toNat (i_add a2_ a3_))).2.2.1 104 0 i_ = if i_ = (S0_.2.2.1 102 0 (S0_.1 11 0 5).toNat).toNat then (S0_.1 11 0 11) + 1 else S0_.2.2.1 104 0 i_ := fun i_ => by rw [rd_ne (by decide), rd_eq, rd_ne (by decide), sm_acI_ne (by decide)]
        have TW_ := tsl_nw (z'_ := ((sm_aI (sm_aI (sm_aI (sm_acI S0_ 106 0 105 0 (0 : Int).toNat (152 * (S0_.2.2.1 102 0 (S0_.1 11 0 5).toNat)).toNat (S0_.1 11 0 11).toNat) 105 0 (152 * (S0_.2.2.1 102 0 (S0_.1 11 0 5).toNat) + (S0_.1 11 0 11)).toNat a1_) 104 0 (S0_.2.2.1 102 0 (S0_.1 11 0 5).toNat).toNat ((S0_.1 11 0 11) + 1)) 103 0 (S0_.2.2.1 102 0 (S0_.1 11 0 5).toNat).toNat (i_add a2_ a3_))).2.2.1 104 0) (r'_ := ((sm_aI (sm_aI (sm_aI (sm_acI S0_ 106 0 105 0 (0 : Int).toNat (152 * (S0_.2.2.1 102 0 (S0_.1 11 0 5).toNat)).toNat (S0_.1 11 0 11).toNat) 105 0 (152 * (S0_.2.2.1 102 0 (S0_.1 11 0 5).toNat) + (S0_.1 11 0 11)).toNat a1_) 104 0 (S0_.2.2.1 102 0 (S0_.1 11 0 5).toNat).toNat ((S0_.1 11 0 11) + 1)) 103 0 (S0_.2.2.1 102 0 (S0_.1 11 0 5).toNat).toNat (i_add a2_ a3_))).2.2.1 105 0) (tr_ := S0_.2.2.1 106 0) (s_ := X9_) (n_ := (S0_.1 11 0 11)) (a_ := a1_) (by omega) (by rw [r104_, if_pos hX9_]) (fun j_ hj_ => by rw [r105_, if_neg (by omega), cp_at (by omega) (by omega)]; exact congrArg _ (by show 0 + (152 * X9_ + j_ - _) = j_; omega)) (by rw [r105_, if_pos (by omega)]) ht_.1 ht_.2 hz_ h1_.2
        rw [hX9_] at TW_
        intro i_ hi_ hn_
        have TZ_ : tsl (S0_.2.2.1 104 0) (S0_.2.2.1 105 0) (S0_.2.2.1 102 0 i_).toNat := hp_.2 i_ hi_ hn_
        have o9_ : ((sm_aI (sm_aI (sm_aI (sm_acI S0_ 106 0 105 0 (0 : Int).toNat (152 * (S0_.2.2.1 102 0 (S0_.1 11 0 5).toNat)).toNat (S0_.1 11 0 11).toNat) 105 0 (152 * (S0_.2.2.1 102 0 (S0_.1 11 0 5).toNat) + (S0_.1 11 0 11)).toNat a1_) 104 0 (S0_.2.2.1 102 0 (S0_.1 11 0 5).toNat).toNat ((S0_.1 11 0 11) + 1)) 103 0 (S0_.2.2.1 102 0 (S0_.1 11 0 5).toNat).toNat (i_add a2_ a3_))).2.2.1 102 0 i_ = S0_.2.2.1 102 0 i_ := by rw [rd_ne (by decide), rd_ne (by decide), rd_ne (by decide), sm_acI_ne (by decide)]
        rw [o9_]
        by_cases y9_ : (S0_.2.2.1 102 0 i_).toNat = (S0_.2.2.1 102 0 (S0_.1 11 0 5).toNat).toNat
        · rw [y9_]; exact TW_
        · refine tsl_ot TZ_ y9_ (fun k_ hk_ => by rw [r104_, if_neg hk_]) (fun k_ hk_ => ?_)
          rw [r105_, if_neg (by omega), cp_ot (by omega)]
    · have cx3_ : ¬ ((S0_.1 11 0 11) < 152) := of_decide_eq_false cx3_
      refine sm_T_rv rfl ⟨_, _, rfl, rfl, hI_, hF_, ?_⟩
      exact hp_
