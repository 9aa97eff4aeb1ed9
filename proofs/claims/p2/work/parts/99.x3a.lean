/-! the class reader: settling, openings; written by wip/p55/gen/vg -/
/-! Reader.applyFrom -/
def vw_148 : sx_Wl := ([(7, 2), (7, 14), (7, 16), (10, 6), (10, 7)], [74, 84], [])
def vq_148 (ls_ : Int) (md_ : Bool) (o_ : List (Int × Nat)) (g_ : List Int) (c_ : List Int) (S0_ : sm_S) (u_ : Option sm_V) (S1_ : sm_S) : Prop := u_ = none ∧ gi S1_ ∧ ai_fr (sx_W vw_148) S0_ S1_ ∧ (∃ s_, p_se md_ ls_ o_ g_ c_ = .inr s_ ∧ xs md_ s_.1 s_.2.1 s_.2.2 S1_)
def vx_148 (ls_ : Int) (md_ : Bool) (o_ : List (Int × Nat)) (g_ : List Int) (c_ : List Int) (S0_ : sm_S) (S1_ : sm_S) : Prop := gi S1_ ∧ ai_fr (sx_W vw_148) S0_ S1_ ∧ (∃ e_, p_se md_ ls_ o_ g_ c_ = .inl e_ ∧ ter S1_ e_)
set_option maxHeartbeats 400000 in
set_option maxRecDepth 20000 in
theorem vl_148 {sc_ : Nat × (Nat → Int)} (ls_ : Int) (md_ : Bool) (o_ : List (Int × Nat)) (g_ : List Int) (c_ : List Int) (S0_ : sm_S) (hx_ : xs md_ o_ g_ c_ S0_) (hs_ : s_ok md_ 1 (o_, g_, c_)) (hl_ : 1 ≤ ls_) (hc_ : c_.length + o_.length ≤ 65535) : ∀ nn_ : Nat, (∀ (i_ : Int) (S_ : sm_S), gi S_ → ai_fr (sx_W vw_148) S0_ S_ → ((0 ≤ i_ ∧ i_ ≤ 6) ∧ (∃ o1_ g1_ c1_, p_se md_ ls_ o_ g_ c_ = p_se md_ ls_ o1_ g1_ c1_ ∧ xs md_ o1_ g1_ c1_ S_ ∧ s_ok md_ 1 (o1_, g1_, c1_) ∧ c1_.length + o1_.length ≤ 65535 ∧ o_tp o1_ ≤ 5 - i_) ∧ True) → ((6 - i_).toNat) < nn_ → sm_T (mt_P sc_) 2 148 (2, [some (.inr (.inr (some (7, 0)))), some (.inl ls_), some (.inl i_), none, none, none], [], S_) (fun r_ => (∃ u_ S1_, r_ = (.inl u_, S1_, 0) ∧ vq_148 ls_ md_ o_ g_ c_ S0_ u_ S1_) ∨ ∃ S1_, r_ = (.inr 2, S1_, 1) ∧ vx_148 ls_ md_ o_ g_ c_ S0_ S1_)) := by
  intro nn_
  induction nn_ with
  | zero => exact fun _ _ _ _ _ h_ => absurd h_ (Nat.not_lt_zero _)
  | succ nn_ ih_ =>
    rintro i_ S_ hI_ hF_ ⟨h0_, h1_, -⟩ hm_
    obtain ⟨o1_, g1_, c1_, y1_, y2_, y3_, y4_, y5_⟩ := h1_
    refine sm_T_go 2 (c1 := (4, [some (.inr (.inr (some (7, 0)))), some (.inl ls_), some (.inl i_), none, none, none], [.inl 5, .inl i_], S_)) rfl ?_
    refine sm_T_br (a := 4) (z := 185) rfl (fun cx1_ => ?_) (fun cx1_ => ?_)
    · have cx1_ : 5 < i_ := of_decide_eq_true cx1_
      refine sm_T_rv rfl (Or.inl ⟨_, _, rfl, rfl, hI_, hF_, ?_⟩)
      exact ⟨(o1_, g1_, c1_), by rw [y1_]; exact p_se_st (by omega), y2_⟩
    · have cx1_ : ¬ (5 < i_) := of_decide_eq_false cx1_
      refine sm_T_go 1 (c1 := (8, [some (.inr (.inr (some (7, 0)))), some (.inl ls_), some (.inl i_), none, none, none], [.inr (.inr (some (7, 0)))], S_)) rfl ?_
      refine sm_T_cal (d1 := 0) (Q1 := vq_147 md_ o1_ g1_ c1_ S_) rfl rfl (by decide) (vc_147 md_ o1_ g1_ c1_ S_ hI_ (by exact y2_)) (fun u_ Sx2_ px5_ => ?_)
      obtain ⟨rfl, vx7_, rfl, px5_⟩ := px5_
      have e8_ := px5_
      refine sm_T_go 1 (c1 := (12, [some (.inr (.inr (some (7, 0)))), some (.inl ls_), some (.inl i_), none, none, none], [.inl ls_, .inl vx7_], S_)) rfl ?_
      refine sm_T_br (a := 2) (z := 177) rfl (fun cx8_ => ?_) (fun cx8_ => ?_)
      · have cx8_ : vx7_ < ls_ := of_decide_eq_true cx8_
        refine sm_T_rv rfl (Or.inl ⟨_, _, rfl, rfl, hI_, hF_, ?_⟩)
        exact ⟨(o1_, g1_, c1_), by rw [y1_]; exact p_se_st (by omega), y2_⟩
      · have cx8_ : ¬ (vx7_ < ls_) := of_decide_eq_false cx8_
        obtain ⟨k1_, t1_, o2_, rfl, e9_⟩ := o_tp_c (o_ := o1_) (by omega)
        obtain ⟨b1_, a1_, g2_, rfl⟩ := s_ok_2 (by omega) y3_
        obtain ⟨x1_, x2_, x3_, x4_, x5_, x6_, x7_⟩ := id y2_
        have hlt_ := o_ok_lt y3_.1 (by omega)
        have z1_ : S_.1 7 0 14 = (o2_.length : Int) + 1 := by rw [x1_]; simp
        have z2_ : S_.1 7 0 16 = (g2_.length : Int) + 2 := by rw [x2_]; simp only [List.length_cons]; push_cast; omega
        have l1_ : (S_.1 7 0 14 - 1).toNat = (o2_.map fun x_ => x_.1).length := by rw [List.length_map]; omega
        have l2_ : (S_.1 7 0 14 - 1).toNat = (o2_.map fun x_ => (x_.2 : Int)).length := by rw [List.length_map]; omega
        have l3_ : (S_.1 7 0 16 - 1).toNat = (a1_ :: g2_).length := by simp only [List.length_cons]; omega
        have l4_ : (S_.1 7 0 16 - 2).toNat = g2_.length := by omega
        have e3_ : S_.2.2.1 82 0 (S_.1 7 0 14 - 1).toNat = k1_ := by rw [l1_]; exact x3_.1
        have e4_ : S_.2.2.1 83 0 (S_.1 7 0 14 - 1).toNat = (t1_ : Int) := by rw [l2_]; exact x4_.1
        have e5_ : S_.2.2.1 84 0 (S_.1 7 0 16 - 1).toNat = b1_ := by rw [l3_]; exact x5_.1
        have e6_ : S_.2.2.1 84 0 (S_.1 7 0 16 - 2).toNat = a1_ := by rw [l4_]; exact x5_.2.1
        have bx9_ : 0 ≤ S_.1 7 0 16 ∧ S_.1 7 0 16 ≤ 488 := hI_.1 7 0 16 rfl
        refine sm_T_go 3 (c1 := (20, [some (.inr (.inr (some (7, 0)))), some (.inl ls_), some (.inl i_), none, none, none], [.inl 1, .inl (S_.1 7 0 16)], S_)) rfl ?_
        refine sm_T_br (a := 5) (z := 169) rfl (fun cx10_ => ?_) (fun cx10_ => ?_)
        · have cx10_ : (S_.1 7 0 16) ≤ 1 := of_decide_eq_true cx10_
          exfalso; omega
        · have cx10_ : ¬ ((S_.1 7 0 16) ≤ 1) := of_decide_eq_false cx10_
          have bx11_ : 0 ≤ S_.1 7 0 14 ∧ S_.1 7 0 14 ≤ 488 := hI_.1 7 0 14 rfl
          refine sm_T_go 4 (c1 := (29, [some (.inr (.inr (some (7, 0)))), some (.inl ls_), some (.inl i_), none, none, none], [.inl 1, .inl (S_.1 7 0 14), .inr (.inr (some (7, 0)))], S_)) rfl ?_
          refine sm_T_bin (w := (S_.1 7 0 14) - 1) rfl (bi_sub (by omega) (by omega) (by omega)) ?_
          have hIx12_ : gi (sm_pI S_ 7 0 14 ((S_.1 7 0 14) - 1)) := gi_pI hI_ (show 0 ≤ (S_.1 7 0 14) - 1 ∧ (S_.1 7 0 14) - 1 ≤ 488 from ⟨by omega, by omega⟩)
          have hFx13_ : ai_fr (sx_W vw_148) S0_ (sm_pI S_ 7 0 14 ((S_.1 7 0 14) - 1)) := ai_fr_tr hF_ (ai_fr_pI rfl)
          refine sm_T_go 5 (c1 := (39, [some (.inr (.inr (some (7, 0)))), some (.inl ls_), some (.inl i_), none, none, none], [.inl 1, .inl (S_.1 7 0 16), .inr (.inr (some (7, 0)))], sm_pI S_ 7 0 14 ((S_.1 7 0 14) - 1))) rfl ?_
          refine sm_T_bin (w := (S_.1 7 0 16) - 1) rfl (bi_sub (by omega) (by omega) (by omega)) ?_
          have hIx14_ : gi (sm_pI (sm_pI S_ 7 0 14 ((S_.1 7 0 14) - 1)) 7 0 16 ((S_.1 7 0 16) - 1)) := gi_pI hIx12_ (show 0 ≤ (S_.1 7 0 16) - 1 ∧ (S_.1 7 0 16) - 1 ≤ 488 from ⟨by omega, by omega⟩)
          have hFx15_ : ai_fr (sx_W vw_148) S0_ (sm_pI (sm_pI S_ 7 0 14 ((S_.1 7 0 14) - 1)) 7 0 16 ((S_.1 7 0 16) - 1)) := ai_fr_tr hFx13_ (ai_fr_pI rfl)
          refine sm_T_go 5 (c1 := (51, [some (.inr (.inr (some (7, 0)))), some (.inl ls_), some (.inl i_), none, none, none], [.inl ((S_.1 7 0 14) - 1), .inr (.inr (some (82, 0)))], sm_pI (sm_pI S_ 7 0 14 ((S_.1 7 0 14) - 1)) 7 0 16 ((S_.1 7 0 16) - 1))) rfl ?_
          refine sm_T_iald (n := 488) rfl rfl (by omega) (by omega) ?_
          have bx16_ : (-4) ≤ S_.2.2.1 82 0 ((S_.1 7 0 14) - 1).toNat ∧ S_.2.2.1 82 0 ((S_.1 7 0 14) - 1).toNat ≤ 5 := hI_.2 82 0 _
          refine sm_T_go 5 (c1 := (61, [some (.inr (.inr (some (7, 0)))), some (.inl ls_), some (.inl i_), some (.inl (S_.2.2.1 82 0 ((S_.1 7 0 14) - 1).toNat)), none, none], [.inl ((S_.1 7 0 16) - 1), .inr (.inr (some (84, 0)))], sm_pI (sm_pI S_ 7 0 14 ((S_.1 7 0 14) - 1)) 7 0 16 ((S_.1 7 0 16) - 1))) rfl ?_
          refine sm_T_iald (n := 488) rfl rfl (by omega) (by omega) ?_
          have bx17_ : 0 ≤ S_.2.2.1 84 0 ((S_.1 7 0 16) - 1).toNat ∧ S_.2.2.1 84 0 ((S_.1 7 0 16) - 1).toNat ≤ 255 := hI_.2 84 0 _
          refine sm_T_go 6 (c1 := (73, [some (.inr (.inr (some (7, 0)))), some (.inl ls_), some (.inl i_), some (.inl (S_.2.2.1 82 0 ((S_.1 7 0 14) - 1).toNat)), some (.inl (S_.2.2.1 84 0 ((S_.1 7 0 16) - 1).toNat)), none], [.inl 1, .inl ((S_.1 7 0 16) - 1), .inr (.inr (some (84, 0)))], sm_pI (sm_pI S_ 7 0 14 ((S_.1 7 0 14) - 1)) 7 0 16 ((S_.1 7 0 16) - 1))) rfl ?_
          refine sm_T_bin (w := (S_.1 7 0 16) - 2) rfl (bi_sub (by omega) (by omega) (by omega)) ?_
          refine sm_T_iald (n := 488) rfl rfl (by omega) (by omega) ?_
          have bx18_ : 0 ≤ S_.2.2.1 84 0 ((S_.1 7 0 16) - 2).toNat ∧ S_.2.2.1 84 0 ((S_.1 7 0 16) - 2).toNat ≤ 255 := hI_.2 84 0 _
          refine sm_T_go 2 (c1 := (78, [some (.inr (.inr (some (7, 0)))), some (.inl ls_), some (.inl i_), some (.inl (S_.2.2.1 82 0 ((S_.1 7 0 14) - 1).toNat)), some (.inl (S_.2.2.1 84 0 ((S_.1 7 0 16) - 1).toNat)), some (.inl (S_.2.2.1 84 0 ((S_.1 7 0 16) - 2).toNat))], [.inr (.inr (some (7, 0)))], sm_pI (sm_pI S_ 7 0 14 ((S_.1 7 0 14) - 1)) 7 0 16 ((S_.1 7 0 16) - 1))) rfl ?_
          cases qx19_ : S_.2.1 7 0 11 with
          | none =>
            refine sm_T_gr rfl rfl qx19_ ?_
            have hmd_ : md_ = false := xs_n y2_ qx19_
            subst hmd_
            refine sm_T_go 3 (c1 := (133, [some (.inr (.inr (some (7, 0)))), some (.inl ls_), some (.inl i_), some (.inl (S_.2.2.1 82 0 ((S_.1 7 0 14) - 1).toNat)), some (.inl (S_.2.2.1 84 0 ((S_.1 7 0 16) - 1).toNat)), some (.inl (S_.2.2.1 84 0 ((S_.1 7 0 16) - 2).toNat))], [.inl (S_.2.2.1 84 0 ((S_.1 7 0 16) - 1).toNat), .inl (S_.2.2.1 84 0 ((S_.1 7 0 16) - 2).toNat)], sm_pI (sm_pI S_ 7 0 14 ((S_.1 7 0 14) - 1)) 7 0 16 ((S_.1 7 0 16) - 1))) rfl ?_
            refine sm_T_br (a := 0) (z := 21) rfl (fun cx21_ => ?_) (fun cx21_ => ?_)
            · have cx21_ : (S_.2.2.1 84 0 ((S_.1 7 0 16) - 2).toNat) = (S_.2.2.1 84 0 ((S_.1 7 0 16) - 1).toNat) := of_decide_eq_true cx21_
              refine sm_T_go 5 (c1 := (163, [some (.inr (.inr (some (7, 0)))), some (.inl ls_), some (.inl i_), some (.inl (S_.2.2.1 82 0 ((S_.1 7 0 14) - 1).toNat)), some (.inl (S_.2.2.1 84 0 ((S_.1 7 0 16) - 1).toNat)), some (.inl (S_.2.2.1 84 0 ((S_.1 7 0 16) - 2).toNat))], [.inl 1, .inl ((S_.1 7 0 16) - 1), .inr (.inr (some (84, 0)))], sm_pI (sm_pI S_ 7 0 14 ((S_.1 7 0 14) - 1)) 7 0 16 ((S_.1 7 0 16) - 1))) rfl ?_
              refine sm_T_bin (w := (S_.1 7 0 16) - 2) rfl (bi_sub (by omega) (by omega) (by omega)) ?_
              refine sm_T_go 2 (c1 := (166, [some (.inr (.inr (some (7, 0)))), some (.inl ls_), some (.inl i_), some (.inl (S_.2.2.1 82 0 ((S_.1 7 0 14) - 1).toNat)), some (.inl (S_.2.2.1 84 0 ((S_.1 7 0 16) - 1).toNat)), some (.inl (S_.2.2.1 84 0 ((S_.1 7 0 16) - 2).toNat))], [.inl 4, .inl (S_.2.2.1 82 0 ((S_.1 7 0 14) - 1).toNat), .inl ((S_.1 7 0 16) - 2), .inr (.inr (some (84, 0)))], sm_pI (sm_pI S_ 7 0 14 ((S_.1 7 0 14) - 1)) 7 0 16 ((S_.1 7 0 16) - 1))) rfl ?_
              refine sm_T_br (a := 1) (z := 7) rfl (fun cx22_ => ?_) (fun cx22_ => ?_)
              · have cx22_ : (S_.2.2.1 82 0 ((S_.1 7 0 14) - 1).toNat) ≠ 4 := of_decide_eq_true cx22_
                refine sm_T_go 1 (c1 := (175, [some (.inr (.inr (some (7, 0)))), some (.inl ls_), some (.inl i_), some (.inl (S_.2.2.1 82 0 ((S_.1 7 0 14) - 1).toNat)), some (.inl (S_.2.2.1 84 0 ((S_.1 7 0 16) - 1).toNat)), some (.inl (S_.2.2.1 84 0 ((S_.1 7 0 16) - 2).toNat))], [.inl (S_.2.2.1 84 0 ((S_.1 7 0 16) - 2).toNat), .inl ((S_.1 7 0 16) - 2), .inr (.inr (some (84, 0)))], sm_pI (sm_pI S_ 7 0 14 ((S_.1 7 0 14) - 1)) 7 0 16 ((S_.1 7 0 16) - 1))) rfl ?_
                refine sm_T_iast (n := 488) rfl rfl (by omega) (by omega) ?_
                have hIx23_ : gi (sm_aI (sm_pI (sm_pI S_ 7 0 14 ((S_.1 7 0 14) - 1)) 7 0 16 ((S_.1 7 0 16) - 1)) 84 0 ((S_.1 7 0 16) - 2).toNat (S_.2.2.1 84 0 ((S_.1 7 0 16) - 2).toNat)) := gi_aI hIx14_ (show 0 ≤ (S_.2.2.1 84 0 ((S_.1 7 0 16) - 2).toNat) ∧ (S_.2.2.1 84 0 ((S_.1 7 0 16) - 2).toNat) ≤ 255 from ⟨by omega, by omega⟩)
                have hFx24_ : ai_fr (sx_W vw_148) S0_ (sm_aI (sm_pI (sm_pI S_ 7 0 14 ((S_.1 7 0 14) - 1)) 7 0 16 ((S_.1 7 0 16) - 1)) 84 0 ((S_.1 7 0 16) - 2).toNat (S_.2.2.1 84 0 ((S_.1 7 0 16) - 2).toNat)) := ai_fr_tr hFx15_ (ai_fr_aI rfl)
                refine sm_T_go 4 (c1 := (180, [some (.inr (.inr (some (7, 0)))), some (.inl ls_), some (.inl i_), some (.inl (S_.2.2.1 82 0 ((S_.1 7 0 14) - 1).toNat)), some (.inl (S_.2.2.1 84 0 ((S_.1 7 0 16) - 1).toNat)), some (.inl (S_.2.2.1 84 0 ((S_.1 7 0 16) - 2).toNat))], [.inl 0, .inl 0, .inl (S_.2.2.1 82 0 ((S_.1 7 0 14) - 1).toNat), .inr (.inr (some (7, 0)))], sm_aI (sm_pI (sm_pI S_ 7 0 14 ((S_.1 7 0 14) - 1)) 7 0 16 ((S_.1 7 0 16) - 1)) 84 0 ((S_.1 7 0 16) - 2).toNat (S_.2.2.1 84 0 ((S_.1 7 0 16) - 2).toNat))) rfl ?_
                refine sm_T_cal (d1 := 0) (Q1 := vq_140 (S_.2.2.1 82 0 ((S_.1 7 0 14) - 1).toNat) 0 0 o2_ ((if k1_ = 4 then 1 else a1_) :: g2_) c1_ (sm_aI (sm_pI (sm_pI S_ 7 0 14 ((S_.1 7 0 14) - 1)) 7 0 16 ((S_.1 7 0 16) - 1)) 84 0 ((S_.1 7 0 16) - 2).toNat (S_.2.2.1 84 0 ((S_.1 7 0 16) - 2).toNat))) rfl rfl (by decide) (vc_140 (S_.2.2.1 82 0 ((S_.1 7 0 14) - 1).toNat) 0 0 o2_ ((if k1_ = 4 then 1 else a1_) :: g2_) c1_ (sm_aI (sm_pI (sm_pI S_ 7 0 14 ((S_.1 7 0 14) - 1)) 7 0 16 ((S_.1 7 0 16) - 1)) 84 0 ((S_.1 7 0 16) - 2).toNat (S_.2.2.1 84 0 ((S_.1 7 0 16) - 2).toNat)) hIx23_ (by refine ⟨?_, ?_, stk_ot x3_.2 (by decide), stk_ot x4_.2 (by decide), stk_pu l4_ ?_ x5_.2.2, x6_, fun z_ => ⟨(x7_ z_).1, stk_ot (x7_ z_).2 (by decide)⟩⟩; ((try simp only [rd_eq, rd_ne, rf_eq, rf_nk, rf_nt, rd_fa, rd_af, rd_fl, rd_al, rd_lf, rd_la, rd_leq, rd_lne, rd_fr, rd_ar, ne_eq, Nat.reduceEqDiff, not_false_eq_true]); omega); ((try simp only [rd_eq, rd_ne, rf_eq, rf_nk, rf_nt, rd_fa, rd_af, rd_fl, rd_al, rd_lf, rd_la, rd_leq, rd_lne, rd_fr, rd_ar, ne_eq, Nat.reduceEqDiff, not_false_eq_true]); simp only [List.length_cons]; push_cast; omega); (first | (rw [if_pos (by omega)]) | (rw [if_neg (by omega)]; exact e6_))) (by omega) (by decide) (by decide) (by simp only [List.length_cons] at y4_; omega)) (fun u_ Sx25_ px28_ => ?_)
                obtain ⟨rfl, hIx26_, hFx27_, px28_⟩ := px28_
                have hFx29_ : ai_fr (sx_W vw_148) S0_ Sx25_ := ai_fr_tr hFx24_ (fr_le hFx27_ rfl)
                have e180_ := px28_
                rw [cw_0, e3_] at e180_
                refine sm_T_inc (a := 2) (z := 1) (v := i_) (w := i_ + 1) rfl rfl (by omega) (by omega) (by omega) ?_
                refine sm_T_go 1 (c1 := (2, [some (.inr (.inr (some (7, 0)))), some (.inl ls_), some (.inl (i_ + 1)), some (.inl (S_.2.2.1 82 0 ((S_.1 7 0 14) - 1).toNat)), some (.inl (S_.2.2.1 84 0 ((S_.1 7 0 16) - 1).toNat)), some (.inl (S_.2.2.1 84 0 ((S_.1 7 0 16) - 2).toNat))], [], Sx25_)) rfl ?_
                refine sm_T_wk [some (.inr (.inr (some (7, 0)))), some (.inl ls_), some (.inl (i_ + 1)), none, none, none] (by exact ⟨rfl, rfl, rfl, trivial⟩) ?_
                refine ih_ (i_ + 1) Sx25_ hIx26_ hFx29_ ⟨?_, ?_, trivial⟩ ?_
                · omega
                · refine ⟨o2_, (if k1_ = 4 then 1 else a1_) :: g2_, k1_ :: c1_, ?_, e180_, ?_, ?_, ?_⟩
                  · rw [y1_]; exact p_se_f rfl (by omega) (by omega)
                  · exact s_ok_ap (by omega) (by split <;> omega) y3_
                  · simp only [List.length_cons] at y4_ ⊢; omega
                  · omega
                · omega
              · have cx22_ : ¬ ((S_.2.2.1 82 0 ((S_.1 7 0 14) - 1).toNat) ≠ 4) := of_decide_eq_false cx22_
                refine sm_T_go 2 (c1 := (175, [some (.inr (.inr (some (7, 0)))), some (.inl ls_), some (.inl i_), some (.inl (S_.2.2.1 82 0 ((S_.1 7 0 14) - 1).toNat)), some (.inl (S_.2.2.1 84 0 ((S_.1 7 0 16) - 1).toNat)), some (.inl (S_.2.2.1 84 0 ((S_.1 7 0 16) - 2).toNat))], [.inl 1, .inl ((S_.1 7 0 16) - 2), .inr (.inr (some (84, 0)))], sm_pI (sm_pI S_ 7 0 14 ((S_.1 7 0 14) - 1)) 7 0 16 ((S_.1 7 0 16) - 1))) rfl ?_
                refine sm_T_iast (n := 488) rfl rfl (by omega) (by omega) ?_
                have hIx30_ : gi (sm_aI (sm_pI (sm_pI S_ 7 0 14 ((S_.1 7 0 14) - 1)) 7 0 16 ((S_.1 7 0 16) - 1)) 84 0 ((S_.1 7 0 16) - 2).toNat 1) := gi_aI hIx14_ (show 0 ≤ 1 ∧ 1 ≤ 255 from ⟨by omega, by omega⟩)
                have hFx31_ : ai_fr (sx_W vw_148) S0_ (sm_aI (sm_pI (sm_pI S_ 7 0 14 ((S_.1 7 0 14) - 1)) 7 0 16 ((S_.1 7 0 16) - 1)) 84 0 ((S_.1 7 0 16) - 2).toNat 1) := ai_fr_tr hFx15_ (ai_fr_aI rfl)
                refine sm_T_go 4 (c1 := (180, [some (.inr (.inr (some (7, 0)))), some (.inl ls_), some (.inl i_), some (.inl (S_.2.2.1 82 0 ((S_.1 7 0 14) - 1).toNat)), some (.inl (S_.2.2.1 84 0 ((S_.1 7 0 16) - 1).toNat)), some (.inl (S_.2.2.1 84 0 ((S_.1 7 0 16) - 2).toNat))], [.inl 0, .inl 0, .inl (S_.2.2.1 82 0 ((S_.1 7 0 14) - 1).toNat), .inr (.inr (some (7, 0)))], sm_aI (sm_pI (sm_pI S_ 7 0 14 ((S_.1 7 0 14) - 1)) 7 0 16 ((S_.1 7 0 16) - 1)) 84 0 ((S_.1 7 0 16) - 2).toNat 1)) rfl ?_
                refine sm_T_cal (d1 := 0) (Q1 := vq_140 (S_.2.2.1 82 0 ((S_.1 7 0 14) - 1).toNat) 0 0 o2_ ((if k1_ = 4 then 1 else a1_) :: g2_) c1_ (sm_aI (sm_pI (sm_pI S_ 7 0 14 ((S_.1 7 0 14) - 1)) 7 0 16 ((S_.1 7 0 16) - 1)) 84 0 ((S_.1 7 0 16) - 2).toNat 1)) rfl rfl (by decide) (vc_140 (S_.2.2.1 82 0 ((S_.1 7 0 14) - 1).toNat) 0 0 o2_ ((if k1_ = 4 then 1 else a1_) :: g2_) c1_ (sm_aI (sm_pI (sm_pI S_ 7 0 14 ((S_.1 7 0 14) - 1)) 7 0 16 ((S_.1 7 0 16) - 1)) 84 0 ((S_.1 7 0 16) - 2).toNat 1) hIx30_ (by refine ⟨?_, ?_, stk_ot x3_.2 (by decide), stk_ot x4_.2 (by decide), stk_pu l4_ ?_ x5_.2.2, x6_, fun z_ => ⟨(x7_ z_).1, stk_ot (x7_ z_).2 (by decide)⟩⟩; ((try simp only [rd_eq, rd_ne, rf_eq, rf_nk, rf_nt, rd_fa, rd_af, rd_fl, rd_al, rd_lf, rd_la, rd_leq, rd_lne, rd_fr, rd_ar, ne_eq, Nat.reduceEqDiff, not_false_eq_true]); omega); ((try simp only [rd_eq, rd_ne, rf_eq, rf_nk, rf_nt, rd_fa, rd_af, rd_fl, rd_al, rd_lf, rd_la, rd_leq, rd_lne, rd_fr, rd_ar, ne_eq, Nat.reduceEqDiff, not_false_eq_true]); simp only [List.length_cons]; push_cast; omega); (first | (rw [if_pos (by omega)]) | (rw [if_neg (by omega)]; exact e6_))) (by omega) (by decide) (by decide) (by simp only [List.length_cons] at y4_; omega)) (fun u_ Sx32_ px35_ => ?_)
                obtain ⟨rfl, hIx33_, hFx34_, px35_⟩ := px35_
                have hFx36_ : ai_fr (sx_W vw_148) S0_ Sx32_ := ai_fr_tr hFx31_ (fr_le hFx34_ rfl)
                have e180_ := px35_
                rw [cw_0, e3_] at e180_
                refine sm_T_inc (a := 2) (z := 1) (v := i_) (w := i_ + 1) rfl rfl (by omega) (by omega) (by omega) ?_
                refine sm_T_go 1 (c1 := (2, [some (.inr (.inr (some (7, 0)))), some (.inl ls_), some (.inl (i_ + 1)), some (.inl (S_.2.2.1 82 0 ((S_.1 7 0 14) - 1).toNat)), some (.inl (S_.2.2.1 84 0 ((S_.1 7 0 16) - 1).toNat)), some (.inl (S_.2.2.1 84 0 ((S_.1 7 0 16) - 2).toNat))], [], Sx32_)) rfl ?_
                refine sm_T_wk [some (.inr (.inr (some (7, 0)))), some (.inl ls_), some (.inl (i_ + 1)), none, none, none] (by exact ⟨rfl, rfl, rfl, trivial⟩) ?_
                refine ih_ (i_ + 1) Sx32_ hIx33_ hFx36_ ⟨?_, ?_, trivial⟩ ?_
                · omega
                · refine ⟨o2_, (if k1_ = 4 then 1 else a1_) :: g2_, k1_ :: c1_, ?_, e180_, ?_, ?_, ?_⟩
                  · rw [y1_]; exact p_se_f rfl (by omega) (by omega)
                  · exact s_ok_ap (by omega) (by split <;> omega) y3_
                  · simp only [List.length_cons] at y4_ ⊢; omega
                  · omega
                · omega
            · have cx21_ : ¬ ((S_.2.2.1 84 0 ((S_.1 7 0 16) - 2).toNat) = (S_.2.2.1 84 0 ((S_.1 7 0 16) - 1).toNat)) := of_decide_eq_false cx21_
              refine sm_T_go 7 (c1 := (150, [some (.inr (.inr (some (7, 0)))), some (.inl ls_), some (.inl i_), some (.inl (S_.2.2.1 82 0 ((S_.1 7 0 14) - 1).toNat)), some (.inl (S_.2.2.1 84 0 ((S_.1 7 0 16) - 1).toNat)), some (.inl (S_.2.2.1 84 0 ((S_.1 7 0 16) - 2).toNat))], [.inl ((S_.1 7 0 14) - 1), .inr (.inr (some (83, 0))), .inl 13, .inr (.inr (some (10, 0)))], sm_pI (sm_pI S_ 7 0 14 ((S_.1 7 0 14) - 1)) 7 0 16 ((S_.1 7 0 16) - 1))) rfl ?_
              refine sm_T_iald (n := 488) rfl rfl (by omega) (by omega) ?_
              have bx37_ : 0 ≤ S_.2.2.1 83 0 ((S_.1 7 0 14) - 1).toNat ∧ S_.2.2.1 83 0 ((S_.1 7 0 14) - 1).toNat ≤ 1280 := hI_.2 83 0 _
              refine sm_T_calx (d1 := 0) (Q1 := vq_187 13 (S_.2.2.1 83 0 ((S_.1 7 0 14) - 1).toNat) (sm_pI (sm_pI S_ 7 0 14 ((S_.1 7 0 14) - 1)) 7 0 16 ((S_.1 7 0 16) - 1))) (Q2 := vx_187 13 (S_.2.2.1 83 0 ((S_.1 7 0 14) - 1).toNat) (sm_pI (sm_pI S_ 7 0 14 ((S_.1 7 0 14) - 1)) 7 0 16 ((S_.1 7 0 16) - 1))) rfl rfl (by decide) (vc_187 13 (S_.2.2.1 83 0 ((S_.1 7 0 14) - 1).toNat) (sm_pI (sm_pI S_ 7 0 14 ((S_.1 7 0 14) - 1)) 7 0 16 ((S_.1 7 0 16) - 1)) hIx14_ (by decide) (by omega)) rfl (fun Sx38_ px41_ => ?_) (fun u_ Sx38_ px41_ => ?_)
              · obtain ⟨hIx39_, hFx40_, px41_⟩ := px41_
                refine Or.inr ⟨_, rfl, hIx39_, ai_fr_tr hFx15_ (fr_le hFx40_ rfl), ?_⟩
                refine ⟨(13, t1_), ?_, px41_.1, px41_.2.trans e4_⟩
                rw [y1_]; exact p_se_e rfl (by omega) (by omega)
              · exact (px41_.2.2.2).elim
          | some jx20_ =>
            refine sm_T_gr rfl rfl qx19_ ?_
            have hmd_ : md_ = true := xs_s y2_ qx19_
            subst hmd_
            refine sm_T_go 6 (c1 := (93, [some (.inr (.inr (some (7, 0)))), some (.inl ls_), some (.inl i_), some (.inl (S_.2.2.1 82 0 ((S_.1 7 0 14) - 1).toNat)), some (.inl (S_.2.2.1 84 0 ((S_.1 7 0 16) - 1).toNat)), some (.inl (S_.2.2.1 84 0 ((S_.1 7 0 16) - 2).toNat))], [.inl 1, .inl ((S_.1 7 0 16) - 1), .inr (.inr (some (84, 0)))], sm_pI (sm_pI S_ 7 0 14 ((S_.1 7 0 14) - 1)) 7 0 16 ((S_.1 7 0 16) - 1))) rfl ?_
            refine sm_T_bin (w := (S_.1 7 0 16) - 2) rfl (bi_sub (by omega) (by omega) (by omega)) ?_
            refine sm_T_go 2 (c1 := (96, [some (.inr (.inr (some (7, 0)))), some (.inl ls_), some (.inl i_), some (.inl (S_.2.2.1 82 0 ((S_.1 7 0 14) - 1).toNat)), some (.inl (S_.2.2.1 84 0 ((S_.1 7 0 16) - 1).toNat)), some (.inl (S_.2.2.1 84 0 ((S_.1 7 0 16) - 2).toNat))], [.inl 1, .inl (S_.2.2.1 82 0 ((S_.1 7 0 14) - 1).toNat), .inl ((S_.1 7 0 16) - 2), .inr (.inr (some (84, 0)))], sm_pI (sm_pI S_ 7 0 14 ((S_.1 7 0 14) - 1)) 7 0 16 ((S_.1 7 0 16) - 1))) rfl ?_
            refine sm_T_br (a := 1) (z := 11) rfl (fun cx43_ => ?_) (fun cx43_ => ?_)
            · have cx43_ : (S_.2.2.1 82 0 ((S_.1 7 0 14) - 1).toNat) ≠ 1 := of_decide_eq_true cx43_
              refine sm_T_go 2 (c1 := (109, [some (.inr (.inr (some (7, 0)))), some (.inl ls_), some (.inl i_), some (.inl (S_.2.2.1 82 0 ((S_.1 7 0 14) - 1).toNat)), some (.inl (S_.2.2.1 84 0 ((S_.1 7 0 16) - 1).toNat)), some (.inl (S_.2.2.1 84 0 ((S_.1 7 0 16) - 2).toNat))], [.inl 2, .inl (S_.2.2.1 82 0 ((S_.1 7 0 14) - 1).toNat), .inl ((S_.1 7 0 16) - 2), .inr (.inr (some (84, 0)))], sm_pI (sm_pI S_ 7 0 14 ((S_.1 7 0 14) - 1)) 7 0 16 ((S_.1 7 0 16) - 1))) rfl ?_
              refine sm_T_br (a := 1) (z := 11) rfl (fun cx44_ => ?_) (fun cx44_ => ?_)
              · have cx44_ : (S_.2.2.1 82 0 ((S_.1 7 0 14) - 1).toNat) ≠ 2 := of_decide_eq_true cx44_
                refine sm_T_go 2 (c1 := (124, [some (.inr (.inr (some (7, 0)))), some (.inl ls_), some (.inl i_), some (.inl (S_.2.2.1 82 0 ((S_.1 7 0 14) - 1).toNat)), some (.inl (S_.2.2.1 84 0 ((S_.1 7 0 16) - 1).toNat)), some (.inl (S_.2.2.1 84 0 ((S_.1 7 0 16) - 2).toNat))], [.inl (S_.2.2.1 84 0 ((S_.1 7 0 16) - 1).toNat), .inl (S_.2.2.1 84 0 ((S_.1 7 0 16) - 2).toNat), .inl ((S_.1 7 0 16) - 2), .inr (.inr (some (84, 0)))], sm_pI (sm_pI S_ 7 0 14 ((S_.1 7 0 14) - 1)) 7 0 16 ((S_.1 7 0 16) - 1))) rfl ?_
                refine sm_T_bin (w := (i_and (S_.2.2.1 84 0 ((S_.1 7 0 16) - 2).toNat) (S_.2.2.1 84 0 ((S_.1 7 0 16) - 1).toNat))) rfl rfl ?_
                have bx45_ := (i_by (x_ := (S_.2.2.1 84 0 ((S_.1 7 0 16) - 2).toNat)) (y_ := (S_.2.2.1 84 0 ((S_.1 7 0 16) - 1).toNat)) ⟨by omega, by omega⟩ ⟨by omega, by omega⟩).2.2
                refine sm_T_iast (n := 488) rfl rfl (by omega) (by omega) ?_
                have hIx46_ : gi (sm_aI (sm_pI (sm_pI S_ 7 0 14 ((S_.1 7 0 14) - 1)) 7 0 16 ((S_.1 7 0 16) - 1)) 84 0 ((S_.1 7 0 16) - 2).toNat (i_and (S_.2.2.1 84 0 ((S_.1 7 0 16) - 2).toNat) (S_.2.2.1 84 0 ((S_.1 7 0 16) - 1).toNat))) := gi_aI hIx14_ (show 0 ≤ (i_and (S_.2.2.1 84 0 ((S_.1 7 0 16) - 2).toNat) (S_.2.2.1 84 0 ((S_.1 7 0 16) - 1).toNat)) ∧ (i_and (S_.2.2.1 84 0 ((S_.1 7 0 16) - 2).toNat) (S_.2.2.1 84 0 ((S_.1 7 0 16) - 1).toNat)) ≤ 255 from ⟨by omega, by omega⟩)
                have hFx47_ : ai_fr (sx_W vw_148) S0_ (sm_aI (sm_pI (sm_pI S_ 7 0 14 ((S_.1 7 0 14) - 1)) 7 0 16 ((S_.1 7 0 16) - 1)) 84 0 ((S_.1 7 0 16) - 2).toNat (i_and (S_.2.2.1 84 0 ((S_.1 7 0 16) - 2).toNat) (S_.2.2.1 84 0 ((S_.1 7 0 16) - 1).toNat))) := ai_fr_tr hFx15_ (ai_fr_aI rfl)
                refine sm_T_go 1 (c1 := (183, [some (.inr (.inr (some (7, 0)))), some (.inl ls_), some (.inl i_), some (.inl (S_.2.2.1 82 0 ((S_.1 7 0 14) - 1).toNat)), some (.inl (S_.2.2.1 84 0 ((S_.1 7 0 16) - 1).toNat)), some (.inl (S_.2.2.1 84 0 ((S_.1 7 0 16) - 2).toNat))], [], sm_aI (sm_pI (sm_pI S_ 7 0 14 ((S_.1 7 0 14) - 1)) 7 0 16 ((S_.1 7 0 16) - 1)) 84 0 ((S_.1 7 0 16) - 2).toNat (i_and (S_.2.2.1 84 0 ((S_.1 7 0 16) - 2).toNat) (S_.2.2.1 84 0 ((S_.1 7 0 16) - 1).toNat)))) rfl ?_
                refine sm_T_inc (a := 2) (z := 1) (v := i_) (w := i_ + 1) rfl rfl (by omega) (by omega) (by omega) ?_
                refine sm_T_go 1 (c1 := (2, [some (.inr (.inr (some (7, 0)))), some (.inl ls_), some (.inl (i_ + 1)), some (.inl (S_.2.2.1 82 0 ((S_.1 7 0 14) - 1).toNat)), some (.inl (S_.2.2.1 84 0 ((S_.1 7 0 16) - 1).toNat)), some (.inl (S_.2.2.1 84 0 ((S_.1 7 0 16) - 2).toNat))], [], sm_aI (sm_pI (sm_pI S_ 7 0 14 ((S_.1 7 0 14) - 1)) 7 0 16 ((S_.1 7 0 16) - 1)) 84 0 ((S_.1 7 0 16) - 2).toNat (i_and (S_.2.2.1 84 0 ((S_.1 7 0 16) - 2).toNat) (S_.2.2.1 84 0 ((S_.1 7 0 16) - 1).toNat)))) rfl ?_
                refine sm_T_wk [some (.inr (.inr (some (7, 0)))), some (.inl ls_), some (.inl (i_ + 1)), none, none, none] (by exact ⟨rfl, rfl, rfl, trivial⟩) ?_
                refine ih_ (i_ + 1) (sm_aI (sm_pI (sm_pI S_ 7 0 14 ((S_.1 7 0 14) - 1)) 7 0 16 ((S_.1 7 0 16) - 1)) 84 0 ((S_.1 7 0 16) - 2).toNat (i_and (S_.2.2.1 84 0 ((S_.1 7 0 16) - 2).toNat) (S_.2.2.1 84 0 ((S_.1 7 0 16) - 1).toNat))) hIx46_ hFx47_ ⟨?_, ?_, trivial⟩ ?_
                · omega
                · refine ⟨o2_, p_lo k1_ a1_ b1_ :: g2_, c1_, ?_, ?_, ?_, ?_, ?_⟩
                  · rw [y1_]; exact p_se_t rfl (by omega)
                  · refine ⟨?_, ?_, stk_ot x3_.2 (by decide), stk_ot x4_.2 (by decide), stk_pu l4_ ?_ x5_.2.2, x6_, fun z_ => absurd z_ (by decide)⟩
                    · (try simp only [rd_eq, rd_ne, rf_eq, rf_nk, rf_nt, rd_fa, rd_af, rd_fl, rd_al, rd_lf, rd_la, rd_leq, rd_lne, rd_fr, rd_ar, ne_eq, Nat.reduceEqDiff, not_false_eq_true]); omega
                    · (try simp only [rd_eq, rd_ne, rf_eq, rf_nk, rf_nt, rd_fa, rd_af, rd_fl, rd_al, rd_lf, rd_la, rd_leq, rd_lne, rd_fr, rd_ar, ne_eq, Nat.reduceEqDiff, not_false_eq_true]); simp only [List.length_cons]; push_cast; omega
                    · unfold p_lo; rw [e5_, e6_]; first | (rw [if_pos (by omega)]) | (rw [if_neg (by omega), if_pos (by omega)]) | (rw [if_neg (by omega), if_neg (by omega)])
                  · exact s_ok_ap (by omega) (p_lo_b ⟨by omega, by omega⟩ ⟨by omega, by omega⟩) y3_
                  · simp only [List.length_cons] at y4_; omega
                  · omega
                · omega
              · have cx44_ : ¬ ((S_.2.2.1 82 0 ((S_.1 7 0 14) - 1).toNat) ≠ 2) := of_decide_eq_false cx44_
                refine sm_T_go 2 (c1 := (116, [some (.inr (.inr (some (7, 0)))), some (.inl ls_), some (.inl i_), some (.inl (S_.2.2.1 82 0 ((S_.1 7 0 14) - 1).toNat)), some (.inl (S_.2.2.1 84 0 ((S_.1 7 0 16) - 1).toNat)), some (.inl (S_.2.2.1 84 0 ((S_.1 7 0 16) - 2).toNat))], [.inl (S_.2.2.1 84 0 ((S_.1 7 0 16) - 1).toNat), .inl (S_.2.2.1 84 0 ((S_.1 7 0 16) - 2).toNat), .inl ((S_.1 7 0 16) - 2), .inr (.inr (some (84, 0)))], sm_pI (sm_pI S_ 7 0 14 ((S_.1 7 0 14) - 1)) 7 0 16 ((S_.1 7 0 16) - 1))) rfl ?_
                refine sm_T_bin (w := (i_xor (S_.2.2.1 84 0 ((S_.1 7 0 16) - 2).toNat) (S_.2.2.1 84 0 ((S_.1 7 0 16) - 1).toNat))) rfl rfl ?_
                have bx48_ := (i_by (x_ := (S_.2.2.1 84 0 ((S_.1 7 0 16) - 2).toNat)) (y_ := (S_.2.2.1 84 0 ((S_.1 7 0 16) - 1).toNat)) ⟨by omega, by omega⟩ ⟨by omega, by omega⟩).2.1
                refine sm_T_go 1 (c1 := (125, [some (.inr (.inr (some (7, 0)))), some (.inl ls_), some (.inl i_), some (.inl (S_.2.2.1 82 0 ((S_.1 7 0 14) - 1).toNat)), some (.inl (S_.2.2.1 84 0 ((S_.1 7 0 16) - 1).toNat)), some (.inl (S_.2.2.1 84 0 ((S_.1 7 0 16) - 2).toNat))], [.inl (i_xor (S_.2.2.1 84 0 ((S_.1 7 0 16) - 2).toNat) (S_.2.2.1 84 0 ((S_.1 7 0 16) - 1).toNat)), .inl ((S_.1 7 0 16) - 2), .inr (.inr (some (84, 0)))], sm_pI (sm_pI S_ 7 0 14 ((S_.1 7 0 14) - 1)) 7 0 16 ((S_.1 7 0 16) - 1))) rfl ?_
                refine sm_T_iast (n := 488) rfl rfl (by omega) (by omega) ?_
                have hIx49_ : gi (sm_aI (sm_pI (sm_pI S_ 7 0 14 ((S_.1 7 0 14) - 1)) 7 0 16 ((S_.1 7 0 16) - 1)) 84 0 ((S_.1 7 0 16) - 2).toNat (i_xor (S_.2.2.1 84 0 ((S_.1 7 0 16) - 2).toNat) (S_.2.2.1 84 0 ((S_.1 7 0 16) - 1).toNat))) := gi_aI hIx14_ (show 0 ≤ (i_xor (S_.2.2.1 84 0 ((S_.1 7 0 16) - 2).toNat) (S_.2.2.1 84 0 ((S_.1 7 0 16) - 1).toNat)) ∧ (i_xor (S_.2.2.1 84 0 ((S_.1 7 0 16) - 2).toNat) (S_.2.2.1 84 0 ((S_.1 7 0 16) - 1).toNat)) ≤ 255 from ⟨by omega, by omega⟩)
                have hFx50_ : ai_fr (sx_W vw_148) S0_ (sm_aI (sm_pI (sm_pI S_ 7 0 14 ((S_.1 7 0 14) - 1)) 7 0 16 ((S_.1 7 0 16) - 1)) 84 0 ((S_.1 7 0 16) - 2).toNat (i_xor (S_.2.2.1 84 0 ((S_.1 7 0 16) - 2).toNat) (S_.2.2.1 84 0 ((S_.1 7 0 16) - 1).toNat))) := ai_fr_tr hFx15_ (ai_fr_aI rfl)
                refine sm_T_go 1 (c1 := (183, [some (.inr (.inr (some (7, 0)))), some (.inl ls_), some (.inl i_), some (.inl (S_.2.2.1 82 0 ((S_.1 7 0 14) - 1).toNat)), some (.inl (S_.2.2.1 84 0 ((S_.1 7 0 16) - 1).toNat)), some (.inl (S_.2.2.1 84 0 ((S_.1 7 0 16) - 2).toNat))], [], sm_aI (sm_pI (sm_pI S_ 7 0 14 ((S_.1 7 0 14) - 1)) 7 0 16 ((S_.1 7 0 16) - 1)) 84 0 ((S_.1 7 0 16) - 2).toNat (i_xor (S_.2.2.1 84 0 ((S_.1 7 0 16) - 2).toNat) (S_.2.2.1 84 0 ((S_.1 7 0 16) - 1).toNat)))) rfl ?_
                refine sm_T_inc (a := 2) (z := 1) (v := i_) (w := i_ + 1) rfl rfl (by omega) (by omega) (by omega) ?_
                refine sm_T_go 1 (c1 := (2, [some (.inr (.inr (some (7, 0)))), some (.inl ls_), some (.inl (i_ + 1)), some (.inl (S_.2.2.1 82 0 ((S_.1 7 0 14) - 1).toNat)), some (.inl (S_.2.2.1 84 0 ((S_.1 7 0 16) - 1).toNat)), some (.inl (S_.2.2.1 84 0 ((S_.1 7 0 16) - 2).toNat))], [], sm_aI (sm_pI (sm_pI S_ 7 0 14 ((S_.1 7 0 14) - 1)) 7 0 16 ((S_.1 7 0 16) - 1)) 84 0 ((S_.1 7 0 16) - 2).toNat (i_xor (S_.2.2.1 84 0 ((S_.1 7 0 16) - 2).toNat) (S_.2.2.1 84 0 ((S_.1 7 0 16) - 1).toNat)))) rfl ?_
                refine sm_T_wk [some (.inr (.inr (some (7, 0)))), some (.inl ls_), some (.inl (i_ + 1)), none, none, none] (by exact ⟨rfl, rfl, rfl, trivial⟩) ?_
                refine ih_ (i_ + 1) (sm_aI (sm_pI (sm_pI S_ 7 0 14 ((S_.1 7 0 14) - 1)) 7 0 16 ((S_.1 7 0 16) - 1)) 84 0 ((S_.1 7 0 16) - 2).toNat (i_xor (S_.2.2.1 84 0 ((S_.1 7 0 16) - 2).toNat) (S_.2.2.1 84 0 ((S_.1 7 0 16) - 1).toNat))) hIx49_ hFx50_ ⟨?_, ?_, trivial⟩ ?_
                · omega
                · refine ⟨o2_, p_lo k1_ a1_ b1_ :: g2_, c1_, ?_, ?_, ?_, ?_, ?_⟩
                  · rw [y1_]; exact p_se_t rfl (by omega)
                  · refine ⟨?_, ?_, stk_ot x3_.2 (by decide), stk_ot x4_.2 (by decide), stk_pu l4_ ?_ x5_.2.2, x6_, fun z_ => absurd z_ (by decide)⟩
                    · (try simp only [rd_eq, rd_ne, rf_eq, rf_nk, rf_nt, rd_fa, rd_af, rd_fl, rd_al, rd_lf, rd_la, rd_leq, rd_lne, rd_fr, rd_ar, ne_eq, Nat.reduceEqDiff, not_false_eq_true]); omega
                    · (try simp only [rd_eq, rd_ne, rf_eq, rf_nk, rf_nt, rd_fa, rd_af, rd_fl, rd_al, rd_lf, rd_la, rd_leq, rd_lne, rd_fr, rd_ar, ne_eq, Nat.reduceEqDiff, not_false_eq_true]); simp only [List.length_cons]; push_cast; omega
                    · unfold p_lo; rw [e5_, e6_]; first | (rw [if_pos (by omega)]) | (rw [if_neg (by omega), if_pos (by omega)]) | (rw [if_neg (by omega), if_neg (by omega)])
                  · exact s_ok_ap (by omega) (p_lo_b ⟨by omega, by omega⟩ ⟨by omega, by omega⟩) y3_
                  · simp only [List.length_cons] at y4_; omega
                  · omega
                · omega
            · have cx43_ : ¬ ((S_.2.2.1 82 0 ((S_.1 7 0 14) - 1).toNat) ≠ 1) := of_decide_eq_false cx43_
              refine sm_T_go 2 (c1 := (103, [some (.inr (.inr (some (7, 0)))), some (.inl ls_), some (.inl i_), some (.inl (S_.2.2.1 82 0 ((S_.1 7 0 14) - 1).toNat)), some (.inl (S_.2.2.1 84 0 ((S_.1 7 0 16) - 1).toNat)), some (.inl (S_.2.2.1 84 0 ((S_.1 7 0 16) - 2).toNat))], [.inl (S_.2.2.1 84 0 ((S_.1 7 0 16) - 1).toNat), .inl (S_.2.2.1 84 0 ((S_.1 7 0 16) - 2).toNat), .inl ((S_.1 7 0 16) - 2), .inr (.inr (some (84, 0)))], sm_pI (sm_pI S_ 7 0 14 ((S_.1 7 0 14) - 1)) 7 0 16 ((S_.1 7 0 16) - 1))) rfl ?_
              refine sm_T_bin (w := (i_or (S_.2.2.1 84 0 ((S_.1 7 0 16) - 2).toNat) (S_.2.2.1 84 0 ((S_.1 7 0 16) - 1).toNat))) rfl rfl ?_
              have bx51_ := (i_by (x_ := (S_.2.2.1 84 0 ((S_.1 7 0 16) - 2).toNat)) (y_ := (S_.2.2.1 84 0 ((S_.1 7 0 16) - 1).toNat)) ⟨by omega, by omega⟩ ⟨by omega, by omega⟩).1
              refine sm_T_go 1 (c1 := (125, [some (.inr (.inr (some (7, 0)))), some (.inl ls_), some (.inl i_), some (.inl (S_.2.2.1 82 0 ((S_.1 7 0 14) - 1).toNat)), some (.inl (S_.2.2.1 84 0 ((S_.1 7 0 16) - 1).toNat)), some (.inl (S_.2.2.1 84 0 ((S_.1 7 0 16) - 2).toNat))], [.inl (i_or (S_.2.2.1 84 0 ((S_.1 7 0 16) - 2).toNat) (S_.2.2.1 84 0 ((S_.1 7 0 16) - 1).toNat)), .inl ((S_.1 7 0 16) - 2), .inr (.inr (some (84, 0)))], sm_pI (sm_pI S_ 7 0 14 ((S_.1 7 0 14) - 1)) 7 0 16 ((S_.1 7 0 16) - 1))) rfl ?_
              refine sm_T_iast (n := 488) rfl rfl (by omega) (by omega) ?_
              have hIx52_ : gi (sm_aI (sm_pI (sm_pI S_ 7 0 14 ((S_.1 7 0 14) - 1)) 7 0 16 ((S_.1 7 0 16) - 1)) 84 0 ((S_.1 7 0 16) - 2).toNat (i_or (S_.2.2.1 84 0 ((S_.1 7 0 16) - 2).toNat) (S_.2.2.1 84 0 ((S_.1 7 0 16) - 1).toNat))) := gi_aI hIx14_ (show 0 ≤ (i_or (S_.2.2.1 84 0 ((S_.1 7 0 16) - 2).toNat) (S_.2.2.1 84 0 ((S_.1 7 0 16) - 1).toNat)) ∧ (i_or (S_.2.2.1 84 0 ((S_.1 7 0 16) - 2).toNat) (S_.2.2.1 84 0 ((S_.1 7 0 16) - 1).toNat)) ≤ 255 from ⟨by omega, by omega⟩)
              have hFx53_ : ai_fr (sx_W vw_148) S0_ (sm_aI (sm_pI (sm_pI S_ 7 0 14 ((S_.1 7 0 14) - 1)) 7 0 16 ((S_.1 7 0 16) - 1)) 84 0 ((S_.1 7 0 16) - 2).toNat (i_or (S_.2.2.1 84 0 ((S_.1 7 0 16) - 2).toNat) (S_.2.2.1 84 0 ((S_.1 7 0 16) - 1).toNat))) := ai_fr_tr hFx15_ (ai_fr_aI rfl)
              refine sm_T_go 1 (c1 := (183, [some (.inr (.inr (some (7, 0)))), some (.inl ls_), some (.inl i_), some (.inl (S_.2.2.1 82 0 ((S_.1 7 0 14) - 1).toNat)), some (.inl (S_.2.2.1 84 0 ((S_.1 7 0 16) - 1).toNat)), some (.inl (S_.2.2.1 84 0 ((S_.1 7 0 16) - 2).toNat))], [], sm_aI (sm_pI (sm_pI S_ 7 0 14 ((S_.1 7 0 14) - 1)) 7 0 16 ((S_.1 7 0 16) - 1)) 84 0 ((S_.1 7 0 16) - 2).toNat (i_or (S_.2.2.1 84 0 ((S_.1 7 0 16) - 2).toNat) (S_.2.2.1 84 0 ((S_.1 7 0 16) - 1).toNat)))) rfl ?_
              refine sm_T_inc (a := 2) (z := 1) (v := i_) (w := i_ + 1) rfl rfl (by omega) (by omega) (by omega) ?_
              refine sm_T_go 1 (c1 := (2, [some (.inr (.inr (some (7, 0)))), some (.inl ls_), some (.inl (i_ + 1)), some (.inl (S_.2.2.1 82 0 ((S_.1 7 0 14) - 1).toNat)), some (.inl (S_.2.2.1 84 0 ((S_.1 7 0 16) - 1).toNat)), some (.inl (S_.2.2.1 84 0 ((S_.1 7 0 16) - 2).toNat))], [], sm_aI (sm_pI (sm_pI S_ 7 0 14 ((S_.1 7 0 14) - 1)) 7 0 16 ((S_.1 7 0 16) - 1)) 84 0 ((S_.1 7 0 16) - 2).toNat (i_or (S_.2.2.1 84 0 ((S_.1 7 0 16) - 2).toNat) (S_.2.2.1 84 0 ((S_.1 7 0 16) - 1).toNat)))) rfl ?_
              refine sm_T_wk [some (.inr (.inr (some (7, 0)))), some (.inl ls_), some (.inl (i_ + 1)), none, none, none] (by exact ⟨rfl, rfl, rfl, trivial⟩) ?_
              refine ih_ (i_ + 1) (sm_aI (sm_pI (sm_pI S_ 7 0 14 ((S_.1 7 0 14) - 1)) 7 0 16 ((S_.1 7 0 16) - 1)) 84 0 ((S_.1 7 0 16) - 2).toNat (i_or (S_.2.2.1 84 0 ((S_.1 7 0 16) - 2).toNat) (S_.2.2.1 84 0 ((S_.1 7 0 16) - 1).toNat))) hIx52_ hFx53_ ⟨?_, ?_, trivial⟩ ?_
              · omega
              · refine ⟨o2_, p_lo k1_ a1_ b1_ :: g2_, c1_, ?_, ?_, ?_, ?_, ?_⟩
                · rw [y1_]; exact p_se_t rfl (by omega)
                · refine ⟨?_, ?_, stk_ot x3_.2 (by decide), stk_ot x4_.2 (by decide), stk_pu l4_ ?_ x5_.2.2, x6_, fun z_ => absurd z_ (by decide)⟩
                  · (try simp only [rd_eq, rd_ne, rf_eq, rf_nk, rf_nt, rd_fa, rd_af, rd_fl, rd_al, rd_lf, rd_la, rd_leq, rd_lne, rd_fr, rd_ar, ne_eq, Nat.reduceEqDiff, not_false_eq_true]); omega
                  · (try simp only [rd_eq, rd_ne, rf_eq, rf_nk, rf_nt, rd_fa, rd_af, rd_fl, rd_al, rd_lf, rd_la, rd_leq, rd_lne, rd_fr, rd_ar, ne_eq, Nat.reduceEqDiff, not_false_eq_true]); simp only [List.length_cons]; push_cast; omega
                  · unfold p_lo; rw [e5_, e6_]; first | (rw [if_pos (by omega)]) | (rw [if_neg (by omega), if_pos (by omega)]) | (rw [if_neg (by omega), if_neg (by omega)])
                · exact s_ok_ap (by omega) (p_lo_b ⟨by omega, by omega⟩ ⟨by omega, by omega⟩) y3_
                · simp only [List.length_cons] at y4_; omega
                · omega
              · omega
set_option maxHeartbeats 400000 in
set_option maxRecDepth 20000 in
theorem vc_148 {sc_ : Nat × (Nat → Int)} (ls_ : Int) (md_ : Bool) (o_ : List (Int × Nat)) (g_ : List Int) (c_ : List Int) (S0_ : sm_S) (hI_ : gi S0_) (hx_ : xs md_ o_ g_ c_ S0_) (hs_ : s_ok md_ 1 (o_, g_, c_)) (hl_ : 1 ≤ ls_) (hc_ : c_.length + o_.length ≤ 65535) : sm_T (mt_P sc_) 2 148 (0, [some (.inr (.inr (some (7, 0)))), some (.inl ls_), none, none, none, none], [], S0_) (fun r_ => (∃ u_ S1_, r_ = (.inl u_, S1_, 0) ∧ vq_148 ls_ md_ o_ g_ c_ S0_ u_ S1_) ∨ ∃ S1_, r_ = (.inr 2, S1_, 1) ∧ vx_148 ls_ md_ o_ g_ c_ S0_ S1_) := by
  have hF_ : ai_fr (sx_W vw_148) S0_ S0_ := ai_fr_rf
  refine sm_T_go 2 (c1 := (2, [some (.inr (.inr (some (7, 0)))), some (.inl ls_), some (.inl 0), none, none, none], [], S0_)) rfl ?_
  refine (vl_148 ls_ md_ o_ g_ c_ S0_ hx_ hs_ hl_ hc_ _) 0 S0_ hI_ hF_ ⟨?_, ?_, trivial⟩ (Nat.lt_succ_self _)
  · omega
  · refine ⟨o_, g_, c_, rfl, hx_, hs_, hc_, ?_⟩
    have := o_tp5 hs_.1
    show o_tp o_ ≤ 5 - 0
    have : o_tp o_ ≤ 5 := this.2
    omega
