/-! M_.turn -/
def vw_317g : sx_Wl := ([(13, 32)], [139], [])
def vq_317g (b_ : Nat → Int) (n_ : Nat) (T_ : Nat) (F_ : Nat) (I_ : Nat) (A_ : pA) (X_ : Nat → gQ → gE → Option (gQ × gE)) (m_ : Nat) (s0_ : gS) (t_ : Bool) (o_ : List (Int × Nat)) (x_ : Int) (g_ : List Int) (c_ : List Int) (w_ : List (Int × Int)) (S0_ : sm_S) (u_ : Option sm_V) (S1_ : sm_S) : Prop := u_ = none ∧ gi S1_ ∧ ai_fr (sx_W vw_317g) S0_ S1_ ∧ (∃ w1_, ws w1_ S1_ ∧ wl b_ n_ T_ o_ w1_ ∧ xg F_ I_ A_ X_ m_ s0_ (x_ :: g_) (p_ti false t_ (x_ :: g_) c_).2 S1_)
set_option maxHeartbeats 400000 in
set_option maxRecDepth 20000 in
theorem vl_317g {sc_ : Nat × (Nat → Int)} (b_ : Nat → Int) (n_ : Nat) (T_ : Nat) (F_ : Nat) (I_ : Nat) (A_ : pA) (X_ : Nat → gQ → gE → Option (gQ × gE)) (m_ : Nat) (s0_ : gS) (t_ : Bool) (o_ : List (Int × Nat)) (x_ : Int) (g_ : List Int) (c_ : List Int) (w_ : List (Int × Int)) (S0_ : sm_S) (hw_ : ws w_ S0_) (hwt_ : wt b_ n_ T_ t_ o_ w_) (ho_ : o_ok false o_) (hvl_ : (S0_.1 13 0 34) = (g_.length : Int) + 1) (hmo_ : (S0_.1 13 0 27) = 1) (hgl_ : g_.length ≤ 1000) (hX_ : xg F_ I_ A_ X_ m_ s0_ (x_ :: g_) c_ S0_) : ∀ nn_ : Nat, (∀  (S_ : sm_S), gi S_ → ai_fr (sx_W vw_317g) S0_ S_ → ((∃ t1_ w1_ c1_, ws w1_ S_ ∧ wt b_ n_ T_ t1_ o_ w1_ ∧ xg F_ I_ A_ X_ m_ s0_ (x_ :: g_) c1_ S_ ∧ (p_ti false t1_ (x_ :: g_) c1_).2 = (p_ti false t_ (x_ :: g_) c_).2) ∧ True) → ((20 * (S_.1 13 0 32) + 10).toNat) < nn_ → sm_T (mt_P sc_) 1 317 (0, [some (.inr (.inr (some (13, 0)))), none, none], [], S_) (fun ro9_ => ∃ u_ S1_, ro9_ = (.inl u_, S1_, 0) ∧ vq_317g b_ n_ T_ F_ I_ A_ X_ m_ s0_ t_ o_ x_ g_ c_ w_ S0_ u_ S1_)) ∧ (∀ (v_ : Int) (k_ : Int) (S_ : sm_S), gi S_ → ai_fr (sx_W vw_317g) S0_ S_ → ((0 ≤ k_ ∧ k_ ≤ 8 ∧ v_ = (g_.length : Int)) ∧ (∃ u1_ c1_, ws ((33, 1) :: u1_) S_ ∧ wl b_ n_ T_ o_ u1_ ∧ (p_ti false true (x_ :: g_) c1_).2 = (p_ti false t_ (x_ :: g_) c_).2 ∧ ∃ Gr_ vv_ V_ e1_ r_, ev F_ I_ A_ X_ m_ s0_ c1_ = some ((Gr_, s0_.1.2), s0_.2.1, s0_.2.2.1, vv_ :: V_) ∧ (vv_ :: V_).map (fun v_ => (v_.length : Int)) = x_ :: g_ ∧ rgl F_ Gr_ S_ ∧ svl (Gr_.length ≤ 1001) (S_.2.2.1 139 0) (S_.2.2.1 138 0) V_ ∧ S_.2.2.1 138 0 V_.length = (vv_.length : Int) ∧ (1 ≤ vv_.length ∧ vv_.length ≤ 8) ∧ vv_ = e1_ ++ r_ ∧ ((e1_.length : Int) = k_ ∨ (r_ = [] ∧ (e1_.length : Int) ≤ k_)) ∧ (imq (Gr_.length ≤ 1001) (rwv (S_.2.2.1 139 0) (8 * V_.length) (e1_.map (fun z_ => i_xor z_ 1) ++ r_)))) ∧ True) → ((20 * (S_.1 13 0 32) + 9 - k_).toNat) < nn_ → sm_T (mt_P sc_) 1 317 (33, [some (.inr (.inr (some (13, 0)))), some (.inl v_), some (.inl k_)], [], S_) (fun ro9_ => ∃ u_ S1_, ro9_ = (.inl u_, S1_, 0) ∧ vq_317g b_ n_ T_ F_ I_ A_ X_ m_ s0_ t_ o_ x_ g_ c_ w_ S0_ u_ S1_)) := by
  intro nn_
  induction nn_ with
  | zero => exact ⟨fun  _ _ _ _ h_ => absurd h_ (Nat.not_lt_zero _), fun _ _ _ _ _ _ h_ => absurd h_ (Nat.not_lt_zero _)⟩
  | succ nn_ ih_ =>
    refine ⟨?_, ?_⟩
    · rintro  S_ hI_ hF_ ⟨h1_, -⟩ hm_
      obtain ⟨t1_, w1_, c1_, y1_, y2_, y3_, y4_⟩ := h1_
      have hmo1_ : S_.1 13 0 27 = 1 := (hF_.1 13 0 27 rfl).trans hmo_
      have wt1_ := wt_tp y2_ ho_
      have v1_ : S_.1 13 0 34 = (g_.length : Int) + 1 := (hF_.1 13 0 34 rfl).trans hvl_
      refine sm_T_go 1 (c1 := (1, [some (.inr (.inr (some (13, 0)))), none, none], [.inr (.inr (some (13, 0)))], S_)) rfl ?_
      refine sm_T_cal (d1 := 0) (Q1 := vq_312 w1_ S_) rfl rfl (by decide) (vc_312 w1_ S_ hI_ (by exact y1_)) (fun u_ Sx1_ px4_ => ?_)
      obtain ⟨rfl, vx6_, rfl, px4_⟩ := px4_
      have e1_ := px4_
      refine sm_T_go 1 (c1 := (6, [some (.inr (.inr (some (13, 0)))), none, none], [.inl 33, .inl vx6_], S_)) rfl ?_
      refine sm_T_br (a := 1) (z := 81) rfl (fun cx7_ => ?_) (fun cx7_ => ?_)
      · have cx7_ : vx6_ ≠ 33 := of_decide_eq_true cx7_
        refine sm_T_rv rfl ⟨_, _, rfl, rfl, hI_, hF_, ?_⟩
        obtain ⟨q1_, q2_⟩ := wt1_.2 (by omega)
        subst q1_
        rw [ti2, if_neg (by decide)] at y4_
        rw [← y4_]
        exact ⟨w1_, y1_, q2_, y3_⟩
      · have cx7_ : ¬ (vx6_ ≠ 33) := of_decide_eq_false cx7_
        obtain ⟨u1_, hu1_, hu2_⟩ := wt1_.1 (by omega)
        subst hu1_
        have wx_ : S_.1 13 0 32 = (u1_.length : Int) + 1 := by rw [y1_.1, List.length_cons]; push_cast; rfl
        obtain ⟨-, y9_, u9_, w3_, w4_, w5_⟩ := ws_tp y1_ (by omega)
        cases w3_
        have w6_ : S_.2.2.1 137 0 (S_.1 13 0 32 - 1).toNat = (if t1_ = true then 1 else 0) := w4_
        have bx8_ : 0 ≤ S_.1 13 0 32 ∧ S_.1 13 0 32 ≤ 1023 := hI_.1 13 0 32 rfl
        refine sm_T_go 5 (c1 := (18, [some (.inr (.inr (some (13, 0)))), none, none], [.inl 1, .inl (S_.1 13 0 32), .inr (.inr (some (137, 0)))], S_)) rfl ?_
        refine sm_T_bin (w := (S_.1 13 0 32) - 1) rfl (bi_sub (by omega) (by omega) (by omega)) ?_
        refine sm_T_iald (n := 1024) rfl rfl (by omega) (by omega) ?_
        have bx9_ : 0 ≤ S_.2.2.1 137 0 ((S_.1 13 0 32) - 1).toNat ∧ S_.2.2.1 137 0 ((S_.1 13 0 32) - 1).toNat ≤ 1280 := hI_.2 137 0 _
        refine sm_T_go 1 (c1 := (21, [some (.inr (.inr (some (13, 0)))), none, none], [.inl 1, .inl (S_.2.2.1 137 0 ((S_.1 13 0 32) - 1).toNat)], S_)) rfl ?_
        refine sm_T_br (a := 1) (z := 53) rfl (fun cx10_ => ?_) (fun cx10_ => ?_)
        · have cx10_ : (S_.2.2.1 137 0 ((S_.1 13 0 32) - 1).toNat) ≠ 1 := of_decide_eq_true cx10_
          refine sm_T_go 4 (c1 := (80, [some (.inr (.inr (some (13, 0)))), none, none], [.inl 1, .inl (S_.1 13 0 32), .inr (.inr (some (13, 0)))], S_)) rfl ?_
          refine sm_T_bin (w := (S_.1 13 0 32) - 1) rfl (bi_sub (by omega) (by omega) (by omega)) ?_
          have hIx11_ : gi (sm_pI S_ 13 0 32 ((S_.1 13 0 32) - 1)) := gi_pI hI_ (show 0 ≤ (S_.1 13 0 32) - 1 ∧ (S_.1 13 0 32) - 1 ≤ 1023 from ⟨by omega, by omega⟩)
          have hFx12_ : ai_fr (sx_W vw_317g) S0_ (sm_pI S_ 13 0 32 ((S_.1 13 0 32) - 1)) := ai_fr_tr hF_ (ai_fr_pI rfl)
          refine sm_T_go 2 (c1 := (0, [some (.inr (.inr (some (13, 0)))), none, none], [], sm_pI S_ 13 0 32 ((S_.1 13 0 32) - 1))) rfl ?_
          refine ih_.1  (sm_pI S_ 13 0 32 ((S_.1 13 0 32) - 1)) hIx11_ hFx12_ ⟨?_, trivial⟩ ?_
          · have ht1_ : t1_ = false := by cases t1_; rfl; (rw [if_pos rfl] at w6_; omega)
            subst ht1_
            obtain ⟨Gr_, V0_, xe_, xm_, xr, xv_⟩ := y3_
            exact ⟨false, u1_, c1_, ws_pop y1_ rfl rfl rfl, Or.inl ⟨rfl, hu2_⟩, ⟨Gr_, V0_, xe_, xm_, rgl_fr (w_ := ([(13, 32)], [], [])) xr (ai_fr_pI rfl) rfl rfl rfl rfl rfl rfl, xv_⟩, y4_⟩
          · (try simp only [rd_eq, rd_ne, rf_eq, rf_nk, rf_nt, rd_fa, rd_af, ne_eq, Nat.reduceEqDiff, not_false_eq_true]); omega
        · have cx10_ : ¬ ((S_.2.2.1 137 0 ((S_.1 13 0 32) - 1).toNat) ≠ 1) := of_decide_eq_false cx10_
          have bx13_ : 0 ≤ S_.1 13 0 34 ∧ S_.1 13 0 34 ≤ 1023 := hI_.1 13 0 34 rfl
          refine sm_T_go 3 (c1 := (29, [some (.inr (.inr (some (13, 0)))), none, none], [.inl 1, .inl (S_.1 13 0 34)], S_)) rfl ?_
          refine sm_T_bin (w := (S_.1 13 0 34) - 1) rfl (bi_sub (by omega) (by omega) (by omega)) ?_
          refine sm_T_go 3 (c1 := (33, [some (.inr (.inr (some (13, 0)))), some (.inl ((S_.1 13 0 34) - 1)), some (.inl 0)], [], S_)) rfl ?_
          refine ih_.2 ((S_.1 13 0 34) - 1) 0 S_ hI_ hF_ ⟨?_, ?_, trivial⟩ ?_
          · omega
          · have ht1_ : t1_ = true := by cases t1_; (rw [if_neg (by decide)] at w6_; omega); rfl
            subst ht1_
            obtain ⟨Gr_, V0_, xe_, xm_, xr, xv_⟩ := y3_
            obtain ⟨vv_, V_, rfl, ly_, xm1_⟩ := mp_c xm_
            exact ⟨u1_, c1_, y1_, hu2_, y4_, Gr_, vv_, V_, [], vv_, xe_, xm_, xr, xv_.2.2.2, xv_.1, xv_.2.1, rfl, Or.inl rfl, fun z_ => xv_.2.2.1 z_⟩
          · omega
    · rintro v_ k_ S_ hI_ hF_ ⟨h0_, h1_, -⟩ hm_
      obtain ⟨u1_, c1_, y1_, y2_, y4_, Gr_, vv_, V_, e1_, r_, a1_, a2_, a3_, a4_, a5_, a6_, a7_, a8_, a9_⟩ := h1_
      have hmo1_ : S_.1 13 0 27 = 1 := (hF_.1 13 0 27 rfl).trans hmo_
      have wx_ : S_.1 13 0 32 = (u1_.length : Int) + 1 := by rw [y1_.1, List.length_cons]; push_cast; rfl
      have Vl_ : V_.length = g_.length := by have q9_ := congrArg List.length a2_; simp only [List.length_map, List.length_cons] at q9_; omega
      refine sm_T_go 2 (c1 := (36, [some (.inr (.inr (some (13, 0)))), some (.inl v_), some (.inl k_)], [.inl 8, .inl k_], S_)) rfl ?_
      refine sm_T_br (a := 3) (z := 38) rfl (fun cx1_ => ?_) (fun cx1_ => ?_)
      · have cx1_ : 8 ≤ k_ := of_decide_eq_true cx1_
        have bx2_ : 0 ≤ S_.1 13 0 32 ∧ S_.1 13 0 32 ≤ 1023 := hI_.1 13 0 32 rfl
        refine sm_T_go 4 (c1 := (80, [some (.inr (.inr (some (13, 0)))), some (.inl v_), some (.inl k_)], [.inl 1, .inl (S_.1 13 0 32), .inr (.inr (some (13, 0)))], S_)) rfl ?_
        refine sm_T_bin (w := (S_.1 13 0 32) - 1) rfl (bi_sub (by omega) (by omega) (by omega)) ?_
        have hIx3_ : gi (sm_pI S_ 13 0 32 ((S_.1 13 0 32) - 1)) := gi_pI hI_ (show 0 ≤ (S_.1 13 0 32) - 1 ∧ (S_.1 13 0 32) - 1 ≤ 1023 from ⟨by omega, by omega⟩)
        have hFx4_ : ai_fr (sx_W vw_317g) S0_ (sm_pI S_ 13 0 32 ((S_.1 13 0 32) - 1)) := ai_fr_tr hF_ (ai_fr_pI rfl)
        refine sm_T_go 2 (c1 := (0, [some (.inr (.inr (some (13, 0)))), some (.inl v_), some (.inl k_)], [], sm_pI S_ 13 0 32 ((S_.1 13 0 32) - 1))) rfl ?_
        refine sm_T_wk [some (.inr (.inr (some (13, 0)))), none, none] (by exact ⟨rfl, trivial⟩) ?_
        refine ih_.1  (sm_pI S_ 13 0 32 ((S_.1 13 0 32) - 1)) hIx3_ hFx4_ ⟨?_, trivial⟩ ?_
        · have r0_ : r_ = [] := by rcases a8_ with z_ | z_; (have q9_ := congrArg List.length a7_; rw [List.length_append] at q9_; exact List.eq_nil_of_length_eq_zero (by omega)); (exact z_.1)
          subst r0_
          rw [List.append_nil] at a7_
          subst a7_
          rw [ti2, if_pos rfl] at y4_
          refine ⟨false, u1_, 6 :: c1_, ws_pop y1_ rfl rfl rfl, Or.inl ⟨rfl, y2_⟩, ⟨Gr_, vv_.map (fun z_ => i_xor z_ 1) :: V_, ev_no a1_, ?_, rgl_fr (w_ := ([(13, 32)], [], [])) a3_ (ai_fr_pI rfl) rfl rfl rfl rfl rfl rfl, ?_⟩, y4_⟩
          · rw [← a2_, List.map_cons, List.map_cons, List.length_map]
          · refine ⟨by rw [List.length_map]; exact a5_, by rw [List.length_map]; exact a6_, fun z_ => ?_, a4_⟩; have q9_ := a9_ z_; rw [List.append_nil] at q9_; exact q9_
        · (try simp only [rd_eq, rd_ne, rf_eq, rf_nk, rf_nt, rd_fa, rd_af, ne_eq, Nat.reduceEqDiff, not_false_eq_true]); omega
      · have cx1_ : ¬ (8 ≤ k_) := of_decide_eq_false cx1_
        refine sm_T_go 4 (c1 := (46, [some (.inr (.inr (some (13, 0)))), some (.inl v_), some (.inl k_)], [.inl v_, .inl 8, .inr (.inr (some (139, 0)))], S_)) rfl ?_
        refine sm_T_bin (w := 8 * v_) rfl (bi_mul (by omega) (by omega) (by omega)) ?_
        refine sm_T_go 1 (c1 := (48, [some (.inr (.inr (some (13, 0)))), some (.inl v_), some (.inl k_)], [.inl k_, .inl (8 * v_), .inr (.inr (some (139, 0)))], S_)) rfl ?_
        refine sm_T_bin (w := 8 * v_ + k_) rfl (bi_add (by omega) (by omega) (by omega)) ?_
        refine sm_T_go 1 (c1 := (50, [some (.inr (.inr (some (13, 0)))), some (.inl v_), some (.inl k_)], [.inl (8 * v_ + k_), .inr (.inr (some (139, 0))), .inl (8 * v_ + k_), .inr (.inr (some (139, 0)))], S_)) rfl ?_
        refine sm_T_iald (n := 8192) rfl rfl (by omega) (by omega) ?_
        have bx5_ : 0 ≤ S_.2.2.1 139 0 (8 * v_ + k_).toNat ∧ S_.2.2.1 139 0 (8 * v_ + k_).toNat ≤ 2047 := hI_.2 139 0 _
        have bx6_ : 0 ≤ S_.1 13 0 27 ∧ S_.1 13 0 27 ≤ 2 := hI_.1 13 0 27 rfl
        refine sm_T_go 3 (c1 := (56, [some (.inr (.inr (some (13, 0)))), some (.inl v_), some (.inl k_)], [.inl 2, .inl (S_.1 13 0 27), .inl (S_.2.2.1 139 0 (8 * v_ + k_).toNat), .inl (8 * v_ + k_), .inr (.inr (some (139, 0)))], S_)) rfl ?_
        refine sm_T_br (a := 1) (z := 9) rfl (fun cx7_ => ?_) (fun cx7_ => ?_)
        · have cx7_ : (S_.1 13 0 27) ≠ 2 := of_decide_eq_true cx7_
          refine sm_T_go 1 (c1 := (66, [some (.inr (.inr (some (13, 0)))), some (.inl v_), some (.inl k_)], [.inl 1, .inl (S_.2.2.1 139 0 (8 * v_ + k_).toNat), .inl (8 * v_ + k_), .inr (.inr (some (139, 0)))], S_)) rfl ?_
          refine sm_T_bin (w := (i_xor (S_.2.2.1 139 0 (8 * v_ + k_).toNat) 1)) rfl rfl ?_
          have bx8_ := i_x1 (x_ := (S_.2.2.1 139 0 (8 * v_ + k_).toNat)) (by omega)
          refine sm_T_iast (n := 8192) rfl rfl (by omega) (by omega) ?_
          have hIx9_ : gi (sm_aI S_ 139 0 (8 * v_ + k_).toNat (i_xor (S_.2.2.1 139 0 (8 * v_ + k_).toNat) 1)) := gi_aI hI_ (show 0 ≤ (i_xor (S_.2.2.1 139 0 (8 * v_ + k_).toNat) 1) ∧ (i_xor (S_.2.2.1 139 0 (8 * v_ + k_).toNat) 1) ≤ 2047 from ⟨by omega, by omega⟩)
          have hFx10_ : ai_fr (sx_W vw_317g) S0_ (sm_aI S_ 139 0 (8 * v_ + k_).toNat (i_xor (S_.2.2.1 139 0 (8 * v_ + k_).toNat) 1)) := ai_fr_tr hF_ (ai_fr_aI rfl)
          refine sm_T_inc (a := 2) (z := 1) (v := k_) (w := k_ + 1) rfl rfl (by omega) (by omega) (by omega) ?_
          refine sm_T_go 1 (c1 := (33, [some (.inr (.inr (some (13, 0)))), some (.inl v_), some (.inl (k_ + 1))], [], sm_aI S_ 139 0 (8 * v_ + k_).toNat (i_xor (S_.2.2.1 139 0 (8 * v_ + k_).toNat) 1))) rfl ?_
          refine ih_.2 v_ (k_ + 1) (sm_aI S_ 139 0 (8 * v_ + k_).toNat (i_xor (S_.2.2.1 139 0 (8 * v_ + k_).toNat) 1)) hIx9_ hFx10_ ⟨?_, ?_, trivial⟩ ?_
          · omega
          · have st9_ : ∀ j_, (sm_aI S_ 139 0 (8 * v_ + k_).toNat (i_xor (S_.2.2.1 139 0 (8 * v_ + k_).toNat) 1)).2.2.1 139 0 j_ = if j_ = (8 * v_ + k_).toNat then i_xor (S_.2.2.1 139 0 (8 * v_ + k_).toNat) 1 else S_.2.2.1 139 0 j_ := fun j_ => rd_eq
            have sv9_ : svl (Gr_.length ≤ 1001) ((sm_aI S_ 139 0 (8 * v_ + k_).toNat (i_xor (S_.2.2.1 139 0 (8 * v_ + k_).toNat) 1)).2.2.1 139 0) ((sm_aI S_ 139 0 (8 * v_ + k_).toNat (i_xor (S_.2.2.1 139 0 (8 * v_ + k_).toNat) 1)).2.2.1 138 0) V_ := svl_up a4_ (fun z_ => z_) (fun j_ hj_ => by rw [st9_, if_neg (by omega)]) (fun j_ hj_ => by rw [rd_ne (by decide)])
            have vl9_ : vv_.length = e1_.length + r_.length := by rw [a7_, List.length_append]
            cases r_ with
            | nil => exact ⟨u1_, c1_, ⟨y1_.1, stk_ot y1_.2.1 (by decide), stk_ot y1_.2.2 (by decide)⟩, y2_, y4_, Gr_, vv_, V_, e1_, [], a1_, a2_, rgl_st a3_, sv9_, by rw [rd_ne (by decide)]; exact a5_, a6_, a7_, Or.inr ⟨rfl, by rcases a8_ with z_ | z_; omega; (have := z_.2; omega)⟩, fun z_ => rwv_gt (a9_ z_) (by rw [List.append_nil, List.length_map]; rcases a8_ with q_ | q_; omega; (have := q_.2; omega)) st9_⟩
            | cons r0_ r_ => have kk9_ : (e1_.length : Int) = k_ := (by rcases a8_ with z_ | z_; exact z_; (exact absurd z_.1 (fun q_ => by cases q_))); refine ⟨u1_, c1_, ⟨y1_.1, stk_ot y1_.2.1 (by decide), stk_ot y1_.2.2 (by decide)⟩, y2_, y4_, Gr_, vv_, V_, e1_ ++ [r0_], r_, a1_, a2_, rgl_st a3_, sv9_, by rw [rd_ne (by decide)]; exact a5_, a6_, by rw [a7_, List.append_assoc]; rfl, Or.inl (by simp only [List.length_append, List.length_cons, List.length_nil]; push_cast; omega), fun z_ => ?_⟩; rw [map_mid]; have q8_ := rwv_m (a9_ z_); rw [List.length_map] at q8_; have q7_ : (8 * v_ + k_).toNat = 8 * V_.length + e1_.length := (by omega); exact rwv_set (q_ := (8 * v_ + k_).toNat) (a9_ z_) (by rw [List.length_map]; exact q7_) (fun j_ => by rw [st9_, q7_, q8_])
          · (try simp only [rd_eq, rd_ne, rf_eq, rf_nk, rf_nt, rd_fa, rd_af, ne_eq, Nat.reduceEqDiff, not_false_eq_true]); omega
        · have cx7_ : ¬ ((S_.1 13 0 27) ≠ 2) := of_decide_eq_false cx7_
          exfalso; omega
set_option maxHeartbeats 400000 in
set_option maxRecDepth 20000 in
theorem vc_317g {sc_ : Nat × (Nat → Int)} (b_ : Nat → Int) (n_ : Nat) (T_ : Nat) (F_ : Nat) (I_ : Nat) (A_ : pA) (X_ : Nat → gQ → gE → Option (gQ × gE)) (m_ : Nat) (s0_ : gS) (t_ : Bool) (o_ : List (Int × Nat)) (x_ : Int) (g_ : List Int) (c_ : List Int) (w_ : List (Int × Int)) (S0_ : sm_S) (hI_ : gi S0_) (hw_ : ws w_ S0_) (hwt_ : wt b_ n_ T_ t_ o_ w_) (ho_ : o_ok false o_) (hvl_ : (S0_.1 13 0 34) = (g_.length : Int) + 1) (hmo_ : (S0_.1 13 0 27) = 1) (hgl_ : g_.length ≤ 1000) (hX_ : xg F_ I_ A_ X_ m_ s0_ (x_ :: g_) c_ S0_) : sm_T (mt_P sc_) 1 317 (0, [some (.inr (.inr (some (13, 0)))), none, none], [], S0_) (fun ro9_ => ∃ u_ S1_, ro9_ = (.inl u_, S1_, 0) ∧ vq_317g b_ n_ T_ F_ I_ A_ X_ m_ s0_ t_ o_ x_ g_ c_ w_ S0_ u_ S1_) := by
  have hF_ : ai_fr (sx_W vw_317g) S0_ S0_ := ai_fr_rf
  refine (vl_317g b_ n_ T_ F_ I_ A_ X_ m_ s0_ t_ o_ x_ g_ c_ w_ S0_ hw_ hwt_ ho_ hvl_ hmo_ hgl_ hX_ _).1  S0_ hI_ hF_ ⟨?_, trivial⟩ (Nat.lt_succ_self _)
  · exact ⟨t_, w_, c_, hw_, hwt_, hX_, rfl⟩
