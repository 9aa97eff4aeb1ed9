/-! 99.zc4c -/
section
/-! M_.turn -/
def vw_317g : sx_Wl := ([(13, 32)], [139], [])
def vq_317g (b_ : Nat → Int) (n_ : Nat) (T_ : Nat) (F_ : Nat) (I_ : Nat) (A_ : pA) (X_ : Nat → gQ → gE → Option (gQ × gE)) (m_ : Nat) (s0_ : gS) (t_ : Bool) (o_ : List (Int × Nat)) (x_ : Int) (g_ : List Int) (c_ : List Int) (w_ : List (Int × Int)) (S0_ : sm_S) (u_ : Option sm_V) (S1_ : sm_S) : Prop := u_ = none ∧ gi S1_ ∧ ai_fr (sx_W vw_317g) S0_ S1_ ∧ (∃ w1_, ws w1_ S1_ ∧ wl b_ n_ T_ o_ w1_ ∧ xg F_ I_ A_ X_ m_ s0_ (x_ :: g_) (p_ti false t_ (x_ :: g_) c_).2 S1_)
set_option maxHeartbeats 400000 in
set_option maxRecDepth 20000 in
theorem vl_317g {sc_ : Nat × (Nat → Int)} (b_ : Nat → Int) (n_ : Nat) (T_ : Nat) (F_ : Nat) (I_ : Nat) (A_ : pA) (X_ : Nat → gQ → gE → Option (gQ × gE)) (m_ : Nat) (s0_ : gS) (t_ : Bool) (o_ : List (Int × Nat)) (x_ : Int) (g_ : List Int) (c_ : List Int) (w_ : List (Int × Int)) (S0_ : sm_S) (hw_ : ws w_ S0_) (hwt_ : wt b_ n_ T_ t_ o_ w_) (ho_ : o_ok false o_) (hvl_ : (S0_.1 13 0 34) = (g_.length : Int) + 1) (hmo_ : (S0_.1 13 0 27) = 1) (hgl_ : g_.length ≤ 1000) (hX_ : xg F_ I_ A_ X_ m_ s0_ (x_ :: g_) c_ S0_) : ∀ nn_ : Nat, (∀  (S_ : sm_S), gi S_ → ai_fr (sx_W vw_317g) S0_ S_ → ((∃ t1_ w1_ c1_, ws w1_ S_ ∧ wt b_ n_ T_ t1_ o_ w1_ ∧ xg F_ I_ A_ X_ m_ s0_ (x_ :: g_) c1_ S_ ∧ (p_ti false t1_ (x_ :: g_) c1_).2 = (p_ti false t_ (x_ :: g_) c_).2) ∧ True) → ((20 * (S_.1 13 0 32) + 10).toNat) < nn_ → sm_T (mt_P sc_) 1 317 (0, [some (.inr (.inr (some (13, 0)))), none, none], [], S_) (fun ro9_ => ∃ u_ S1_, ro9_ = (.inl u_, S1_, 0) ∧ vq_317g b_ n_ T_ F_ I_ A_ X_ m_ s0_ t_ o_ x_ g_ c_ w_ S0_ u_ S1_)) ∧ (∀ (v_ : Int) (k_ : Int) (S_ : sm_S), gi S_ → ai_fr (sx_W vw_317g) S0_ S_ → ((0 ≤ k_ ∧ k_ ≤ 8 ∧ v_ = (g_.length : Int)) ∧ (∃ u1_ c1_, ws ((33, 1) :: u1_) S_ ∧ wl b_ n_ T_ o_ u1_ ∧ (p_ti false true (x_ :: g_) c1_).2 = (p_ti false t_ (x_ :: g_) c_).2 ∧ ∃ Gr_ vv_ V_ e1_ r_, ev F_ I_ A_ X_ m_ s0_ c1_ = some ((Gr_, s0_.1.2), s0_.2.1, s0_.2.2.1, vv_ :: V_) ∧ (vv_ :: V_).map (fun v_ => (v_.length : Int)) = x_ :: g_ ∧ rgl F_ Gr_ S_ ∧ svl (Gr_.length ≤ 1001) (S_.2.2.1 139 0) (S_.2.2.1 138 0) V_ ∧ S_.2.2.1 138 0 V_.length = (vv_.length : Int) ∧ (1 ≤ vv_.length ∧ vv_.length ≤ 8) ∧ vv_ = e1_ ++ r_ ∧ ((e1_.length : Int) = k_ ∨ (r_ = [] ∧ (e1_.length : Int) ≤ k_)) ∧ (imq (Gr_.length ≤ 1001) (rwv (S_.2.2.1 139 0) (8 * V_.length) (e1_.map (fun z_ => i_xor z_ 1) ++ r_)))) ∧ True) → ((20 * (S_.1 13 0 32) + 9 - k_).toNat) < nn_ → sm_T (mt_P sc_) 1 317 (33, [some (.inr (.inr (some (13, 0)))), some (.inl v_), some (.inl k_)], [], S_) (fun ro9_ => ∃ u_ S1_, ro9_ = (.inl u_, S1_, 0) ∧ vq_317g b_ n_ T_ F_ I_ A_ X_ m_ s0_ t_ o_ x_ g_ c_ w_ S0_ u_ S1_)) := by
  intro nn_
  induction nn_ with
  | zero => exact ⟨fun  _ _ _ _ h_ => absurd h_ (Nat.not_lt_zero _), fun _ _ _ _ _ _ h_ => absurd h_ (Nat.not_lt_zero _)⟩
  | succ nn_ ih_ =>
    refine ⟨?_, ?_⟩
    · rintro  S_ hI_ hF_ ⟨h1_, -⟩ hm_
      obtain ⟨t1_, w1_, c1_, y1_, y2_, y3_, y4_⟩ := h1_
      have hmo1_ : S_.1 13 0 27 = 1 := (hF_.1 13 0 27 rfl).trans hmo_
      have wt1_ := wt_tp y2_ ho_
      have v1_ : S_.1 13 0 34 = (g_.length : Int) + 1 := (hF_.1 13 0 34 rfl).trans hvl_
      refine sm_T_go 1 (c1 := (1, [some (.inr (.inr (some (13, 0)))), none, none], [.inr (.inr (some (13, 0)))], S_)) rfl ?_
      refine sm_T_cal (d1 := 0) (Q1 := vq_312 w1_ S_) rfl rfl (by decide) (vc_312 w1_ S_ hI_ (by exact y1_)) (fun u_ Sx1_ px4_ => ?_)
      obtain ⟨rfl, vx6_, rfl, px4_⟩ := px4_
      have e1_ := px4_
      refine sm_T_go 1 (c1 := (6, [some (.inr (.inr (some (13, 0)))), none, none], [.inl 33, .inl vx6_], S_)) rfl ?_
      refine sm_T_br (a := 1) (z := 81) rfl (fun cx7_ => ?_) (fun cx7_ => ?_)
      · have cx7_ : vx6_ ≠ 33 := of_decide_eq_true cx7_
        refine sm_T_rv rfl ⟨_, _, rfl, rfl, hI_, hF_, ?_⟩
        obtain ⟨q1_, q2_⟩ := wt1_.2 (by omega)
        subst q1_
        rw [ti2, if_neg (by decide)] at y4_
        rw [← y4_]
        exact ⟨w1_, y1_, q2_, y3_⟩
      · have cx7_ : ¬ (vx6_ ≠ 33) := of_decide_eq_false cx7_
        obtain ⟨u1_, hu1_, hu2_⟩ := wt1_.1 (by omega)
        subst hu1_
        have wx_ : S_.1 13 0 32 = (u1_.length : Int) + 1 := by rw [y1_.1, List.length_cons]; push_cast; rfl
        obtain ⟨-, y9_, u9_, w3_, w4_, w5_⟩ := ws_tp y1_ (by omega)
        cases w3_
        have w6_ : S_.2.2.1 137 0 (S_.1 13 0 32 - 1).toNat = (if t1_ = true then 1 else 0) := w4_
        have bx8_ : 0 ≤ S_.1 13 0 32 ∧ S_.1 13 0 32 ≤ 1023 := hI_.1 13 0 32 rfl
        refine sm_T_go 5 (c1 := (18, [some (.inr (.inr (some (13, 0)))), none, none], [.inl 1, .inl (S_.1 13 0 32), .inr (.inr (some (137, 0)))], S_)) rfl ?_
        refine sm_T_bin (w := (S_.1 13 0 32) - 1) rfl (bi_sub (by omega) (by omega) (by omega)) ?_
        refine sm_T_iald (n := 1024) rfl rfl (by omega) (by omega) ?_
        have bx9_ : 0 ≤ S_.2.2.1 137 0 ((S_.1 13 0 32) - 1).toNat ∧ S_.2.2.1 137 0 ((S_.1 13 0 32) - 1).toNat ≤ 1280 := hI_.2 137 0 _
        refine sm_T_go 1 (c1 := (21, [some (.inr (.inr (some (13, 0)))), none, none], [.inl 1, .inl (S_.2.2.1 137 0 ((S_.1 13 0 32) - 1).toNat)], S_)) rfl ?_
        refine sm_T_br (a := 1) (z := 53) rfl (fun cx10_ => ?_) (fun cx10_ => ?_)
        · have cx10_ : (S_.2.2.1 137 0 ((S_.1 13 0 32) - 1).toNat) ≠ 1 := of_decide_eq_true cx10_
          refine sm_T_go 4 (c1 := (80, [some (.inr (.inr (some (13, 0)))), none, none], [.inl 1, .inl (S_.1 13 0 32), .inr (.inr (some (13, 0)))], S_)) rfl ?_
          refine sm_T_bin (w := (S_.1 13 0 32) - 1) rfl (bi_sub (by omega) (by omega) (by omega)) ?_
          have hIx11_ : gi (sm_pI S_ 13 0 32 ((S_.1 13 0 32) - 1)) := gi_pI hI_ (show 0 ≤ (S_.1 13 0 32) - 1 ∧ (S_.1 13 0 32) - 1 ≤ 1023 from ⟨by omega, by omega⟩)
          have hFx12_ : ai_fr (sx_W vw_317g) S0_ (sm_pI S_ 13 0 32 ((S_.1 13 0 32) - 1)) := ai_fr_tr hF_ (ai_fr_pI rfl)
          refine sm_T_go 2 (c1 := (0, [some (.inr (.inr (some (13, 0)))), none, none], [], sm_pI S_ 13 0 32 ((S_.1 13 0 32) - 1))) rfl ?_
          refine ih_.1  (sm_pI S_ 13 0 32 ((S_.1 13 0 32) - 1)) hIx11_ hFx12_ ⟨?_, trivial⟩ ?_
          · have ht1_ : t1_ = false := by cases t1_; rfl; (rw [if_pos rfl] at w6_; omega)
            subst ht1_
            obtain ⟨Gr_, V0_, xe_, xm_, xr, xv_⟩ := y3_
            exact ⟨false, u1_, c1_, ws_pop y1_ rfl rfl rfl, Or.inl ⟨rfl, hu2_⟩, ⟨Gr_, V0_, xe_, xm_, rgl_fr (w_ := ([(13, 32)], [], [])) xr (ai_fr_pI rfl) rfl rfl rfl rfl rfl rfl, xv_⟩, y4_⟩
          · (try simp only [rd_eq, rd_ne, rf_eq, rf_nk, rf_nt, rd_fa, rd_af, ne_eq, Nat.reduceEqDiff, not_false_eq_true]); omega
        · have cx10_ : ¬ ((S_.2.2.1 137 0 ((S_.1 13 0 32) - 1).toNat) ≠ 1) := of_decide_eq_false cx10_
          have bx13_ : 0 ≤ S_.1 13 0 34 ∧ S_.1 13 0 34 ≤ 1023 := hI_.1 13 0 34 rfl
          refine sm_T_go 3 (c1 := (29, [some (.inr (.inr (some (13, 0)))), none, none], [.inl 1, .inl (S_.1 13 0 34)], S_)) rfl ?_
          refine sm_T_bin (w := (S_.1 13 0 34) - 1) rfl (bi_sub (by omega) (by omega) (by omega)) ?_
          refine sm_T_go 3 (c1 := (33, [some (.inr (.inr (some (13, 0)))), some (.inl ((S_.1 13 0 34) - 1)), some (.inl 0)], [], S_)) rfl ?_
          refine ih_.2 ((S_.1 13 0 34) - 1) 0 S_ hI_ hF_ ⟨?_, ?_, trivial⟩ ?_
          · omega
          · have ht1_ : t1_ = true := by cases t1_; (rw [if_neg (by decide)] at w6_; omega); rfl
            subst ht1_
            obtain ⟨Gr_, V0_, xe_, xm_, xr, xv_⟩ := y3_
            obtain ⟨vv_, V_, rfl, ly_, xm1_⟩ := mp_c xm_
            exact ⟨u1_, c1_, y1_, hu2_, y4_, Gr_, vv_, V_, [], vv_, xe_, xm_, xr, xv_.2.2.2, xv_.1, xv_.2.1, rfl, Or.inl rfl, fun z_ => xv_.2.2.1 z_⟩
          · omega
    · rintro v_ k_ S_ hI_ hF_ ⟨h0_, h1_, -⟩ hm_
      obtain ⟨u1_, c1_, y1_, y2_, y4_, Gr_, vv_, V_, e1_, r_, a1_, a2_, a3_, a4_, a5_, a6_, a7_, a8_, a9_⟩ := h1_
      have hmo1_ : S_.1 13 0 27 = 1 := (hF_.1 13 0 27 rfl).trans hmo_
      have wx_ : S_.1 13 0 32 = (u1_.length : Int) + 1 := by rw [y1_.1, List.length_cons]; push_cast; rfl
      have Vl_ : V_.length = g_.length := by have q9_ := congrArg List.length a2_; simp only [List.length_map, List.length_cons] at q9_; omega
      refine sm_T_go 2 (c1 := (36, [some (.inr (.inr (some (13, 0)))), some (.inl v_), some (.inl k_)], [.inl 8, .inl k_], S_)) rfl ?_
      refine sm_T_br (a := 3) (z := 38) rfl (fun cx1_ => ?_) (fun cx1_ => ?_)
      · have cx1_ : 8 ≤ k_ := of_decide_eq_true cx1_
        have bx2_ : 0 ≤ S_.1 13 0 32 ∧ S_.1 13 0 32 ≤ 1023 := hI_.1 13 0 32 rfl
        refine sm_T_go 4 (c1 := (80, [some (.inr (.inr (some (13, 0)))), some (.inl v_), some (.inl k_)], [.inl 1, .inl (S_.1 13 0 32), .inr (.inr (some (13, 0)))], S_)) rfl ?_
        refine sm_T_bin (w := (S_.1 13 0 32) - 1) rfl (bi_sub (by omega) (by omega) (by omega)) ?_
        have hIx3_ : gi (sm_pI S_ 13 0 32 ((S_.1 13 0 32) - 1)) := gi_pI hI_ (show 0 ≤ (S_.1 13 0 32) - 1 ∧ (S_.1 13 0 32) - 1 ≤ 1023 from ⟨by omega, by omega⟩)
        have hFx4_ : ai_fr (sx_W vw_317g) S0_ (sm_pI S_ 13 0 32 ((S_.1 13 0 32) - 1)) := ai_fr_tr hF_ (ai_fr_pI rfl)
        refine sm_T_go 2 (c1 := (0, [some (.inr (.inr (some (13, 0)))), some (.inl v_), some (.inl k_)], [], sm_pI S_ 13 0 32 ((S_.1 13 0 32) - 1))) rfl ?_
        refine sm_T_wk [some (.inr (.inr (some (13, 0)))), none, none] (by exact ⟨rfl, trivial⟩) ?_
        refine ih_.1  (sm_pI S_ 13 0 32 ((S_.1 13 0 32) - 1)) hIx3_ hFx4_ ⟨?_, trivial⟩ ?_
        · have r0_ : r_ = [] := by rcases a8_ with z_ | z_; (have q9_ := congrArg List.length a7_; rw [List.length_append] at q9_; exact List.eq_nil_of_length_eq_zero (by omega)); (exact z_.1)
          subst r0_
          rw [List.append_nil] at a7_
          subst a7_
          rw [ti2, if_pos rfl] at y4_
          refine ⟨false, u1_, 6 :: c1_, ws_pop y1_ rfl rfl rfl, Or.inl ⟨rfl, y2_⟩, ⟨Gr_, vv_.map (fun z_ => i_xor z_ 1) :: V_, ev_no a1_, ?_, rgl_fr (w_ := ([(13, 32)], [], [])) a3_ (ai_fr_pI rfl) rfl rfl rfl rfl rfl rfl, ?_⟩, y4_⟩
          · rw [← a2_, List.map_cons, List.map_cons, List.length_map]
          · refine ⟨by rw [List.length_map]; exact a5_, by rw [List.length_map]; exact a6_, fun z_ => ?_, a4_⟩; have q9_ := a9_ z_; rw [List.append_nil] at q9_; exact q9_
        · (try simp only [rd_eq, rd_ne, rf_eq, rf_nk, rf_nt, rd_fa, rd_af, ne_eq, Nat.reduceEqDiff, not_false_eq_true]); omega
      · have cx1_ : ¬ (8 ≤ k_) := of_decide_eq_false cx1_
        refine sm_T_go 4 (c1 := (46, [some (.inr (.inr (some (13, 0)))), some (.inl v_), some (.inl k_)], [.inl v_, .inl 8, .inr (.inr (some (139, 0)))], S_)) rfl ?_
        refine sm_T_bin (w := 8 * v_) rfl (bi_mul (by omega) (by omega) (by omega)) ?_
        refine sm_T_go 1 (c1 := (48, [some (.inr (.inr (some (13, 0)))), some (.inl v_), some (.inl k_)], [.inl k_, .inl (8 * v_), .inr (.inr (some (139, 0)))], S_)) rfl ?_
        refine sm_T_bin (w := 8 * v_ + k_) rfl (bi_add (by omega) (by omega) (by omega)) ?_
        refine sm_T_go 1 (c1 := (50, [some (.inr (.inr (some (13, 0)))), some (.inl v_), some (.inl k_)], [.inl (8 * v_ + k_), .inr (.inr (some (139, 0))), .inl (8 * v_ + k_), .inr (.inr (some (139, 0)))], S_)) rfl ?_
        refine sm_T_iald (n := 8192) rfl rfl (by omega) (by omega) ?_
        have bx5_ : 0 ≤ S_.2.2.1 139 0 (8 * v_ + k_).toNat ∧ S_.2.2.1 139 0 (8 * v_ + k_).toNat ≤ 2047 := hI_.2 139 0 _
        have bx6_ : 0 ≤ S_.1 13 0 27 ∧ S_.1 13 0 27 ≤ 2 := hI_.1 13 0 27 rfl
        refine sm_T_go 3 (c1 := (56, [some (.inr (.inr (some (13, 0)))), some (.inl v_), some (.inl k_)], [.inl 2, .inl (S_.1 13 0 27), .inl (S_.2.2.1 139 0 (8 * v_ + k_).toNat), .inl (8 * v_ + k_), .inr (.inr (some (139, 0)))], S_)) rfl ?_
        refine sm_T_br (a := 1) (z := 9) rfl (fun cx7_ => ?_) (fun cx7_ => ?_)
        · have cx7_ : (S_.1 13 0 27) ≠ 2 := of_decide_eq_true cx7_
          refine sm_T_go 1 (c1 := (66, [some (.inr (.inr (some (13, 0)))), some (.inl v_), some (.inl k_)], [.inl 1, .inl (S_.2.2.1 139 0 (8 * v_ + k_).toNat), .inl (8 * v_ + k_), .inr (.inr (some (139, 0)))], S_)) rfl ?_
          refine sm_T_bin (w := (i_xor (S_.2.2.1 139 0 (8 * v_ + k_).toNat) 1)) rfl rfl ?_
          have bx8_ := i_x1 (x_ := (S_.2.2.1 139 0 (8 * v_ + k_).toNat)) (by omega)
          refine sm_T_iast (n := 8192) rfl rfl (by omega) (by omega) ?_
          have hIx9_ : gi (sm_aI S_ 139 0 (8 * v_ + k_).toNat (i_xor (S_.2.2.1 139 0 (8 * v_ + k_).toNat) 1)) := gi_aI hI_ (show 0 ≤ (i_xor (S_.2.2.1 139 0 (8 * v_ + k_).toNat) 1) ∧ (i_xor (S_.2.2.1 139 0 (8 * v_ + k_).toNat) 1) ≤ 2047 from ⟨by omega, by omega⟩)
          have hFx10_ : ai_fr (sx_W vw_317g) S0_ (sm_aI S_ 139 0 (8 * v_ + k_).toNat (i_xor (S_.2.2.1 139 0 (8 * v_ + k_).toNat) 1)) := ai_fr_tr hF_ (ai_fr_aI rfl)
          refine sm_T_inc (a := 2) (z := 1) (v := k_) (w := k_ + 1) rfl rfl (by omega) (by omega) (by omega) ?_
          refine sm_T_go 1 (c1 := (33, [some (.inr (.inr (some (13, 0)))), some (.inl v_), some (.inl (k_ + 1))], [], sm_aI S_ 139 0 (8 * v_ + k_).toNat (i_xor (S_.2.2.1 139 0 (8 * v_ + k_).toNat) 1))) rfl ?_
          refine ih_.2 v_ (k_ + 1) (sm_aI S_ 139 0 (8 * v_ + k_).toNat (i_xor (S_.2.2.1 139 0 (8 * v_ + k_).toNat) 1)) hIx9_ hFx10_ ⟨?_, ?_, trivial⟩ ?_
          · omega
          · have st9_ : ∀ j_, (sm_aI S_ 139 0 (8 * v_ + k_).toNat (i_xor (S_.2.2.1 139 0 (8 * v_ + k_).toNat) 1)).2.2.1 139 0 j_ = if j_ = (8 * v_ + k_).toNat then i_xor (S_.2.2.1 139 0 (8 * v_ + k_).toNat) 1 else S_.2.2.1 139 0 j_ := fun j_ => rd_eq
            have sv9_ : svl (Gr_.length ≤ 1001) ((sm_aI S_ 139 0 (8 * v_ + k_).toNat (i_xor (S_.2.2.1 139 0 (8 * v_ + k_).toNat) 1)).2.2.1 139 0) ((sm_aI S_ 139 0 (8 * v_ + k_).toNat (i_xor (S_.2.2.1 139 0 (8 * v_ + k_).toNat) 1)).2.2.1 138 0) V_ := svl_up a4_ (fun z_ => z_) (fun j_ hj_ => by rw [st9_, if_neg (by omega)]) (fun j_ hj_ => by rw [rd_ne (by decide)])
            have vl9_ : vv_.length = e1_.length + r_.length := by rw [a7_, List.length_append]
            cases r_ with
            | nil => exact ⟨u1_, c1_, ⟨y1_.1, stk_ot y1_.2.1 (by decide), stk_ot y1_.2.2 (by decide)⟩, y2_, y4_, Gr_, vv_, V_, e1_, [], a1_, a2_, rgl_st a3_, sv9_, by rw [rd_ne (by decide)]; exact a5_, a6_, a7_, Or.inr ⟨rfl, by rcases a8_ with z_ | z_; omega; (have := z_.2; omega)⟩, fun z_ => rwv_gt (a9_ z_) (by rw [List.append_nil, List.length_map]; rcases a8_ with q_ | q_; omega; (have := q_.2; omega)) st9_⟩
            | cons r0_ r_ => have kk9_ : (e1_.length : Int) = k_ := (by rcases a8_ with z_ | z_; exact z_; (exact absurd z_.1 (fun q_ => by cases q_))); refine ⟨u1_, c1_, ⟨y1_.1, stk_ot y1_.2.1 (by decide), stk_ot y1_.2.2 (by decide)⟩, y2_, y4_, Gr_, vv_, V_, e1_ ++ [r0_], r_, a1_, a2_, rgl_st a3_, sv9_, by rw [rd_ne (by decide)]; exact a5_, a6_, by rw [a7_, List.append_assoc]; rfl, Or.inl (by simp only [List.length_append, List.length_cons, List.length_nil]; push_cast; omega), fun z_ => ?_⟩; rw [map_mid]; have q8_ := rwv_m (a9_ z_); rw [List.length_map] at q8_; have q7_ : (8 * v_ + k_).toNat = 8 * V_.length + e1_.length := (by omega); exact rwv_set (q_ := (8 * v_ + k_).toNat) (a9_ z_) (by rw [List.length_map]; exact q7_) (fun j_ => by rw [st9_, q7_, q8_])
          · (try simp only [rd_eq, rd_ne, rf_eq, rf_nk, rf_nt, rd_fa, rd_af, ne_eq, Nat.reduceEqDiff, not_false_eq_true]); omega
        · have cx7_ : ¬ ((S_.1 13 0 27) ≠ 2) := of_decide_eq_false cx7_
          exfalso; omega
set_option maxHeartbeats 400000 in
set_option maxRecDepth 20000 in
theorem vc_317g {sc_ : Nat × (Nat → Int)} (b_ : Nat → Int) (n_ : Nat) (T_ : Nat) (F_ : Nat) (I_ : Nat) (A_ : pA) (X_ : Nat → gQ → gE → Option (gQ × gE)) (m_ : Nat) (s0_ : gS) (t_ : Bool) (o_ : List (Int × Nat)) (x_ : Int) (g_ : List Int) (c_ : List Int) (w_ : List (Int × Int)) (S0_ : sm_S) (hI_ : gi S0_) (hw_ : ws w_ S0_) (hwt_ : wt b_ n_ T_ t_ o_ w_) (ho_ : o_ok false o_) (hvl_ : (S0_.1 13 0 34) = (g_.length : Int) + 1) (hmo_ : (S0_.1 13 0 27) = 1) (hgl_ : g_.length ≤ 1000) (hX_ : xg F_ I_ A_ X_ m_ s0_ (x_ :: g_) c_ S0_) : sm_T (mt_P sc_) 1 317 (0, [some (.inr (.inr (some (13, 0)))), none, none], [], S0_) (fun ro9_ => ∃ u_ S1_, ro9_ = (.inl u_, S1_, 0) ∧ vq_317g b_ n_ T_ F_ I_ A_ X_ m_ s0_ t_ o_ x_ g_ c_ w_ S0_ u_ S1_) := by
  have hF_ : ai_fr (sx_W vw_317g) S0_ S0_ := ai_fr_rf
  refine (vl_317g b_ n_ T_ F_ I_ A_ X_ m_ s0_ t_ o_ x_ g_ c_ w_ S0_ hw_ hwt_ ho_ hvl_ hmo_ hgl_ hX_ _).1  S0_ hI_ hF_ ⟨?_, trivial⟩ (Nat.lt_succ_self _)
  · exact ⟨t_, w_, c_, hw_, hwt_, hX_, rfl⟩
end
/-! 99.zc5a -/
section
/-! the reference: constants, second pass; written by wip/p55/gen/vg -/

/-! what stands between operators, second pass -/
def rowat (gl_ : Nat) (w_ : Int) (f_ : Nat → Int) (S0_ S1_ : sm_S) : Prop := (∀ j_, S1_.2.2.1 138 0 j_ = if j_ = gl_ then w_ else S0_.2.2.1 138 0 j_) ∧ (∀ j_, j_ < 8 → S1_.2.2.1 139 0 (8 * gl_ + j_) = f_ j_) ∧ (∀ j_, j_ < 8 * gl_ ∨ 8 * gl_ + 8 ≤ j_ → S1_.2.2.1 139 0 j_ = S0_.2.2.1 139 0 j_)
theorem co_r {b_ : Nat → Int} {n_ p_ : Nat} {r_ : Nat × Int × List Int} (h_ : p_co b_ n_ p_ = .inr r_) : ∃ q_ r3_ u_, p_ad b_ n_ p_ = .inr q_ ∧ lx_kd b_ n_ q_ = 64 ∧ p_ad b_ n_ q_ = .inr r3_ ∧ lx_kd b_ n_ r3_ = 2 ∧ (1 ≤ lx_vl b_ n_ r3_ ∧ lx_vl b_ n_ r3_ ≤ 8) ∧ p_ad b_ n_ r3_ = .inr u_ ∧ lx_vl b_ n_ p_ / 2 ^ (lx_vl b_ n_ r3_).toNat = 0 ∧ r_ = (u_, lx_vl b_ n_ r3_, [cw 8 (lx_vl b_ n_ r3_) (lx_vl b_ n_ p_)]) := by
  unfold p_co at h_
  obtain ⟨q_, h1_, h2_⟩ := pb_inr h_
  split at h2_
  · rename_i g_
    obtain ⟨r3_, h3_, h4_⟩ := pb_inr h2_
    obtain ⟨w_, h5_, h6_⟩ := pb_inr h4_
    obtain ⟨u_, h7_, h8_⟩ := pb_inr h6_
    unfold p_nu at h5_
    split at h5_
    · rename_i g2_
      split at h5_
      · cases h5_
      · rename_i g3_
        cases h5_
        split at h8_
        · rename_i g4_
          cases h8_
          exact ⟨q_, r3_, u_, h1_, g_, h3_, g2_, by omega, h7_, g4_, rfl⟩
        · cases h8_
    · cases h5_
  · cases h2_
theorem bp_rr {b_ : Nat → Int} {n_ p_ r_ : Nat} {wd_ : Int} (h_ : p_bp b_ n_ wd_ p_ = .inr r_) : lx_kd b_ n_ p_ = 2 ∧ (0 ≤ lx_vl b_ n_ p_ ∧ lx_vl b_ n_ p_ < wd_) ∧ p_ad b_ n_ p_ = .inr r_ := by
  unfold p_bp at h_
  obtain ⟨v_, h1_, h2_⟩ := pb_inr h_
  unfold p_nu at h1_
  split at h1_
  · rename_i g_
    split at h1_
    · cases h1_
    · exact ⟨g_, by omega, h2_⟩
  · cases h1_
/-! M_.copyValue -/
def vw_333g : sx_Wl := ([], [138, 139], [])
def vq_333g (wd_ : Int) (oi_ : Int) (fm_ : Int) (gl_ : Nat) (S0_ : sm_S) (u_ : Option sm_V) (S1_ : sm_S) : Prop := u_ = none ∧ gi S1_ ∧ ai_fr (sx_W vw_333g) S0_ S1_ ∧ (rowat gl_ wd_ (fun j_ => if oi_ = 1 then S0_.2.2.1 145 0 (fm_.toNat + j_) else S0_.2.2.1 144 0 (fm_.toNat + j_)) S0_ S1_)
set_option maxHeartbeats 400000 in
theorem vl_333g {sc_ : Nat × (Nat → Int)} (wd_ : Int) (oi_ : Int) (fm_ : Int) (gl_ : Nat) (S0_ : sm_S) (hv_ : (S0_.1 13 0 34) = (gl_ : Int) ∧ gl_ ≤ 1000) (hmo_ : (S0_.1 13 0 27) = 1) (hwd_ : 0 ≤ wd_ ∧ wd_ ≤ 8) (ho_ : (oi_ = 0 ∧ 0 ≤ fm_ ∧ fm_ + 8 ≤ 5120) ∨ (oi_ = 1 ∧ 0 ≤ fm_ ∧ fm_ + 8 ≤ 204800)) : ∀ nn_ : Nat, (∀ (k_ : Int) (S_ : sm_S), gi S_ → ai_fr (sx_W vw_333g) S0_ S_ → ((0 ≤ k_ ∧ k_ ≤ 8) ∧ (∀ j_, S_.2.2.1 138 0 j_ = if j_ = gl_ then wd_ else S0_.2.2.1 138 0 j_) ∧ (∀ j_, j_ < k_.toNat → S_.2.2.1 139 0 (8 * gl_ + j_) = if oi_ = 1 then S0_.2.2.1 145 0 (fm_.toNat + j_) else S0_.2.2.1 144 0 (fm_.toNat + j_)) ∧ (∀ j_, j_ < 8 * gl_ ∨ 8 * gl_ + 8 ≤ j_ → S_.2.2.1 139 0 j_ = S0_.2.2.1 139 0 j_) ∧ True) → ((8 - k_).toNat) < nn_ → sm_T (mt_P sc_) 0 333 (13, [some (.inr (.inr (some (13, 0)))), some (.inl wd_), some (.inl oi_), some (.inl fm_), some (.inl k_)], [], S_) (fun ro9_ => ∃ u_ S1_, ro9_ = (.inl u_, S1_, 0) ∧ vq_333g wd_ oi_ fm_ gl_ S0_ u_ S1_)) := by
  intro nn_
  induction nn_ with
  | zero => exact fun _ _ _ _ _ h_ => absurd h_ (Nat.not_lt_zero _)
  | succ nn_ ih_ =>
    rintro k_ S_ hI_ hF_ ⟨h0_, h1_, h2_, h3_, -⟩ hm_
    have v1_ : S_.1 13 0 34 = (gl_ : Int) := (hF_.1 13 0 34 rfl).trans hv_.1
    have m1_ : S_.1 13 0 27 = 1 := (hF_.1 13 0 27 rfl).trans hmo_
    have f44_ := fr_arr (t := 144) (i := 0) hF_ rfl
    have f45_ := fr_arr (t := 145) (i := 0) hF_ rfl
    refine sm_T_go 2 (c1 := (17, [some (.inr (.inr (some (13, 0)))), some (.inl wd_), some (.inl oi_), some (.inl fm_), some (.inl k_)], [.inl 8, .inl k_], S_)) rfl ?_
    refine sm_T_br (a := 3) (z := 57) rfl (fun cx1_ => ?_) (fun cx1_ => ?_)
    · have cx1_ : 8 ≤ k_ := of_decide_eq_true cx1_
      refine sm_T_rv rfl ⟨_, _, rfl, rfl, hI_, hF_, ?_⟩
      exact ⟨h1_, fun j_ hj_ => h2_ j_ (by omega), h3_⟩
    · have cx1_ : ¬ (8 ≤ k_) := of_decide_eq_false cx1_
      have bx2_ : 0 ≤ S_.1 13 0 27 ∧ S_.1 13 0 27 ≤ 2 := hI_.1 13 0 27 rfl
      refine sm_T_go 3 (c1 := (25, [some (.inr (.inr (some (13, 0)))), some (.inl wd_), some (.inl oi_), some (.inl fm_), some (.inl k_)], [.inl 1, .inl (S_.1 13 0 27)], S_)) rfl ?_
      refine sm_T_br (a := 1) (z := 49) rfl (fun cx3_ => ?_) (fun cx3_ => ?_)
      · have cx3_ : (S_.1 13 0 27) ≠ 1 := of_decide_eq_true cx3_
        exfalso; omega
      · have cx3_ : ¬ ((S_.1 13 0 27) ≠ 1) := of_decide_eq_false cx3_
        have bx4_ : 0 ≤ S_.1 13 0 34 ∧ S_.1 13 0 34 ≤ 1023 := hI_.1 13 0 34 rfl
        refine sm_T_go 5 (c1 := (38, [some (.inr (.inr (some (13, 0)))), some (.inl wd_), some (.inl oi_), some (.inl fm_), some (.inl k_)], [.inl (S_.1 13 0 34), .inl 8, .inr (.inr (some (139, 0)))], S_)) rfl ?_
        refine sm_T_bin (w := 8 * (S_.1 13 0 34)) rfl (bi_mul (by omega) (by omega) (by omega)) ?_
        refine sm_T_go 1 (c1 := (41, [some (.inr (.inr (some (13, 0)))), some (.inl wd_), some (.inl oi_), some (.inl fm_), some (.inl k_)], [.inl k_, .inl (8 * (S_.1 13 0 34)), .inr (.inr (some (139, 0)))], S_)) rfl ?_
        refine sm_T_bin (w := 8 * (S_.1 13 0 34) + k_) rfl (bi_add (by omega) (by omega) (by omega)) ?_
        refine sm_T_go 1 (c1 := (43, [some (.inr (.inr (some (13, 0)))), some (.inl wd_), some (.inl oi_), some (.inl fm_), some (.inl k_)], [.inl oi_, .inl (8 * (S_.1 13 0 34) + k_), .inr (.inr (some (139, 0)))], S_)) rfl ?_
        refine sm_T_b0 (a := 0) (z := 15) rfl (fun cx5_ => ?_) (fun cx5_ => ?_)
        · have cx5_ : oi_ = 0 := of_decide_eq_true cx5_
          refine sm_T_go 4 (c1 := (65, [some (.inr (.inr (some (13, 0)))), some (.inl wd_), some (.inl oi_), some (.inl fm_), some (.inl k_)], [.inl k_, .inl fm_, .inr (.inr (some (144, 0))), .inl (8 * (S_.1 13 0 34) + k_), .inr (.inr (some (139, 0)))], S_)) rfl ?_
          refine sm_T_bin (w := fm_ + k_) rfl (bi_add (by omega) (by omega) (by omega)) ?_
          refine sm_T_iald (n := 5120) rfl rfl (by omega) (by omega) ?_
          have bx6_ : 0 ≤ S_.2.2.1 144 0 (fm_ + k_).toNat ∧ S_.2.2.1 144 0 (fm_ + k_).toNat ≤ 2047 := hI_.2 144 0 _
          refine sm_T_iast (n := 8192) rfl rfl (by omega) (by omega) ?_
          have hIx7_ : gi (sm_aI S_ 139 0 (8 * (S_.1 13 0 34) + k_).toNat (S_.2.2.1 144 0 (fm_ + k_).toNat)) := gi_aI hI_ (show 0 ≤ (S_.2.2.1 144 0 (fm_ + k_).toNat) ∧ (S_.2.2.1 144 0 (fm_ + k_).toNat) ≤ 2047 from ⟨by omega, by omega⟩)
          have hFx8_ : ai_fr (sx_W vw_333g) S0_ (sm_aI S_ 139 0 (8 * (S_.1 13 0 34) + k_).toNat (S_.2.2.1 144 0 (fm_ + k_).toNat)) := ai_fr_tr hF_ (ai_fr_aI rfl)
          refine sm_T_inc (a := 4) (z := 1) (v := k_) (w := k_ + 1) rfl rfl (by omega) (by omega) (by omega) ?_
          refine sm_T_go 1 (c1 := (13, [some (.inr (.inr (some (13, 0)))), some (.inl wd_), some (.inl oi_), some (.inl fm_), some (.inl (k_ + 1))], [], sm_aI S_ 139 0 (8 * (S_.1 13 0 34) + k_).toNat (S_.2.2.1 144 0 (fm_ + k_).toNat))) rfl ?_
          refine ih_ (k_ + 1) (sm_aI S_ 139 0 (8 * (S_.1 13 0 34) + k_).toNat (S_.2.2.1 144 0 (fm_ + k_).toNat)) hIx7_ hFx8_ ⟨?_, ?_, ?_, ?_, trivial⟩ ?_
          · omega
          · (intro j_; rw [rd_ne (by decide)]; exact h1_ j_)
          · intro j_ hj_
            by_cases z_ : j_ < k_.toNat
            · rw [rd_eq, if_neg (by omega)]; exact h2_ j_ z_
            · have zj_ : j_ = k_.toNat := by omega
              rw [rd_eq, if_pos (by omega), zj_]
              first | (rw [if_pos (by omega), f45_, show (fm_ + k_).toNat = fm_.toNat + k_.toNat by omega]; done) | (rw [if_neg (by omega), f44_, show (fm_ + k_).toNat = fm_.toNat + k_.toNat by omega])
          · (intro j_ hj_; rw [rd_eq, if_neg (by omega)]; exact h3_ j_ hj_)
          · omega
        · have cx5_ : ¬ (oi_ = 0) := of_decide_eq_false cx5_
          refine sm_T_go 4 (c1 := (53, [some (.inr (.inr (some (13, 0)))), some (.inl wd_), some (.inl oi_), some (.inl fm_), some (.inl k_)], [.inl k_, .inl fm_, .inr (.inr (some (145, 0))), .inl (8 * (S_.1 13 0 34) + k_), .inr (.inr (some (139, 0)))], S_)) rfl ?_
          refine sm_T_bin (w := fm_ + k_) rfl (bi_add (by omega) (by omega) (by omega)) ?_
          refine sm_T_iald (n := 204800) rfl rfl (by omega) (by omega) ?_
          have bx9_ : 0 ≤ S_.2.2.1 145 0 (fm_ + k_).toNat ∧ S_.2.2.1 145 0 (fm_ + k_).toNat ≤ 2047 := hI_.2 145 0 _
          refine sm_T_go 1 (c1 := (67, [some (.inr (.inr (some (13, 0)))), some (.inl wd_), some (.inl oi_), some (.inl fm_), some (.inl k_)], [.inl (S_.2.2.1 145 0 (fm_ + k_).toNat), .inl (8 * (S_.1 13 0 34) + k_), .inr (.inr (some (139, 0)))], S_)) rfl ?_
          refine sm_T_iast (n := 8192) rfl rfl (by omega) (by omega) ?_
          have hIx10_ : gi (sm_aI S_ 139 0 (8 * (S_.1 13 0 34) + k_).toNat (S_.2.2.1 145 0 (fm_ + k_).toNat)) := gi_aI hI_ (show 0 ≤ (S_.2.2.1 145 0 (fm_ + k_).toNat) ∧ (S_.2.2.1 145 0 (fm_ + k_).toNat) ≤ 2047 from ⟨by omega, by omega⟩)
          have hFx11_ : ai_fr (sx_W vw_333g) S0_ (sm_aI S_ 139 0 (8 * (S_.1 13 0 34) + k_).toNat (S_.2.2.1 145 0 (fm_ + k_).toNat)) := ai_fr_tr hF_ (ai_fr_aI rfl)
          refine sm_T_inc (a := 4) (z := 1) (v := k_) (w := k_ + 1) rfl rfl (by omega) (by omega) (by omega) ?_
          refine sm_T_go 1 (c1 := (13, [some (.inr (.inr (some (13, 0)))), some (.inl wd_), some (.inl oi_), some (.inl fm_), some (.inl (k_ + 1))], [], sm_aI S_ 139 0 (8 * (S_.1 13 0 34) + k_).toNat (S_.2.2.1 145 0 (fm_ + k_).toNat))) rfl ?_
          refine ih_ (k_ + 1) (sm_aI S_ 139 0 (8 * (S_.1 13 0 34) + k_).toNat (S_.2.2.1 145 0 (fm_ + k_).toNat)) hIx10_ hFx11_ ⟨?_, ?_, ?_, ?_, trivial⟩ ?_
          · omega
          · (intro j_; rw [rd_ne (by decide)]; exact h1_ j_)
          · intro j_ hj_
            by_cases z_ : j_ < k_.toNat
            · rw [rd_eq, if_neg (by omega)]; exact h2_ j_ z_
            · have zj_ : j_ = k_.toNat := by omega
              rw [rd_eq, if_pos (by omega), zj_]
              first | (rw [if_pos (by omega), f45_, show (fm_ + k_).toNat = fm_.toNat + k_.toNat by omega]; done) | (rw [if_neg (by omega), f44_, show (fm_ + k_).toNat = fm_.toNat + k_.toNat by omega])
          · (intro j_ hj_; rw [rd_eq, if_neg (by omega)]; exact h3_ j_ hj_)
          · omega
set_option maxHeartbeats 400000 in
theorem vc_333g {sc_ : Nat × (Nat → Int)} (wd_ : Int) (oi_ : Int) (fm_ : Int) (gl_ : Nat) (S0_ : sm_S) (hI_ : gi S0_) (hv_ : (S0_.1 13 0 34) = (gl_ : Int) ∧ gl_ ≤ 1000) (hmo_ : (S0_.1 13 0 27) = 1) (hwd_ : 0 ≤ wd_ ∧ wd_ ≤ 8) (ho_ : (oi_ = 0 ∧ 0 ≤ fm_ ∧ fm_ + 8 ≤ 5120) ∨ (oi_ = 1 ∧ 0 ≤ fm_ ∧ fm_ + 8 ≤ 204800)) : sm_T (mt_P sc_) 0 333 (0, [some (.inr (.inr (some (13, 0)))), some (.inl wd_), some (.inl oi_), some (.inl fm_), none], [], S0_) (fun ro9_ => ∃ u_ S1_, ro9_ = (.inl u_, S1_, 0) ∧ vq_333g wd_ oi_ fm_ gl_ S0_ u_ S1_) := by
  have hF_ : ai_fr (sx_W vw_333g) S0_ S0_ := ai_fr_rf
  have bx1_ : 0 ≤ S0_.1 13 0 34 ∧ S0_.1 13 0 34 ≤ 1023 := hI_.1 13 0 34 rfl
  refine sm_T_go 5 (c1 := (9, [some (.inr (.inr (some (13, 0)))), some (.inl wd_), some (.inl oi_), some (.inl fm_), none], [.inl wd_, .inl (S0_.1 13 0 34), .inr (.inr (some (138, 0)))], S0_)) rfl ?_
  refine sm_T_iast (n := 1024) rfl rfl (by omega) (by omega) ?_
  have hIx2_ : gi (sm_aI S0_ 138 0 (S0_.1 13 0 34).toNat wd_) := gi_aI hI_ (show (-2147483648) ≤ wd_ ∧ wd_ ≤ 2147483647 from ⟨by omega, by omega⟩)
  have hFx3_ : ai_fr (sx_W vw_333g) S0_ (sm_aI S0_ 138 0 (S0_.1 13 0 34).toNat wd_) := ai_fr_tr hF_ (ai_fr_aI rfl)
  refine sm_T_go 2 (c1 := (13, [some (.inr (.inr (some (13, 0)))), some (.inl wd_), some (.inl oi_), some (.inl fm_), some (.inl 0)], [], sm_aI S0_ 138 0 (S0_.1 13 0 34).toNat wd_)) rfl ?_
  refine (vl_333g wd_ oi_ fm_ gl_ S0_ hv_ hmo_ hwd_ ho_ _) 0 (sm_aI S0_ 138 0 (S0_.1 13 0 34).toNat wd_) hIx2_ hFx3_ ⟨?_, ?_, ?_, ?_, trivial⟩ (Nat.lt_succ_self _)
  · omega
  · (intro j_; rw [rd_eq, show (S0_.1 13 0 34).toNat = gl_ by omega])
  · (intro j_ hj_; exact absurd hj_ (Nat.not_lt_zero _))
  · (intro j_ hj_; exact rd_ne (by decide))
end
/-! 99.zc5b -/
section
/-! M_.bit -/
def vw_325g : sx_Wl := ([(13, 9), (13, 10), (13, 11)], [138, 139], [])
def vq_325g (wd_ : Int) (b_ : Nat → Int) (n_ : Nat) (T_ : Nat) (p_ : Nat) (gl_ : Nat) (r_ : Nat) (S0_ : sm_S) (u_ : Option sm_V) (S1_ : sm_S) : Prop := u_ = none ∧ gi S1_ ∧ ai_fr (sx_W vw_325g) S0_ S1_ ∧ (rg b_ n_ T_ (.inr r_) S1_ ∧ (∀ j_, S1_.2.2.1 138 0 j_ = if j_ = gl_ then 1 else S0_.2.2.1 138 0 j_) ∧ ∀ j_, S1_.2.2.1 139 0 j_ = if j_ = 8 * gl_ then S0_.2.2.1 139 0 (8 * gl_ + (lx_vl b_ n_ p_).toNat) else S0_.2.2.1 139 0 j_)
set_option maxHeartbeats 1000000 in
theorem vc_325g {sc_ : Nat × (Nat → Int)} (wd_ : Int) (b_ : Nat → Int) (n_ : Nat) (T_ : Nat) (p_ : Nat) (gl_ : Nat) (r_ : Nat) (S0_ : sm_S) (hI_ : gi S0_) (ht_ : rtab b_ n_ T_ S0_) (hx_ : rg b_ n_ T_ (.inr p_) S0_) (hv_ : (S0_.1 13 0 34) = (gl_ : Int) ∧ gl_ ≤ 1000) (hmo_ : (S0_.1 13 0 27) = 1) (hwd_ : 0 ≤ wd_ ∧ wd_ ≤ 8) (hb_ : p_bp b_ n_ wd_ p_ = .inr r_) : sm_T (mt_P sc_) 3 325 (0, [some (.inr (.inr (some (13, 0)))), some (.inl wd_), none], [], S0_) (fun ro9_ => ∃ u_ S1_, ro9_ = (.inl u_, S1_, 0) ∧ vq_325g wd_ b_ n_ T_ p_ gl_ r_ S0_ u_ S1_) := by
  have hF_ : ai_fr (sx_W vw_325g) S0_ S0_ := ai_fr_rf
  obtain ⟨i_, hi_⟩ := id hx_.2
  have hi9_ := hi_.2.1
  have hT_ := ht_.2.1
  have hf_ := hx_.1
  obtain ⟨bk_, bv_, ba_⟩ := bp_rr hb_
  refine sm_T_go 2 (c1 := (2, [some (.inr (.inr (some (13, 0)))), some (.inl wd_), none], [.inl 2, .inr (.inr (some (13, 0)))], S0_)) rfl ?_
  refine sm_T_cal (d1 := 1) (Q1 := vq_299 2 b_ n_ T_ (.inr p_) S0_) rfl rfl (by decide) (vc_299 2 b_ n_ T_ (.inr p_) S0_ hI_ (by exact ht_) (by exact hx_) (by decide)) (fun u_ Sx1_ px4_ => ?_)
  obtain ⟨vx6_, rfl, hIx2_, hFx3_, px4_⟩ := px4_
  have hFx5_ : ai_fr (sx_W vw_325g) S0_ Sx1_ := ai_fr_tr hF_ (fr_le hFx3_ rfl)
  have a2_ := px4_.1
  have g2_ := px4_.2
  rw [pb_r rfl, show p_du b_ n_ 2 p_ = .inr p_ from if_pos bk_] at g2_
  have t2_ := rtab_fr ht_ hFx3_ rfl rfl rfl rfl rfl
  have nv2_ : Sx1_.2.2.1 121 0 vx6_.toNat = lx_vl b_ n_ p_ := by have q4_ := rp_at t2_ hi_.2; rw [show vx6_.toNat = i_ by omega, q4_.2.2.1, bk_]; rfl
  have v2b : 0 ≤ vx6_ ∧ vx6_ ≤ 1280 := by omega
  have key2_ : ∀ S9_ : sm_S, S9_.2.2.1 121 0 = Sx1_.2.2.1 121 0 → S9_.2.2.1 121 0 vx6_.toNat = lx_vl b_ n_ p_ := fun S9_ q_ => by rw [q_]; exact nv2_
  have w2_ := fr_arr (t := 138) (i := 0) hFx3_ rfl
  have x2_ := fr_arr (t := 139) (i := 0) hFx3_ rfl
  refine sm_T_go 2 (c1 := (7, [some (.inr (.inr (some (13, 0)))), some (.inl wd_), some (.inl vx6_)], [.inr (.inr (some (13, 0)))], Sx1_)) rfl ?_
  refine sm_T_cal (d1 := 0) (Q1 := vq_292  Sx1_) rfl rfl (by decide) (vc_292  Sx1_ hIx2_ ) (fun u_ Sx7_ px10_ => ?_)
  obtain ⟨rfl, vx12_, rfl, px10_⟩ := px10_
  have e7_ := px10_
  have f7_ := g2_.1
  refine sm_T_b0 (a := 0) (z := 20) rfl (fun cx13_ => ?_) (fun cx13_ => ?_)
  · have cx13_ : vx12_ = 0 := of_decide_eq_true cx13_
    exfalso; (rw [if_pos f7_] at e7_; omega)
  · have cx13_ : ¬ (vx12_ = 0) := of_decide_eq_false cx13_
    refine sm_T_go 3 (c1 := (18, [some (.inr (.inr (some (13, 0)))), some (.inl wd_), some (.inl vx6_)], [.inl vx6_, .inr (.inr (some (121, 0)))], Sx1_)) rfl ?_
    refine sm_T_iald (n := 65537) rfl rfl (by omega) (by omega) ?_
    have bx14_ : (-2147483648) ≤ Sx1_.2.2.1 121 0 vx6_.toNat ∧ Sx1_.2.2.1 121 0 vx6_.toNat ≤ 2147483647 := hIx2_.2 121 0 _
    refine sm_T_go 1 (c1 := (20, [some (.inr (.inr (some (13, 0)))), some (.inl wd_), some (.inl vx6_)], [.inl wd_, .inl (Sx1_.2.2.1 121 0 vx6_.toNat)], Sx1_)) rfl ?_
    refine sm_T_br (a := 2) (z := 10) rfl (fun cx15_ => ?_) (fun cx15_ => ?_)
    · have cx15_ : (Sx1_.2.2.1 121 0 vx6_.toNat) < wd_ := of_decide_eq_true cx15_
      refine sm_T_go 1 (c1 := (31, [some (.inr (.inr (some (13, 0)))), some (.inl wd_), some (.inl vx6_)], [.inr (.inr (some (13, 0)))], Sx1_)) rfl ?_
      refine sm_T_cal (d1 := 2) (Q1 := vq_297 b_ n_ T_ (.inr p_) Sx1_) rfl rfl (by decide) (vc_297 b_ n_ T_ (.inr p_) Sx1_ hIx2_ (by exact t2_) (by exact g2_) (by (intro q_ e_; cases e_; omega))) (fun u_ Sx16_ px19_ => ?_)
      obtain ⟨rfl, hIx17_, hFx18_, px19_⟩ := px19_
      have hFx20_ : ai_fr (sx_W vw_325g) S0_ Sx16_ := ai_fr_tr hFx5_ (fr_le hFx18_ rfl)
      have g31_ := px19_.1
      rw [pb_r rfl, ba_] at g31_
      have f35_ := g31_.1
      have nv31_ := key2_ _ (fr_arr (t := 121) (i := 0) hFx18_ rfl)
      have v31_ : Sx16_.1 13 0 34 = (gl_ : Int) := (hFx20_.1 13 0 34 rfl).trans hv_.1
      have w31_ := (fr_arr (t := 138) (i := 0) hFx18_ rfl).trans w2_
      have l31_ := (fr_arr (t := 139) (i := 0) hFx18_ rfl).trans x2_
      refine sm_T_go 1 (c1 := (35, [some (.inr (.inr (some (13, 0)))), some (.inl wd_), some (.inl vx6_)], [.inr (.inr (some (13, 0)))], Sx16_)) rfl ?_
      refine sm_T_cal (d1 := 0) (Q1 := vq_292  Sx16_) rfl rfl (by decide) (vc_292  Sx16_ hIx17_ ) (fun u_ Sx21_ px24_ => ?_)
      obtain ⟨rfl, vx26_, rfl, px24_⟩ := px24_
      have e35_ := px24_
      refine sm_T_b0 (a := 0) (z := 44) rfl (fun cx27_ => ?_) (fun cx27_ => ?_)
      · have cx27_ : vx26_ = 0 := of_decide_eq_true cx27_
        exfalso; (rw [if_pos f35_] at e35_; omega)
      · have cx27_ : ¬ (vx26_ = 0) := of_decide_eq_false cx27_
        have bx28_ : 0 ≤ Sx16_.1 13 0 34 ∧ Sx16_.1 13 0 34 ≤ 1023 := hIx17_.1 13 0 34 rfl
        refine sm_T_go 5 (c1 := (51, [some (.inr (.inr (some (13, 0)))), some (.inl wd_), some (.inl vx6_)], [.inl (Sx16_.1 13 0 34), .inl 8, .inr (.inr (some (139, 0)))], Sx16_)) rfl ?_
        refine sm_T_bin (w := 8 * (Sx16_.1 13 0 34)) rfl (bi_mul (by omega) (by omega) (by omega)) ?_
        refine sm_T_go 5 (c1 := (62, [some (.inr (.inr (some (13, 0)))), some (.inl wd_), some (.inl vx6_)], [.inl (Sx16_.1 13 0 34), .inl 8, .inr (.inr (some (139, 0))), .inl (8 * (Sx16_.1 13 0 34)), .inr (.inr (some (139, 0)))], Sx16_)) rfl ?_
        refine sm_T_bin (w := 8 * (Sx16_.1 13 0 34)) rfl (bi_mul (by omega) (by omega) (by omega)) ?_
        refine sm_T_go 3 (c1 := (68, [some (.inr (.inr (some (13, 0)))), some (.inl wd_), some (.inl vx6_)], [.inl vx6_, .inr (.inr (some (121, 0))), .inl (8 * (Sx16_.1 13 0 34)), .inr (.inr (some (139, 0))), .inl (8 * (Sx16_.1 13 0 34)), .inr (.inr (some (139, 0)))], Sx16_)) rfl ?_
        refine sm_T_iald (n := 65537) rfl rfl (by omega) (by omega) ?_
        have bx29_ : (-2147483648) ≤ Sx16_.2.2.1 121 0 vx6_.toNat ∧ Sx16_.2.2.1 121 0 vx6_.toNat ≤ 2147483647 := hIx17_.2 121 0 _
        refine sm_T_bin (w := 8 * (Sx16_.1 13 0 34) + (Sx16_.2.2.1 121 0 vx6_.toNat)) rfl (bi_add (by omega) (by omega) (by omega)) ?_
        refine sm_T_iald (n := 8192) rfl rfl (by omega) (by omega) ?_
        have bx30_ : 0 ≤ Sx16_.2.2.1 139 0 (8 * (Sx16_.1 13 0 34) + (Sx16_.2.2.1 121 0 vx6_.toNat)).toNat ∧ Sx16_.2.2.1 139 0 (8 * (Sx16_.1 13 0 34) + (Sx16_.2.2.1 121 0 vx6_.toNat)).toNat ≤ 2047 := hIx17_.2 139 0 _
        refine sm_T_iast (n := 8192) rfl rfl (by omega) (by omega) ?_
        have hIx31_ : gi (sm_aI Sx16_ 139 0 (8 * (Sx16_.1 13 0 34)).toNat (Sx16_.2.2.1 139 0 (8 * (Sx16_.1 13 0 34) + (Sx16_.2.2.1 121 0 vx6_.toNat)).toNat)) := gi_aI hIx17_ (show 0 ≤ (Sx16_.2.2.1 139 0 (8 * (Sx16_.1 13 0 34) + (Sx16_.2.2.1 121 0 vx6_.toNat)).toNat) ∧ (Sx16_.2.2.1 139 0 (8 * (Sx16_.1 13 0 34) + (Sx16_.2.2.1 121 0 vx6_.toNat)).toNat) ≤ 2047 from ⟨by omega, by omega⟩)
        have hFx32_ : ai_fr (sx_W vw_325g) S0_ (sm_aI Sx16_ 139 0 (8 * (Sx16_.1 13 0 34)).toNat (Sx16_.2.2.1 139 0 (8 * (Sx16_.1 13 0 34) + (Sx16_.2.2.1 121 0 vx6_.toNat)).toNat)) := ai_fr_tr hFx20_ (ai_fr_aI rfl)
        refine sm_T_go 5 (c1 := (81, [some (.inr (.inr (some (13, 0)))), some (.inl wd_), some (.inl vx6_)], [.inl 1, .inl (Sx16_.1 13 0 34), .inr (.inr (some (138, 0)))], sm_aI Sx16_ 139 0 (8 * (Sx16_.1 13 0 34)).toNat (Sx16_.2.2.1 139 0 (8 * (Sx16_.1 13 0 34) + (Sx16_.2.2.1 121 0 vx6_.toNat)).toNat))) rfl ?_
        refine sm_T_iast (n := 1024) rfl rfl (by omega) (by omega) ?_
        have hIx33_ : gi (sm_aI (sm_aI Sx16_ 139 0 (8 * (Sx16_.1 13 0 34)).toNat (Sx16_.2.2.1 139 0 (8 * (Sx16_.1 13 0 34) + (Sx16_.2.2.1 121 0 vx6_.toNat)).toNat)) 138 0 (Sx16_.1 13 0 34).toNat 1) := gi_aI hIx31_ (show (-2147483648) ≤ 1 ∧ 1 ≤ 2147483647 from ⟨by omega, by omega⟩)
        have hFx34_ : ai_fr (sx_W vw_325g) S0_ (sm_aI (sm_aI Sx16_ 139 0 (8 * (Sx16_.1 13 0 34)).toNat (Sx16_.2.2.1 139 0 (8 * (Sx16_.1 13 0 34) + (Sx16_.2.2.1 121 0 vx6_.toNat)).toNat)) 138 0 (Sx16_.1 13 0 34).toNat 1) := ai_fr_tr hFx32_ (ai_fr_aI rfl)
        refine sm_T_rv rfl ⟨_, _, rfl, rfl, hIx33_, hFx34_, ?_⟩
        refine ⟨g31_, fun j_ => ?_, fun j_ => ?_⟩
        · (try simp only [rd_eq, rd_ne, rf_eq, rf_nk, rf_nt, rd_fa, rd_af, rd_fl, rd_al, rd_lf, rd_la, rd_leq, rd_lne, rd_fr, rd_ar, ne_eq, Nat.reduceEqDiff, not_false_eq_true]); rw [v31_, Int.toNat_natCast, w31_]
        · (try simp only [rd_eq, rd_ne, rf_eq, rf_nk, rf_nt, rd_fa, rd_af, rd_fl, rd_al, rd_lf, rd_la, rd_leq, rd_lne, rd_fr, rd_ar, ne_eq, Nat.reduceEqDiff, not_false_eq_true]); rw [v31_, l31_, nv31_]; rw [show (8 * (gl_ : Int)).toNat = 8 * gl_ by omega, show (8 * (gl_ : Int) + lx_vl b_ n_ p_).toNat = 8 * gl_ + (lx_vl b_ n_ p_).toNat by omega]
    · have cx15_ : ¬ ((Sx1_.2.2.1 121 0 vx6_.toNat) < wd_) := of_decide_eq_false cx15_
      exfalso; omega
end
/-! 99.zc5c -/
section
/-! M_.plainNumber -/
def vw_322g : sx_Wl := ([(13, 9), (13, 10), (13, 11)], [138, 139], [])
def vq_322g (b_ : Nat → Int) (n_ : Nat) (T_ : Nat) (p_ : Nat) (gl_ : Nat) (r_ : Nat × Int × List Int) (S0_ : sm_S) (u_ : Option sm_V) (S1_ : sm_S) : Prop := u_ = none ∧ gi S1_ ∧ ai_fr (sx_W vw_322g) S0_ S1_ ∧ (rg b_ n_ T_ (.inr r_.1) S1_ ∧ rowat gl_ r_.2.1 (fun j_ => i_shr (lx_vl b_ n_ p_) (j_ : Int) % 2) S0_ S1_)
set_option maxHeartbeats 1000000 in
theorem vl_322g {sc_ : Nat × (Nat → Int)} (b_ : Nat → Int) (n_ : Nat) (T_ : Nat) (p_ : Nat) (gl_ : Nat) (r_ : Nat × Int × List Int) (S0_ : sm_S) (ht_ : rtab b_ n_ T_ S0_) (hx_ : rg b_ n_ T_ (.inr p_) S0_) (hv_ : (S0_.1 13 0 34) = (gl_ : Int) ∧ gl_ ≤ 1000) (hmo_ : (S0_.1 13 0 27) = 1) (hk_ : lx_kd b_ n_ p_ = 2) (hc_ : p_co b_ n_ p_ = .inr r_) : ∀ nn_ : Nat, (∀ (a_ : Int) (k_ : Int) (S_ : sm_S), gi S_ → ai_fr (sx_W vw_322g) S0_ S_ → ((0 ≤ k_ ∧ k_ ≤ 8 ∧ 0 ≤ a_ ∧ a_ ≤ 1280) ∧ (rg b_ n_ T_ (.inr r_.1) S_) ∧ (S_.2.2.1 121 0 a_.toNat = lx_vl b_ n_ p_) ∧ (∀ j_, S_.2.2.1 138 0 j_ = if j_ = gl_ then r_.2.1 else S0_.2.2.1 138 0 j_) ∧ (∀ j_, j_ < k_.toNat → S_.2.2.1 139 0 (8 * gl_ + j_) = i_shr (lx_vl b_ n_ p_) (j_ : Int) % 2) ∧ (∀ j_, j_ < 8 * gl_ ∨ 8 * gl_ + 8 ≤ j_ → S_.2.2.1 139 0 j_ = S0_.2.2.1 139 0 j_) ∧ True) → ((8 - k_).toNat) < nn_ → sm_T (mt_P sc_) 4 322 (102, [some (.inr (.inr (some (13, 0)))), some (.inl a_), none, some (.inl k_)], [], S_) (fun ro9_ => ∃ u_ S1_, ro9_ = (.inl u_, S1_, 0) ∧ vq_322g b_ n_ T_ p_ gl_ r_ S0_ u_ S1_)) := by
  intro nn_
  induction nn_ with
  | zero => exact fun _ _ _ _ _ _ h_ => absurd h_ (Nat.not_lt_zero _)
  | succ nn_ ih_ =>
    rintro a_ k_ S_ hI_ hF_ ⟨h0_, h4_, hna_, h1_, h2_, h3_, -⟩ hm_
    have v1_ : S_.1 13 0 34 = (gl_ : Int) := (hF_.1 13 0 34 rfl).trans hv_.1
    refine sm_T_go 2 (c1 := (105, [some (.inr (.inr (some (13, 0)))), some (.inl a_), none, some (.inl k_)], [.inl 8, .inl k_], S_)) rfl ?_
    refine sm_T_br (a := 3) (z := 33) rfl (fun cx1_ => ?_) (fun cx1_ => ?_)
    · have cx1_ : 8 ≤ k_ := of_decide_eq_true cx1_
      refine sm_T_rv rfl ⟨_, _, rfl, rfl, hI_, hF_, ?_⟩
      exact ⟨h4_, h1_, fun j_ hj_ => h2_ j_ (by omega), h3_⟩
    · have cx1_ : ¬ (8 ≤ k_) := of_decide_eq_false cx1_
      have bx2_ : 0 ≤ S_.1 13 0 34 ∧ S_.1 13 0 34 ≤ 1023 := hI_.1 13 0 34 rfl
      refine sm_T_go 5 (c1 := (118, [some (.inr (.inr (some (13, 0)))), some (.inl a_), none, some (.inl k_)], [.inl (S_.1 13 0 34), .inl 8, .inr (.inr (some (139, 0)))], S_)) rfl ?_
      refine sm_T_bin (w := 8 * (S_.1 13 0 34)) rfl (bi_mul (by omega) (by omega) (by omega)) ?_
      refine sm_T_go 1 (c1 := (120, [some (.inr (.inr (some (13, 0)))), some (.inl a_), none, some (.inl k_)], [.inl k_, .inl (8 * (S_.1 13 0 34)), .inr (.inr (some (139, 0)))], S_)) rfl ?_
      refine sm_T_bin (w := 8 * (S_.1 13 0 34) + k_) rfl (bi_add (by omega) (by omega) (by omega)) ?_
      refine sm_T_go 3 (c1 := (126, [some (.inr (.inr (some (13, 0)))), some (.inl a_), none, some (.inl k_)], [.inl a_, .inr (.inr (some (121, 0))), .inl (8 * (S_.1 13 0 34) + k_), .inr (.inr (some (139, 0)))], S_)) rfl ?_
      refine sm_T_iald (n := 65537) rfl rfl (by omega) (by omega) ?_
      have bx3_ : (-2147483648) ≤ S_.2.2.1 121 0 a_.toNat ∧ S_.2.2.1 121 0 a_.toNat ≤ 2147483647 := hI_.2 121 0 _
      refine sm_T_go 1 (c1 := (128, [some (.inr (.inr (some (13, 0)))), some (.inl a_), none, some (.inl k_)], [.inl k_, .inl (S_.2.2.1 121 0 a_.toNat), .inl (8 * (S_.1 13 0 34) + k_), .inr (.inr (some (139, 0)))], S_)) rfl ?_
      refine sm_T_bin (w := (i_shr (S_.2.2.1 121 0 a_.toNat) k_)) rfl rfl ?_
      refine sm_T_go 1 (c1 := (130, [some (.inr (.inr (some (13, 0)))), some (.inl a_), none, some (.inl k_)], [.inl 1, .inl (i_shr (S_.2.2.1 121 0 a_.toNat) k_), .inl (8 * (S_.1 13 0 34) + k_), .inr (.inr (some (139, 0)))], S_)) rfl ?_
      refine sm_T_bin (w := ((i_shr (S_.2.2.1 121 0 a_.toNat) k_) % 2)) rfl (bi_msk (k := 1) (by decide)) ?_
      refine sm_T_iast (n := 8192) rfl rfl (by omega) (by omega) ?_
      have hIx4_ : gi (sm_aI S_ 139 0 (8 * (S_.1 13 0 34) + k_).toNat ((i_shr (S_.2.2.1 121 0 a_.toNat) k_) % 2)) := gi_aI hI_ (show 0 ≤ ((i_shr (S_.2.2.1 121 0 a_.toNat) k_) % 2) ∧ ((i_shr (S_.2.2.1 121 0 a_.toNat) k_) % 2) ≤ 2047 from ⟨by omega, by omega⟩)
      have hFx5_ : ai_fr (sx_W vw_322g) S0_ (sm_aI S_ 139 0 (8 * (S_.1 13 0 34) + k_).toNat ((i_shr (S_.2.2.1 121 0 a_.toNat) k_) % 2)) := ai_fr_tr hF_ (ai_fr_aI rfl)
      refine sm_T_inc (a := 3) (z := 1) (v := k_) (w := k_ + 1) rfl rfl (by omega) (by omega) (by omega) ?_
      refine sm_T_go 1 (c1 := (102, [some (.inr (.inr (some (13, 0)))), some (.inl a_), none, some (.inl (k_ + 1))], [], sm_aI S_ 139 0 (8 * (S_.1 13 0 34) + k_).toNat ((i_shr (S_.2.2.1 121 0 a_.toNat) k_) % 2))) rfl ?_
      refine ih_ a_ (k_ + 1) (sm_aI S_ 139 0 (8 * (S_.1 13 0 34) + k_).toNat ((i_shr (S_.2.2.1 121 0 a_.toNat) k_) % 2)) hIx4_ hFx5_ ⟨?_, ?_, ?_, ?_, ?_, ?_, trivial⟩ ?_
      · omega
      · exact h4_
      · (rw [rd_ne (by decide)]; exact hna_)
      · (intro j_; rw [rd_ne (by decide)]; exact h1_ j_)
      · intro j_ hj_
        by_cases z_ : j_ < k_.toNat
        · rw [rd_eq, if_neg (by omega)]; exact h2_ j_ z_
        · have zj_ : j_ = k_.toNat := by omega
          rw [rd_eq, if_pos (by omega), zj_, hna_, show ((k_.toNat : Nat) : Int) = k_ by omega]
      · (intro j_ hj_; rw [rd_eq, if_neg (by omega)]; exact h3_ j_ hj_)
      · omega
set_option maxHeartbeats 1000000 in
theorem vc_322g {sc_ : Nat × (Nat → Int)} (b_ : Nat → Int) (n_ : Nat) (T_ : Nat) (p_ : Nat) (gl_ : Nat) (r_ : Nat × Int × List Int) (S0_ : sm_S) (hI_ : gi S0_) (ht_ : rtab b_ n_ T_ S0_) (hx_ : rg b_ n_ T_ (.inr p_) S0_) (hv_ : (S0_.1 13 0 34) = (gl_ : Int) ∧ gl_ ≤ 1000) (hmo_ : (S0_.1 13 0 27) = 1) (hk_ : lx_kd b_ n_ p_ = 2) (hc_ : p_co b_ n_ p_ = .inr r_) : sm_T (mt_P sc_) 4 322 (0, [some (.inr (.inr (some (13, 0)))), none, none, none], [], S0_) (fun ro9_ => ∃ u_ S1_, ro9_ = (.inl u_, S1_, 0) ∧ vq_322g b_ n_ T_ p_ gl_ r_ S0_ u_ S1_) := by
  have hF_ : ai_fr (sx_W vw_322g) S0_ S0_ := ai_fr_rf
  obtain ⟨i_, hi_⟩ := id hx_.2
  have hi9_ := hi_.2.1
  have hT_ := ht_.2.1
  have hf_ := hx_.1
  obtain ⟨q_, r3_, u_, c1_, c2_, c3_, c4_, c5_, c6_, c7_, hr_⟩ := co_r hc_
  have vp0_ := lx_vl_0 hk_
  have bx1_ : 0 ≤ S0_.1 13 0 9 ∧ S0_.1 13 0 9 ≤ 1280 := hI_.1 13 0 9 rfl
  refine sm_T_go 4 (c1 := (6, [some (.inr (.inr (some (13, 0)))), some (.inl (S0_.1 13 0 9)), none, none], [.inr (.inr (some (13, 0)))], S0_)) rfl ?_
  refine sm_T_cal (d1 := 2) (Q1 := vq_297 b_ n_ T_ (.inr p_) S0_) rfl rfl (by decide) (vc_297 b_ n_ T_ (.inr p_) S0_ hI_ (by exact ht_) (by exact hx_) (by (intro q_ e_; cases e_; omega))) (fun u_ Sx2_ px5_ => ?_)
  obtain ⟨rfl, hIx3_, hFx4_, px5_⟩ := px5_
  have hFx6_ : ai_fr (sx_W vw_322g) S0_ Sx2_ := ai_fr_tr hF_ (fr_le hFx4_ rfl)
  have g6_ := px5_.1
  rw [pb_r rfl, c1_] at g6_
  have w6_ := fr_arr (t := 138) (i := 0) hFx4_ rfl
  have x6_ := fr_arr (t := 139) (i := 0) hFx4_ rfl
  have t6_ := rtab_fr ht_ hFx4_ rfl rfl rfl rfl rfl
  refine sm_T_go 2 (c1 := (12, [some (.inr (.inr (some (13, 0)))), some (.inl (S0_.1 13 0 9)), none, none], [.inl 64, .inr (.inr (some (13, 0)))], Sx2_)) rfl ?_
  refine sm_T_cal (d1 := 3) (Q1 := vq_300 64 b_ n_ T_ (.inr q_) Sx2_) rfl rfl (by decide) (vc_300 64 b_ n_ T_ (.inr q_) Sx2_ hIx3_ (by exact t6_) (by exact g6_) (by decide)) (fun u_ Sx7_ px10_ => ?_)
  obtain ⟨rfl, hIx8_, hFx9_, px10_⟩ := px10_
  have hFx11_ : ai_fr (sx_W vw_322g) S0_ Sx7_ := ai_fr_tr hFx6_ (fr_le hFx9_ rfl)
  have g12_ := px10_
  rw [pb_r rfl, show p_nd b_ n_ 64 q_ = .inr r3_ from (if_pos c2_).trans c3_] at g12_
  have w12_ := (fr_arr (t := 138) (i := 0) hFx9_ rfl).trans w6_
  have x12_ := (fr_arr (t := 139) (i := 0) hFx9_ rfl).trans x6_
  have t12_ := rtab_fr t6_ hFx9_ rfl rfl rfl rfl rfl
  refine sm_T_go 2 (c1 := (17, [some (.inr (.inr (some (13, 0)))), some (.inl (S0_.1 13 0 9)), none, none], [.inl 2, .inr (.inr (some (13, 0)))], Sx7_)) rfl ?_
  refine sm_T_cal (d1 := 1) (Q1 := vq_299 2 b_ n_ T_ (.inr r3_) Sx7_) rfl rfl (by decide) (vc_299 2 b_ n_ T_ (.inr r3_) Sx7_ hIx8_ (by exact t12_) (by exact g12_) (by decide)) (fun u_ Sx12_ px15_ => ?_)
  obtain ⟨vx17_, rfl, hIx13_, hFx14_, px15_⟩ := px15_
  have hFx16_ : ai_fr (sx_W vw_322g) S0_ Sx12_ := ai_fr_tr hFx11_ (fr_le hFx14_ rfl)
  have a17_ := px15_.1
  have g17_ := px15_.2
  rw [pb_r rfl, show p_du b_ n_ 2 r3_ = .inr r3_ from if_pos c4_] at g17_
  have w17_ := (fr_arr (t := 138) (i := 0) hFx14_ rfl).trans w12_
  have x17_ := (fr_arr (t := 139) (i := 0) hFx14_ rfl).trans x12_
  have t17_ := rtab_fr t12_ hFx14_ rfl rfl rfl rfl rfl
  have at17_ := hFx14_.1 13 0 9 rfl
  obtain ⟨i3_, j1_, j2_⟩ := id g17_.2
  have v17b : 0 ≤ vx17_ ∧ vx17_ ≤ 1280 := by rw [a17_, ← at17_]; exact hIx13_.1 13 0 9 rfl
  have nv17_ : Sx12_.2.2.1 121 0 vx17_.toNat = lx_vl b_ n_ r3_ := by have q4_ := rp_at t17_ j2_; rw [show vx17_.toNat = i3_ by omega, q4_.2.2.1, c4_]; rfl
  have f17_ := g17_.1
  have key17_ : ∀ S9_ : sm_S, S9_.2.2.1 121 0 = Sx12_.2.2.1 121 0 → S9_.2.2.1 121 0 vx17_.toNat = lx_vl b_ n_ r3_ := fun S9_ q_ => by rw [q_]; exact nv17_
  refine sm_T_go 2 (c1 := (22, [some (.inr (.inr (some (13, 0)))), some (.inl (S0_.1 13 0 9)), some (.inl vx17_), none], [.inr (.inr (some (13, 0)))], Sx12_)) rfl ?_
  refine sm_T_cal (d1 := 0) (Q1 := vq_292  Sx12_) rfl rfl (by decide) (vc_292  Sx12_ hIx13_ ) (fun u_ Sx18_ px21_ => ?_)
  obtain ⟨rfl, vx23_, rfl, px21_⟩ := px21_
  have e22_ := px21_
  refine sm_T_b0 (a := 0) (z := 25) rfl (fun cx24_ => ?_) (fun cx24_ => ?_)
  · have cx24_ : vx23_ = 0 := of_decide_eq_true cx24_
    exfalso; (rw [if_pos f17_] at e22_; omega)
  · have cx24_ : ¬ (vx23_ = 0) := of_decide_eq_false cx24_
    refine sm_T_go 3 (c1 := (33, [some (.inr (.inr (some (13, 0)))), some (.inl (S0_.1 13 0 9)), some (.inl vx17_), none], [.inl vx17_, .inr (.inr (some (121, 0)))], Sx12_)) rfl ?_
    refine sm_T_iald (n := 65537) rfl rfl (by omega) (by omega) ?_
    have bx25_ : (-2147483648) ≤ Sx12_.2.2.1 121 0 vx17_.toNat ∧ Sx12_.2.2.1 121 0 vx17_.toNat ≤ 2147483647 := hIx13_.2 121 0 _
    refine sm_T_go 2 (c1 := (37, [some (.inr (.inr (some (13, 0)))), some (.inl (S0_.1 13 0 9)), some (.inl vx17_), none], [.inl 8, .inl 1, .inl (Sx12_.2.2.1 121 0 vx17_.toNat)], Sx12_)) rfl ?_
    refine sm_T_cal (d1 := 0) (Q1 := vq_278 (Sx12_.2.2.1 121 0 vx17_.toNat) 1 8 Sx12_) rfl rfl (by decide) (vc_278 (Sx12_.2.2.1 121 0 vx17_.toNat) 1 8 Sx12_ hIx13_ ) (fun u_ Sx26_ px29_ => ?_)
    obtain ⟨rfl, vx31_, rfl, px29_⟩ := px29_
    have e37_ := px29_
    refine sm_T_b0 (a := 1) (z := 10) rfl (fun cx32_ => ?_) (fun cx32_ => ?_)
    · have cx32_ : vx31_ ≠ 0 := of_decide_eq_true cx32_
      refine sm_T_go 1 (c1 := (51, [some (.inr (.inr (some (13, 0)))), some (.inl (S0_.1 13 0 9)), some (.inl vx17_), none], [.inr (.inr (some (13, 0)))], Sx12_)) rfl ?_
      refine sm_T_cal (d1 := 2) (Q1 := vq_297 b_ n_ T_ (.inr r3_) Sx12_) rfl rfl (by decide) (vc_297 b_ n_ T_ (.inr r3_) Sx12_ hIx13_ (by exact t17_) (by exact g17_) (by (intro q9_ e_; cases e_; omega))) (fun u_ Sx33_ px36_ => ?_)
      obtain ⟨rfl, hIx34_, hFx35_, px36_⟩ := px36_
      have hFx37_ : ai_fr (sx_W vw_322g) S0_ Sx33_ := ai_fr_tr hFx16_ (fr_le hFx35_ rfl)
      have g51_ := px36_.1
      rw [pb_r rfl, c6_] at g51_
      have f51_ := g51_.1
      have t51_ := rtab_fr t17_ hFx35_ rfl rfl rfl rfl rfl
      have nv51_ := key17_ _ (fr_arr (t := 121) (i := 0) hFx35_ rfl)
      have na51_ : Sx33_.2.2.1 121 0 (S0_.1 13 0 9).toNat = lx_vl b_ n_ p_ := by rw [show (S0_.1 13 0 9).toNat = i_ by omega, (rp_at t51_ hi_.2).2.2.1, hk_]; rfl
      have v51_ : Sx33_.1 13 0 34 = (gl_ : Int) := (hFx37_.1 13 0 34 rfl).trans hv_.1
      have w51_ := (fr_arr (t := 138) (i := 0) hFx35_ rfl).trans w17_
      have l51_ := (fr_arr (t := 139) (i := 0) hFx35_ rfl).trans x17_
      refine sm_T_go 1 (c1 := (55, [some (.inr (.inr (some (13, 0)))), some (.inl (S0_.1 13 0 9)), some (.inl vx17_), none], [.inr (.inr (some (13, 0)))], Sx33_)) rfl ?_
      refine sm_T_cal (d1 := 0) (Q1 := vq_292  Sx33_) rfl rfl (by decide) (vc_292  Sx33_ hIx34_ ) (fun u_ Sx38_ px41_ => ?_)
      obtain ⟨rfl, vx43_, rfl, px41_⟩ := px41_
      have e55_ := px41_
      refine sm_T_b0 (a := 0) (z := 27) rfl (fun cx44_ => ?_) (fun cx44_ => ?_)
      · have cx44_ : vx43_ = 0 := of_decide_eq_true cx44_
        exfalso; (rw [if_pos f51_] at e55_; omega)
      · have cx44_ : ¬ (vx43_ = 0) := of_decide_eq_false cx44_
        refine sm_T_go 3 (c1 := (66, [some (.inr (.inr (some (13, 0)))), some (.inl (S0_.1 13 0 9)), some (.inl vx17_), none], [.inl (S0_.1 13 0 9), .inr (.inr (some (121, 0)))], Sx33_)) rfl ?_
        refine sm_T_iald (n := 65537) rfl rfl (by omega) (by omega) ?_
        have bx45_ : (-2147483648) ≤ Sx33_.2.2.1 121 0 (S0_.1 13 0 9).toNat ∧ Sx33_.2.2.1 121 0 (S0_.1 13 0 9).toNat ≤ 2147483647 := hIx34_.2 121 0 _
        refine sm_T_go 4 (c1 := (73, [some (.inr (.inr (some (13, 0)))), some (.inl (S0_.1 13 0 9)), some (.inl vx17_), none], [.inl vx17_, .inr (.inr (some (121, 0))), .inl 1, .inl (Sx33_.2.2.1 121 0 (S0_.1 13 0 9).toNat)], Sx33_)) rfl ?_
        refine sm_T_iald (n := 65537) rfl rfl (by omega) (by omega) ?_
        have bx46_ : (-2147483648) ≤ Sx33_.2.2.1 121 0 vx17_.toNat ∧ Sx33_.2.2.1 121 0 vx17_.toNat ≤ 2147483647 := hIx34_.2 121 0 _
        refine sm_T_bin (w := (i_shl 1 (Sx33_.2.2.1 121 0 vx17_.toNat))) rfl rfl ?_
        refine sm_T_br (a := 2) (z := 10) rfl (fun cx47_ => ?_) (fun cx47_ => ?_)
        · have cx47_ : (Sx33_.2.2.1 121 0 (S0_.1 13 0 9).toNat) < (i_shl 1 (Sx33_.2.2.1 121 0 vx17_.toNat)) := of_decide_eq_true cx47_
          have bx48_ : 0 ≤ Sx33_.1 13 0 34 ∧ Sx33_.1 13 0 34 ≤ 1023 := hIx34_.1 13 0 34 rfl
          refine sm_T_go 7 (c1 := (98, [some (.inr (.inr (some (13, 0)))), some (.inl (S0_.1 13 0 9)), some (.inl vx17_), none], [.inl vx17_, .inr (.inr (some (121, 0))), .inl (Sx33_.1 13 0 34), .inr (.inr (some (138, 0)))], Sx33_)) rfl ?_
          refine sm_T_iald (n := 65537) rfl rfl (by omega) (by omega) ?_
          refine sm_T_iast (n := 1024) rfl rfl (by omega) (by omega) ?_
          have hIx49_ : gi (sm_aI Sx33_ 138 0 (Sx33_.1 13 0 34).toNat (Sx33_.2.2.1 121 0 vx17_.toNat)) := gi_aI hIx34_ (show (-2147483648) ≤ (Sx33_.2.2.1 121 0 vx17_.toNat) ∧ (Sx33_.2.2.1 121 0 vx17_.toNat) ≤ 2147483647 from ⟨by omega, by omega⟩)
          have hFx50_ : ai_fr (sx_W vw_322g) S0_ (sm_aI Sx33_ 138 0 (Sx33_.1 13 0 34).toNat (Sx33_.2.2.1 121 0 vx17_.toNat)) := ai_fr_tr hFx37_ (ai_fr_aI rfl)
          refine sm_T_go 2 (c1 := (102, [some (.inr (.inr (some (13, 0)))), some (.inl (S0_.1 13 0 9)), some (.inl vx17_), some (.inl 0)], [], sm_aI Sx33_ 138 0 (Sx33_.1 13 0 34).toNat (Sx33_.2.2.1 121 0 vx17_.toNat))) rfl ?_
          refine sm_T_wk [some (.inr (.inr (some (13, 0)))), some (.inl (S0_.1 13 0 9)), none, some (.inl 0)] (by exact ⟨rfl, rfl, rfl, trivial⟩) ?_
          refine (vl_322g b_ n_ T_ p_ gl_ r_ S0_ ht_ hx_ hv_ hmo_ hk_ hc_ _) (S0_.1 13 0 9) 0 (sm_aI Sx33_ 138 0 (Sx33_.1 13 0 34).toNat (Sx33_.2.2.1 121 0 vx17_.toNat)) hIx49_ hFx50_ ⟨?_, ?_, ?_, ?_, ?_, ?_, trivial⟩ (Nat.lt_succ_self _)
          · omega
          · (rw [hr_]; exact g51_)
          · exact na51_
          · (intro j_; rw [hr_]; (try simp only [rd_eq, rd_ne, rf_eq, rf_nk, rf_nt, rd_fa, rd_af, rd_fl, rd_al, rd_lf, rd_la, rd_leq, rd_lne, rd_fr, rd_ar, ne_eq, Nat.reduceEqDiff, not_false_eq_true]); rw [v51_, Int.toNat_natCast, w51_, nv51_])
          · (intro j_ hj_; exact absurd hj_ (Nat.not_lt_zero _))
          · (intro j_ hj_; rw [rd_ne (by decide), l51_])
        · have cx47_ : ¬ ((Sx33_.2.2.1 121 0 (S0_.1 13 0 9).toNat) < (i_shl 1 (Sx33_.2.2.1 121 0 vx17_.toNat))) := of_decide_eq_false cx47_
          exfalso; (have z_ := (shl_ge (x_ := lx_vl b_ n_ p_) (w_ := lx_vl b_ n_ r3_) vp0_ c5_).mp (by rw [← na51_, ← nv51_]; omega); exact z_ c7_)
    · have cx32_ : ¬ (vx31_ ≠ 0) := of_decide_eq_false cx32_
      exfalso; (have z_ := e37_.2.mpr (by omega); omega)
end
/-! 99.zc6a -/
section
/-! the reference: parts of instances, second pass; written by wip/p55/gen/vg -/

/-! names, second pass -/
def ev1 (F_ I_ : Nat) (A_ : pA) (X_ : Nat → gQ → gE → Option (gQ × gE)) (m_ : Nat) (E_ : gE) (O_ : gO) (c1_ : List Int) (v_ : List Int) : Prop := ∀ (q_ : gQ) (V_ : gV) (c_ : List Int) (s0_ : gS), V_.length < 512 → ev F_ I_ A_ X_ m_ s0_ c_ = some (q_, E_, O_, V_) → ev F_ I_ A_ X_ m_ s0_ (c1_ ++ c_) = some (q_, E_, O_, v_ :: V_)
def ten (A_ : pA) (m_ K_ : Nat) (E_ : gE) (O_ : gO) : Prop := K_ ≤ A_.1 m_ ∧ ∀ s_, s_ < K_ → (A_.2.2.1 (40 * m_ + s_) ≠ 5 → ((E_ s_).length : Int) = A_.2.2.2.1 (40 * m_ + s_)) ∧ (A_.2.2.1 (40 * m_ + s_) = 5 → ∃ o_, O_ s_ = some o_ ∧ ∀ o1_, o1_ < A_.1 (A_.2.2.2.2 (40 * m_ + s_)).toNat → A_.2.2.1 (40 * (A_.2.2.2.2 (40 * m_ + s_)).toNat + o1_) ≠ 5 → ((o_ o1_).length : Int) = A_.2.2.2.1 (40 * (A_.2.2.2.2 (40 * m_ + s_)).toNat + o1_))
def rev (fr_ K_ : Nat) (E_ : gE) (O_ : gO) (ok_ : Prop) (S_ : sm_S) : Prop := ok_ → (∀ s_, s_ < 40 → rwv (S_.2.2.1 144 0) (8 * (40 * fr_ + s_)) (E_ s_)) ∧ ∀ s_ o_, s_ < K_ → O_ s_ = some o_ → ∀ o1_, o1_ < 40 → rwv (S_.2.2.1 145 0) (8 * (40 * (40 * fr_ + s_) + o1_)) (o_ o1_)
theorem rev_fr {w_ : sx_Wl} {fr_ K_ : Nat} {E_ : gE} {O_ : gO} {ok_ : Prop} {S_ S'_ : sm_S} (h_ : rev fr_ K_ E_ O_ ok_ S_) (g_ : ai_fr (sx_W w_) S_ S'_) (h0_ : (sx_W w_).2.1 144 = false) (h1_ : (sx_W w_).2.1 145 = false) : rev fr_ K_ E_ O_ ok_ S'_ := by
  unfold rev at h_ ⊢
  rw [fr_arr g_ h0_, fr_arr g_ h1_]
  exact h_
section EV1_
variable {F_ I_ m_ : Nat} {A_ : pA} {X_ : Nat → gQ → gE → Option (gQ × gE)} {E_ : gE} {O_ : gO}
theorem ev1_cn {a_ d_ : Int} (ha_ : 1 ≤ a_ ∧ a_ ≤ 8) (hd_ : 0 ≤ d_) : ev1 F_ I_ A_ X_ m_ E_ O_ [cw 8 a_ d_] (c_bt a_.toNat d_) := fun _ _ _ _ hV_ h_ => ev_cn h_ hV_ ha_ hd_
theorem ev1_ld {a_ : Int} (ha_ : 0 ≤ a_ ∧ a_ < A_.1 m_) (hm_ : A_.1 m_ ≤ 40) (hl_ : 1 ≤ (E_ a_.toNat).length ∧ (E_ a_.toNat).length ≤ 8) (hw_ : ((E_ a_.toNat).length : Int) = A_.2.2.2.1 (40 * m_ + a_.toNat)) : ev1 F_ I_ A_ X_ m_ E_ O_ [cw 9 a_ 0] (E_ a_.toNat) := fun _ _ _ _ hV_ h_ => ev_ld h_ hV_ ha_ hm_ hl_ hw_
theorem ev1_pt {a_ d_ : Int} {o_ : Nat → List Int} (ha_ : 0 ≤ a_ ∧ a_ < A_.1 m_) (hm_ : A_.1 m_ ≤ 40) (hO_ : O_ a_.toNat = some o_) (hd_ : 0 ≤ d_ ∧ d_ < A_.1 (A_.2.2.2.2 (40 * m_ + a_.toNat)).toNat) (h5_ : 0 ≤ A_.2.2.2.2 (40 * m_ + a_.toNat) ∧ A_.2.2.2.2 (40 * m_ + a_.toNat) < m_) (hl_ : 1 ≤ (o_ d_.toNat).length ∧ (o_ d_.toNat).length ≤ 8) (hw_ : ((o_ d_.toNat).length : Int) = A_.2.2.2.1 (40 * (A_.2.2.2.2 (40 * m_ + a_.toNat)).toNat + d_.toNat)) : ev1 F_ I_ A_ X_ m_ E_ O_ [cw 10 a_ d_] (o_ d_.toNat) := fun _ _ _ _ hV_ h_ => ev_pt h_ hV_ ha_ hm_ hO_ hd_ h5_ hl_ hw_
theorem ev1_bi {k_ : Int} {c_ : List Int} {v_ : List Int} (h_ : ev1 F_ I_ A_ X_ m_ E_ O_ c_ v_) (hk_ : 0 ≤ k_ ∧ k_ < v_.length) (h8_ : v_.length ≤ 8) : ev1 F_ I_ A_ X_ m_ E_ O_ (cw 11 k_ 0 :: c_) [v_.getD k_.toNat 0] := fun q_ V_ c1_ s0_ hV_ h1_ => ev_bi (h_ q_ V_ c1_ s0_ hV_ h1_) hk_ h8_
end EV1_
/-- row_ gl_ holds v_, the_ other rows are_ as_ they were -/
def rowv (gl_ : Nat) (v_ : List Int) (ok_ : Prop) (S0_ S1_ : sm_S) : Prop := (∀ j_, S1_.2.2.1 138 0 j_ = if j_ = gl_ then (v_.length : Int) else S0_.2.2.1 138 0 j_) ∧ (ok_ → rwv (S1_.2.2.1 139 0) (8 * gl_) v_) ∧ (∀ j_, j_ < 8 * gl_ ∨ 8 * gl_ + 8 ≤ j_ → S1_.2.2.1 139 0 j_ = S0_.2.2.1 139 0 j_)
theorem rowv_of {gl_ : Nat} {v_ : List Int} {f_ : Nat → Int} {w_ : Int} {ok_ : Prop} {S0_ S1_ : sm_S} (h_ : rowat gl_ w_ f_ S0_ S1_) (hw_ : w_ = (v_.length : Int)) (h8_ : v_.length ≤ 8) (hf_ : ok_ → ∀ (k_ : Nat) (z_ : Int), v_[k_]? = some z_ → f_ k_ = z_) : rowv gl_ v_ ok_ S0_ S1_ := by
  refine ⟨fun j_ => by rw [h_.1, hw_], fun z_ k_ x_ e_ => ?_, h_.2.2⟩
  have hk_ : k_ < v_.length := by
    by_cases w_ : k_ < v_.length
    · exact w_
    · rw [List.getElem?_eq_none (by omega)] at e_; cases e_
  rw [h_.2.1 k_ (by omega)]
  exact hf_ z_ k_ x_ e_
theorem rowv_bi {gl_ k_ : Nat} {v_ : List Int} {ok_ : Prop} {S0_ S1_ S2_ : sm_S} (h_ : rowv gl_ v_ ok_ S0_ S1_) (hk_ : k_ < v_.length) (h8_ : v_.length ≤ 8) (e1_ : ∀ j_, S2_.2.2.1 138 0 j_ = if j_ = gl_ then 1 else S1_.2.2.1 138 0 j_) (e2_ : ∀ j_, S2_.2.2.1 139 0 j_ = if j_ = 8 * gl_ then S1_.2.2.1 139 0 (8 * gl_ + k_) else S1_.2.2.1 139 0 j_) : rowv gl_ [v_.getD k_ 0] ok_ S0_ S2_ := by
  refine ⟨fun j_ => ?_, fun z_ k1_ x_ e_ => ?_, fun j_ hj_ => ?_⟩
  · rw [e1_, h_.1]
    by_cases q_ : j_ = gl_
    · rw [if_pos q_, if_pos q_]; rfl
    · rw [if_neg q_, if_neg q_, if_neg q_]
  · have k0_ : k1_ = 0 := by
      cases k1_ with
      | zero => rfl
      | succ k1_ => simp at e_
    subst k0_
    rw [e2_, if_pos (by omega), rwv_g (h_.2.1 z_) hk_]
    exact Option.some.inj e_
  · rw [e2_, if_neg (by omega)]
    exact h_.2.2 j_ hj_
theorem pa_r {b_ : Nat → Int} {n_ d_ p_ : Nat} {A_ : pA} {s_ : Int} {r_ : Nat × Int × List Int} (hr_ : p_pa b_ n_ A_ s_ d_ p_ = .inr r_) : ∃ o9_ q_ : Nat, p_fn b_ n_ A_ d_ p_ = (o9_ : Int) ∧ o9_ < A_.1 d_ ∧ A_.2.2.1 (40 * d_ + o9_) = 1 ∧ p_ad b_ n_ p_ = .inr q_ ∧ ((lx_kd b_ n_ q_ ≠ 46 ∧ r_ = (q_, A_.2.2.2.1 (40 * d_ + o9_), [cw 10 s_ (o9_ : Int)])) ∨ (lx_kd b_ n_ q_ = 46 ∧ ∃ q2_ u_, p_ad b_ n_ q_ = .inr q2_ ∧ p_bp b_ n_ (A_.2.2.2.1 (40 * d_ + o9_)) q2_ = .inr u_ ∧ r_ = (u_, 1, [cw 11 (lx_vl b_ n_ q2_) 0, cw 10 s_ (o9_ : Int)]))) := by
  unfold p_pa at hr_
  by_cases h_ : p_fn b_ n_ A_ d_ p_ = -1 ∨ A_.2.2.1 (40 * d_ + (p_fn b_ n_ A_ d_ p_).toNat) ≠ 1
  · rw [if_pos h_] at hr_
    cases hr_
  · rw [if_neg h_] at hr_
    have hf_ : p_fn b_ n_ A_ d_ p_ ≠ -1 := fun z_ => h_ (Or.inl z_)
    obtain ⟨o9_, q1_, q2_, q3_, -⟩ := p_fn_b (b_ := b_) (n_ := n_) (A_ := A_) (m_ := d_) (p_ := p_) hf_
    have hs_ : A_.2.2.1 (40 * d_ + o9_) = 1 := by
      by_cases z_ : A_.2.2.1 (40 * d_ + o9_) = 1
      · exact z_
      · exact absurd (Or.inr (by rw [q3_]; exact z_)) h_
    obtain ⟨q_, h1_, h2_⟩ := pb_inr hr_
    rw [q3_, q1_] at h2_
    refine ⟨o9_, q_, q1_, q2_, hs_, h1_, ?_⟩
    split at h2_
    · rename_i g_
      obtain ⟨u_, h3_, h4_⟩ := pb_inr h2_
      rw [bp_bi] at h4_
      obtain ⟨v_, h5_, h6_⟩ := pb_inr h4_
      cases h6_
      exact Or.inr ⟨g_, u_, v_, h3_, h5_, rfl⟩
    · rename_i g_
      cases h2_
      exact Or.inl ⟨g_, rfl⟩
/-! M_.ofInstance -/
def vw_326g : sx_Wl := ([(13, 9), (13, 10), (13, 11)], [138, 139], [])
def vq_326g (s_ : Int) (b_ : Nat → Int) (n_ : Nat) (T_ : Nat) (p_ : Nat) (gl_ : Nat) (F_ : Nat) (I_ : Nat) (A_ : pA) (X_ : Nat → gQ → gE → Option (gQ × gE)) (M_ : Nat) (K_ : Nat) (fr_ : Nat) (E_ : gE) (O_ : gO) (ok_ : Prop) (r_ : Nat × Int × List Int) (s9_ : Nat) (S0_ : sm_S) (u_ : Option sm_V) (S1_ : sm_S) : Prop := u_ = none ∧ gi S1_ ∧ ai_fr (sx_W vw_326g) S0_ S1_ ∧ (∃ v9_, ev1 F_ I_ A_ X_ M_ E_ O_ r_.2.2 v9_ ∧ (v9_.length : Int) = r_.2.1 ∧ (1 ≤ v9_.length ∧ v9_.length ≤ 8) ∧ rg b_ n_ T_ (.inr r_.1) S1_ ∧ rowv gl_ v9_ ok_ S0_ S1_)
set_option maxHeartbeats 1500000 in
theorem vc_326g {sc_ : Nat × (Nat → Int)} (s_ : Int) (b_ : Nat → Int) (n_ : Nat) (T_ : Nat) (p_ : Nat) (gl_ : Nat) (F_ : Nat) (I_ : Nat) (A_ : pA) (X_ : Nat → gQ → gE → Option (gQ × gE)) (M_ : Nat) (K_ : Nat) (fr_ : Nat) (E_ : gE) (O_ : gO) (ok_ : Prop) (r_ : Nat × Int × List Int) (s9_ : Nat) (S0_ : sm_S) (hI_ : gi S0_) (ht_ : rtab b_ n_ T_ S0_) (hx_ : rg b_ n_ T_ (.inr p_) S0_) (hv_ : (S0_.1 13 0 34) = (gl_ : Int) ∧ gl_ ≤ 1000) (hmo_ : (S0_.1 13 0 27) = 1) (hk_ : lx_kd b_ n_ p_ = 1) (hA_ : a_ok b_ n_ A_ M_) (hmd_ : (S0_.1 13 0 28) = (M_ : Int)) (hfr_ : (S0_.1 13 0 29) = (fr_ : Int) ∧ fr_ ≤ 15) (hre_ : ∀ m_, m_ ≤ M_ → re1 b_ n_ T_ A_ m_ S0_) (hte_ : ten A_ M_ K_ E_ O_) (hev_ : rev fr_ K_ E_ O_ ok_ S0_) (hs9_ : s_ = (s9_ : Int) ∧ s9_ < K_) (h5_ : A_.2.2.1 (40 * M_ + s9_) = 5) (hpa_ : p_pa b_ n_ A_ s_ (A_.2.2.2.2 (40 * M_ + s9_)).toNat p_ = .inr r_) : sm_T (mt_P sc_) 4 326 (0, [some (.inr (.inr (some (13, 0)))), some (.inl s_), none, none, none], [], S0_) (fun ro9_ => ∃ u_ S1_, ro9_ = (.inl u_, S1_, 0) ∧ vq_326g s_ b_ n_ T_ p_ gl_ F_ I_ A_ X_ M_ K_ fr_ E_ O_ ok_ r_ s9_ S0_ u_ S1_) := by
  have hF_ : ai_fr (sx_W vw_326g) S0_ S0_ := ai_fr_rf
  obtain ⟨i_, hi_⟩ := id hx_.2
  have hi9_ := hi_.2.1
  have hT_ := ht_.2.1
  have hf_ := hx_.1
  have rt1_ := rp_rtk ht_ hi_.2 hk_
  have hM1_ := hA_.1
  have aM_ := hA_.2 M_ (Nat.le_refl _)
  have aM1_ := aM_.1
  have sA_ := Nat.lt_of_lt_of_le hs9_.2 hte_.1
  have d5_ := (aM_.2 s9_ sA_).2.2.2.2.1 h5_
  have e13_ : S0_.2.2.1 130 0 (40 * (S0_.1 13 0 28) + s_).toNat = A_.2.2.2.2 (40 * M_ + s9_) := by rw [show (40 * (S0_.1 13 0 28) + s_).toNat = 40 * M_ + s9_ by omega]; exact ((hre_ M_ (Nat.le_refl _)).2 s9_ sA_).2.2.2.1
  obtain ⟨o9_, q_, pq1_, pq2_, pq3_, pq4_, pq5_⟩ := pa_r hpa_
  obtain ⟨o_, hO_, hOl_⟩ := ((hte_.2 s9_ hs9_.2).2 h5_)
  have lo1_ := hOl_ o9_ pq2_ (by rw [pq3_]; decide)
  have aoD_ := (hA_.2 (A_.2.2.2.2 (40 * M_ + s9_)).toNat (by omega)).2 o9_ pq2_
  have wD_ := aoD_.2.2.1
  have wD1_ := aoD_.2.2.2.1 (by rw [pq3_]; decide)
  have e1o : ev1 F_ I_ A_ X_ M_ E_ O_ [cw 10 s_ (o9_ : Int)] (o_ o9_) := by have q9_ := ev1_pt (F_ := F_) (I_ := I_) (X_ := X_) (E_ := E_) (a_ := s_) (d_ := (o9_ : Int)) (o_ := o_) (m_ := M_) (A_ := A_) (O_ := O_) (by omega) aM1_ (by rw [hs9_.1, Int.toNat_natCast]; exact hO_) (by rw [hs9_.1, Int.toNat_natCast]; omega) (by rw [hs9_.1, Int.toNat_natCast]; exact d5_) (by rw [Int.toNat_natCast]; omega) (by rw [hs9_.1, Int.toNat_natCast, Int.toNat_natCast]; exact lo1_); rw [Int.toNat_natCast] at q9_; exact q9_
  have bx1_ : 0 ≤ S0_.1 13 0 28 ∧ S0_.1 13 0 28 ≤ 15 := hI_.1 13 0 28 rfl
  refine sm_T_go 5 (c1 := (10, [some (.inr (.inr (some (13, 0)))), some (.inl s_), none, none, none], [.inl (S0_.1 13 0 28), .inl 40, .inr (.inr (some (130, 0)))], S0_)) rfl ?_
  refine sm_T_bin (w := 40 * (S0_.1 13 0 28)) rfl (bi_mul (by omega) (by omega) (by omega)) ?_
  refine sm_T_go 1 (c1 := (12, [some (.inr (.inr (some (13, 0)))), some (.inl s_), none, none, none], [.inl s_, .inl (40 * (S0_.1 13 0 28)), .inr (.inr (some (130, 0)))], S0_)) rfl ?_
  refine sm_T_bin (w := 40 * (S0_.1 13 0 28) + s_) rfl (bi_add (by omega) (by omega) (by omega)) ?_
  refine sm_T_iald (n := 640) rfl rfl (by omega) (by omega) ?_
  have bx2_ : 0 ≤ S0_.2.2.1 130 0 (40 * (S0_.1 13 0 28) + s_).toNat ∧ S0_.2.2.1 130 0 (40 * (S0_.1 13 0 28) + s_).toNat ≤ 2147483647 := hI_.2 130 0 _
  have bx3_ : 0 ≤ S0_.1 13 0 9 ∧ S0_.1 13 0 9 ≤ 1280 := hI_.1 13 0 9 rfl
  refine sm_T_go 5 (c1 := (21, [some (.inr (.inr (some (13, 0)))), some (.inl s_), some (.inl (S0_.2.2.1 130 0 (40 * (S0_.1 13 0 28) + s_).toNat)), none, none], [.inl (S0_.1 13 0 9), .inl (S0_.2.2.1 130 0 (40 * (S0_.1 13 0 28) + s_).toNat), .inr (.inr (some (13, 0)))], S0_)) rfl ?_
  refine sm_T_cal (d1 := 1) (Q1 := vq_302 (S0_.2.2.1 130 0 (40 * (S0_.1 13 0 28) + s_).toNat) (S0_.1 13 0 9) b_ n_ T_ A_ (A_.2.2.2.2 (40 * M_ + s9_)).toNat p_ S0_) rfl rfl (by decide) (vc_302 (S0_.2.2.1 130 0 (40 * (S0_.1 13 0 28) + s_).toNat) (S0_.1 13 0 9) b_ n_ T_ A_ (A_.2.2.2.2 (40 * M_ + s9_)).toNat p_ S0_ hI_ (by exact ht_) (by exact ⟨by rw [e13_]; omega, by omega⟩) (by exact hre_ _ (by omega)) (by exact (hA_.2 _ (by omega)).1) (by rw [hi_.1]; exact rt1_.1)) (fun u_ Sx4_ px7_ => ?_)
  obtain ⟨rfl, vx9_, rfl, px7_⟩ := px7_
  have e21_ := px7_.trans pq1_
  have oix_ : (40 * S0_.2.2.1 130 0 (40 * (S0_.1 13 0 28) + s_).toNat + vx9_).toNat = 40 * (A_.2.2.2.2 (40 * M_ + s9_)).toNat + o9_ := by rw [e21_, e13_]; omega
  have ro_ := (hre_ (A_.2.2.2.2 (40 * M_ + s9_)).toNat (by omega)).2 o9_ pq2_
  have ao_ := (hA_.2 (A_.2.2.2.2 (40 * M_ + s9_)).toNat (by omega)).2 o9_ pq2_
  have so9_ := (congrArg (S0_.2.2.1 128 0) oix_).trans ro_.2.1
  rw [pq3_, show r_s2 1 = 2 from rfl] at so9_
  have wb_ := ao_.2.2.1
  have w1_ := ao_.2.2.2.1 (by rw [pq3_]; decide)
  have hA9_ := (hA_.2 (A_.2.2.2.2 (40 * M_ + s9_)).toNat (by omega)).1
  refine sm_T_go 3 (c1 := (27, [some (.inr (.inr (some (13, 0)))), some (.inl s_), some (.inl (S0_.2.2.1 130 0 (40 * (S0_.1 13 0 28) + s_).toNat)), some (.inl vx9_), none], [.inl (-1), .inl vx9_], S0_)) rfl ?_
  refine sm_T_br (a := 0) (z := 18) rfl (fun cx10_ => ?_) (fun cx10_ => ?_)
  · have cx10_ : vx9_ = (-1) := of_decide_eq_true cx10_
    exfalso; omega
  · have cx10_ : ¬ (vx9_ = (-1)) := of_decide_eq_false cx10_
    refine sm_T_go 4 (c1 := (37, [some (.inr (.inr (some (13, 0)))), some (.inl s_), some (.inl (S0_.2.2.1 130 0 (40 * (S0_.1 13 0 28) + s_).toNat)), some (.inl vx9_), none], [.inl (S0_.2.2.1 130 0 (40 * (S0_.1 13 0 28) + s_).toNat), .inl 40, .inr (.inr (some (128, 0)))], S0_)) rfl ?_
    refine sm_T_bin (w := 40 * (S0_.2.2.1 130 0 (40 * (S0_.1 13 0 28) + s_).toNat)) rfl (bi_mul (by omega) (by omega) (by omega)) ?_
    refine sm_T_go 1 (c1 := (39, [some (.inr (.inr (some (13, 0)))), some (.inl s_), some (.inl (S0_.2.2.1 130 0 (40 * (S0_.1 13 0 28) + s_).toNat)), some (.inl vx9_), none], [.inl vx9_, .inl (40 * (S0_.2.2.1 130 0 (40 * (S0_.1 13 0 28) + s_).toNat)), .inr (.inr (some (128, 0)))], S0_)) rfl ?_
    refine sm_T_bin (w := 40 * (S0_.2.2.1 130 0 (40 * (S0_.1 13 0 28) + s_).toNat) + vx9_) rfl (bi_add (by omega) (by omega) (by omega)) ?_
    refine sm_T_iald (n := 640) rfl rfl (by omega) (by omega) ?_
    have bx11_ : 0 ≤ S0_.2.2.1 128 0 (40 * (S0_.2.2.1 130 0 (40 * (S0_.1 13 0 28) + s_).toNat) + vx9_).toNat ∧ S0_.2.2.1 128 0 (40 * (S0_.2.2.1 130 0 (40 * (S0_.1 13 0 28) + s_).toNat) + vx9_).toNat ≤ 5 := hI_.2 128 0 _
    refine sm_T_go 1 (c1 := (42, [some (.inr (.inr (some (13, 0)))), some (.inl s_), some (.inl (S0_.2.2.1 130 0 (40 * (S0_.1 13 0 28) + s_).toNat)), some (.inl vx9_), none], [.inl 2, .inl (S0_.2.2.1 128 0 (40 * (S0_.2.2.1 130 0 (40 * (S0_.1 13 0 28) + s_).toNat) + vx9_).toNat)], S0_)) rfl ?_
    refine sm_T_br (a := 0) (z := 14) rfl (fun cx12_ => ?_) (fun cx12_ => ?_)
    · have cx12_ : (S0_.2.2.1 128 0 (40 * (S0_.2.2.1 130 0 (40 * (S0_.1 13 0 28) + s_).toNat) + vx9_).toNat) = 2 := of_decide_eq_true cx12_
      refine sm_T_go 1 (c1 := (57, [some (.inr (.inr (some (13, 0)))), some (.inl s_), some (.inl (S0_.2.2.1 130 0 (40 * (S0_.1 13 0 28) + s_).toNat)), some (.inl vx9_), none], [.inr (.inr (some (13, 0)))], S0_)) rfl ?_
      refine sm_T_cal (d1 := 2) (Q1 := vq_297 b_ n_ T_ (.inr p_) S0_) rfl rfl (by decide) (vc_297 b_ n_ T_ (.inr p_) S0_ hI_ (by exact ht_) (by exact hx_) (by (intro q9_ e_; cases e_; omega))) (fun u_ Sx13_ px16_ => ?_)
      obtain ⟨rfl, hIx14_, hFx15_, px16_⟩ := px16_
      have hFx17_ : ai_fr (sx_W vw_326g) S0_ Sx13_ := ai_fr_tr hF_ (fr_le hFx15_ rfl)
      have ex18_ : Sx13_.1 13 0 28 = S0_.1 13 0 28 := hFx15_.1 13 0 28 rfl
      have g57_ := px16_.1
      rw [pb_r rfl, pq4_] at g57_
      have t57_ := rtab_fr ht_ hFx15_ rfl rfl rfl rfl rfl
      have nw57_ := fr_arr (t := 129) (i := 0) hFx15_ rfl
      have v57_ : Sx13_.1 13 0 34 = (gl_ : Int) := (hFx17_.1 13 0 34 rfl).trans hv_.1
      have m57_ : Sx13_.1 13 0 27 = 1 := (hFx17_.1 13 0 27 rfl).trans hmo_
      have fr57_ : Sx13_.1 13 0 29 = (fr_ : Int) := (hFx17_.1 13 0 29 rfl).trans hfr_.1
      have wd57_ := (congrFun nw57_ _).trans ((congrArg (S0_.2.2.1 129 0) oix_).trans ro_.2.2.1)
      have i57_ := fr_arr (t := 145) (i := 0) hFx17_ rfl
      have lw57_ := fr_arr (t := 138) (i := 0) hFx15_ rfl
      have ll57_ := fr_arr (t := 139) (i := 0) hFx15_ rfl
      refine sm_T_go 4 (c1 := (67, [some (.inr (.inr (some (13, 0)))), some (.inl s_), some (.inl (S0_.2.2.1 130 0 (40 * (S0_.1 13 0 28) + s_).toNat)), some (.inl vx9_), none], [.inl (S0_.2.2.1 130 0 (40 * (S0_.1 13 0 28) + s_).toNat), .inl 40, .inr (.inr (some (129, 0)))], Sx13_)) rfl ?_
      refine sm_T_bin (w := 40 * (S0_.2.2.1 130 0 (40 * (S0_.1 13 0 28) + s_).toNat)) rfl (bi_mul (by omega) (by omega) (by omega)) ?_
      refine sm_T_go 1 (c1 := (69, [some (.inr (.inr (some (13, 0)))), some (.inl s_), some (.inl (S0_.2.2.1 130 0 (40 * (S0_.1 13 0 28) + s_).toNat)), some (.inl vx9_), none], [.inl vx9_, .inl (40 * (S0_.2.2.1 130 0 (40 * (S0_.1 13 0 28) + s_).toNat)), .inr (.inr (some (129, 0)))], Sx13_)) rfl ?_
      refine sm_T_bin (w := 40 * (S0_.2.2.1 130 0 (40 * (S0_.1 13 0 28) + s_).toNat) + vx9_) rfl (bi_add (by omega) (by omega) (by omega)) ?_
      refine sm_T_iald (n := 640) rfl rfl (by omega) (by omega) ?_
      have bx19_ : 0 ≤ Sx13_.2.2.1 129 0 (40 * (S0_.2.2.1 130 0 (40 * (S0_.1 13 0 28) + s_).toNat) + vx9_).toNat ∧ Sx13_.2.2.1 129 0 (40 * (S0_.2.2.1 130 0 (40 * (S0_.1 13 0 28) + s_).toNat) + vx9_).toNat ≤ 8 := hIx14_.2 129 0 _
      have bx20_ : 0 ≤ Sx13_.1 13 0 29 ∧ Sx13_.1 13 0 29 ≤ 16 := hIx14_.1 13 0 29 rfl
      refine sm_T_go 9 (c1 := (87, [some (.inr (.inr (some (13, 0)))), some (.inl s_), some (.inl (S0_.2.2.1 130 0 (40 * (S0_.1 13 0 28) + s_).toNat)), some (.inl vx9_), some (.inl (Sx13_.2.2.1 129 0 (40 * (S0_.2.2.1 130 0 (40 * (S0_.1 13 0 28) + s_).toNat) + vx9_).toNat))], [.inl (Sx13_.1 13 0 29), .inl 40, .inl 40, .inl 8, .inl 1, .inl (Sx13_.2.2.1 129 0 (40 * (S0_.2.2.1 130 0 (40 * (S0_.1 13 0 28) + s_).toNat) + vx9_).toNat), .inr (.inr (some (13, 0)))], Sx13_)) rfl ?_
      refine sm_T_bin (w := 40 * (Sx13_.1 13 0 29)) rfl (bi_mul (by omega) (by omega) (by omega)) ?_
      refine sm_T_go 1 (c1 := (89, [some (.inr (.inr (some (13, 0)))), some (.inl s_), some (.inl (S0_.2.2.1 130 0 (40 * (S0_.1 13 0 28) + s_).toNat)), some (.inl vx9_), some (.inl (Sx13_.2.2.1 129 0 (40 * (S0_.2.2.1 130 0 (40 * (S0_.1 13 0 28) + s_).toNat) + vx9_).toNat))], [.inl s_, .inl (40 * (Sx13_.1 13 0 29)), .inl 40, .inl 8, .inl 1, .inl (Sx13_.2.2.1 129 0 (40 * (S0_.2.2.1 130 0 (40 * (S0_.1 13 0 28) + s_).toNat) + vx9_).toNat), .inr (.inr (some (13, 0)))], Sx13_)) rfl ?_
      refine sm_T_bin (w := 40 * (Sx13_.1 13 0 29) + s_) rfl (bi_add (by omega) (by omega) (by omega)) ?_
      refine sm_T_bin (w := 1600 * (Sx13_.1 13 0 29) + 40 * s_) rfl (bi_mul (by omega) (by omega) (by omega)) ?_
      refine sm_T_go 1 (c1 := (92, [some (.inr (.inr (some (13, 0)))), some (.inl s_), some (.inl (S0_.2.2.1 130 0 (40 * (S0_.1 13 0 28) + s_).toNat)), some (.inl vx9_), some (.inl (Sx13_.2.2.1 129 0 (40 * (S0_.2.2.1 130 0 (40 * (S0_.1 13 0 28) + s_).toNat) + vx9_).toNat))], [.inl vx9_, .inl (1600 * (Sx13_.1 13 0 29) + 40 * s_), .inl 8, .inl 1, .inl (Sx13_.2.2.1 129 0 (40 * (S0_.2.2.1 130 0 (40 * (S0_.1 13 0 28) + s_).toNat) + vx9_).toNat), .inr (.inr (some (13, 0)))], Sx13_)) rfl ?_
      refine sm_T_bin (w := 1600 * (Sx13_.1 13 0 29) + 40 * s_ + vx9_) rfl (bi_add (by omega) (by omega) (by omega)) ?_
      refine sm_T_bin (w := 12800 * (Sx13_.1 13 0 29) + 320 * s_ + 8 * vx9_) rfl (bi_mul (by omega) (by omega) (by omega)) ?_
      refine sm_T_cal (d1 := 0) (Q1 := vq_333g (Sx13_.2.2.1 129 0 (40 * (S0_.2.2.1 130 0 (40 * (S0_.1 13 0 28) + s_).toNat) + vx9_).toNat) 1 (12800 * (Sx13_.1 13 0 29) + 320 * s_ + 8 * vx9_) gl_ Sx13_) rfl rfl (by decide) (vc_333g (Sx13_.2.2.1 129 0 (40 * (S0_.2.2.1 130 0 (40 * (S0_.1 13 0 28) + s_).toNat) + vx9_).toNat) 1 (12800 * (Sx13_.1 13 0 29) + 320 * s_ + 8 * vx9_) gl_ Sx13_ hIx14_ (by exact ⟨v57_, hv_.2⟩) (by exact m57_) (by omega) (by (right; refine ⟨rfl, ?_, ?_⟩ <;> omega))) (fun u_ Sx21_ px24_ => ?_)
      obtain ⟨rfl, hIx22_, hFx23_, px24_⟩ := px24_
      have hFx25_ : ai_fr (sx_W vw_326g) S0_ Sx21_ := ai_fr_tr hFx17_ (fr_le hFx23_ rfl)
      have ex26_ : Sx21_.1 13 0 29 = Sx13_.1 13 0 29 := hFx23_.1 13 0 29 rfl
      have c94_ := px24_
      rw [wd57_] at c94_
      have g94_ := rg_fr g57_ hFx23_ rfl rfl rfl
      have t94_ := rtab_fr t57_ hFx23_ rfl rfl rfl rfl rfl
      have v94_ : Sx21_.1 13 0 34 = (gl_ : Int) := (hFx25_.1 13 0 34 rfl).trans hv_.1
      have m94_ : Sx21_.1 13 0 27 = 1 := (hFx25_.1 13 0 27 rfl).trans hmo_
      have r94_ : rowv gl_ (o_ o9_) ok_ S0_ Sx21_ := ⟨fun j_ => by rw [c94_.1, lw57_, lo1_], fun z_ k9_ z9_ e9_ => by have hk9_ : k9_ < (o_ o9_).length := (by by_cases w9_ : k9_ < (o_ o9_).length; exact w9_; (rw [List.getElem?_eq_none (by omega)] at e9_; cases e9_)); refine (c94_.2.1 k9_ (by omega)).trans ?_; show (if (1 : Int) = 1 then _ else _) = z9_; rw [if_pos rfl, i57_]; exact (congrArg (S0_.2.2.1 145 0) (show _ = 8 * (40 * (40 * fr_ + s9_) + o9_) + k9_ by omega)).trans (((hev_ z_).2 s9_ o_ (by omega) hO_ o9_ (by omega)) k9_ z9_ e9_), fun j_ hj_ => by rw [c94_.2.2 j_ hj_, ll57_]⟩
      refine sm_T_go 2 (c1 := (100, [some (.inr (.inr (some (13, 0)))), some (.inl s_), some (.inl (S0_.2.2.1 130 0 (40 * (S0_.1 13 0 28) + s_).toNat)), some (.inl vx9_), some (.inl (Sx13_.2.2.1 129 0 (40 * (S0_.2.2.1 130 0 (40 * (S0_.1 13 0 28) + s_).toNat) + vx9_).toNat))], [.inl 46, .inr (.inr (some (13, 0)))], Sx21_)) rfl ?_
      refine sm_T_cal (d1 := 0) (Q1 := vq_295 46 b_ n_ T_ (.inr q_) Sx21_) rfl rfl (by decide) (vc_295 46 b_ n_ T_ (.inr q_) Sx21_ hIx22_ (by exact t94_) (by exact g94_) (by decide)) (fun u_ Sx27_ px30_ => ?_)
      obtain ⟨rfl, vx32_, rfl, px30_⟩ := px30_
      have e100_ := px30_.2 q_ rfl
      have r100_ := px30_.1
      refine sm_T_b0 (a := 0) (z := 13) rfl (fun cx33_ => ?_) (fun cx33_ => ?_)
      · have cx33_ : vx32_ = 0 := of_decide_eq_true cx33_
        refine sm_T_rv rfl ⟨_, _, rfl, rfl, hIx22_, hFx25_, ?_⟩
        first | (have q5_ : r_ = (q_, A_.2.2.2.1 (40 * (A_.2.2.2.2 (40 * M_ + s9_)).toNat + o9_), [cw 10 s_ (o9_ : Int)]) := (by rcases pq5_ with z_ | z_; (exact z_.2); (have := e100_.mpr z_.1; omega)); rw [q5_]; exact ⟨o_ o9_, e1o, lo1_, by omega, g94_, r94_⟩) | (have r9_ := bp_rr q4_; rw [q5_]; exact ⟨_, ev1_bi e1o (by omega) (by omega), rfl, ⟨by simp, by simp⟩, e113_.1, rowv_bi r94_ (by omega) (by omega) e113_.2.1 e113_.2.2⟩)
      · have cx33_ : ¬ (vx32_ = 0) := of_decide_eq_false cx33_
        refine sm_T_go 1 (c1 := (107, [some (.inr (.inr (some (13, 0)))), some (.inl s_), some (.inl (S0_.2.2.1 130 0 (40 * (S0_.1 13 0 28) + s_).toNat)), some (.inl vx9_), some (.inl (Sx13_.2.2.1 129 0 (40 * (S0_.2.2.1 130 0 (40 * (S0_.1 13 0 28) + s_).toNat) + vx9_).toNat))], [.inr (.inr (some (13, 0)))], Sx21_)) rfl ?_
        refine sm_T_cal (d1 := 2) (Q1 := vq_297 b_ n_ T_ (.inr q_) Sx21_) rfl rfl (by decide) (vc_297 b_ n_ T_ (.inr q_) Sx21_ hIx22_ (by exact t94_) (by exact g94_) (by (intro q9_ e_; cases e_; have := e100_.mp (by omega); omega))) (fun u_ Sx34_ px37_ => ?_)
        obtain ⟨rfl, hIx35_, hFx36_, px37_⟩ := px37_
        have hFx38_ : ai_fr (sx_W vw_326g) S0_ Sx34_ := ai_fr_tr hFx25_ (fr_le hFx36_ rfl)
        have k46_ : lx_kd b_ n_ q_ = 46 := e100_.mp (by omega)
        obtain ⟨q2_, u_, q3_, q4_, q5_⟩ : ∃ q2_ u_, p_ad b_ n_ q_ = .inr q2_ ∧ p_bp b_ n_ (A_.2.2.2.1 (40 * (A_.2.2.2.2 (40 * M_ + s9_)).toNat + o9_)) q2_ = .inr u_ ∧ r_ = (u_, 1, [cw 11 (lx_vl b_ n_ q2_) 0, cw 10 s_ (o9_ : Int)]) := by rcases pq5_ with z_ | z_; (exact absurd k46_ z_.1); (exact z_.2)
        have g107_ := px37_.1
        rw [pb_r rfl, q3_] at g107_
        have t107_ := rtab_fr t94_ hFx36_ rfl rfl rfl rfl rfl
        have v107_ : Sx34_.1 13 0 34 = (gl_ : Int) := (hFx38_.1 13 0 34 rfl).trans hv_.1
        have m107_ : Sx34_.1 13 0 27 = 1 := (hFx38_.1 13 0 27 rfl).trans hmo_
        have w107_ := fr_arr (t := 138) (i := 0) hFx36_ rfl
        have l107_ := fr_arr (t := 139) (i := 0) hFx36_ rfl
        refine sm_T_go 2 (c1 := (113, [some (.inr (.inr (some (13, 0)))), some (.inl s_), some (.inl (S0_.2.2.1 130 0 (40 * (S0_.1 13 0 28) + s_).toNat)), some (.inl vx9_), some (.inl (Sx13_.2.2.1 129 0 (40 * (S0_.2.2.1 130 0 (40 * (S0_.1 13 0 28) + s_).toNat) + vx9_).toNat))], [.inl (Sx13_.2.2.1 129 0 (40 * (S0_.2.2.1 130 0 (40 * (S0_.1 13 0 28) + s_).toNat) + vx9_).toNat), .inr (.inr (some (13, 0)))], Sx34_)) rfl ?_
        refine sm_T_cal (d1 := 3) (Q1 := vq_325g (Sx13_.2.2.1 129 0 (40 * (S0_.2.2.1 130 0 (40 * (S0_.1 13 0 28) + s_).toNat) + vx9_).toNat) b_ n_ T_ q2_ gl_ u_ Sx34_) rfl rfl (by decide) (vc_325g (Sx13_.2.2.1 129 0 (40 * (S0_.2.2.1 130 0 (40 * (S0_.1 13 0 28) + s_).toNat) + vx9_).toNat) b_ n_ T_ q2_ gl_ u_ Sx34_ hIx35_ (by exact t107_) (by exact g107_) (by exact ⟨v107_, hv_.2⟩) (by exact m107_) (by omega) (by (rw [wd57_]; exact q4_))) (fun u_ Sx39_ px42_ => ?_)
        obtain ⟨rfl, hIx40_, hFx41_, px42_⟩ := px42_
        have hFx43_ : ai_fr (sx_W vw_326g) S0_ Sx39_ := ai_fr_tr hFx38_ (fr_le hFx41_ rfl)
        have e113_ := px42_
        rw [w107_, l107_] at e113_
        refine sm_T_rv rfl ⟨_, _, rfl, rfl, hIx40_, hFx43_, ?_⟩
        first | (have q5_ : r_ = (q_, A_.2.2.2.1 (40 * (A_.2.2.2.2 (40 * M_ + s9_)).toNat + o9_), [cw 10 s_ (o9_ : Int)]) := (by rcases pq5_ with z_ | z_; (exact z_.2); (have := e100_.mpr z_.1; omega)); rw [q5_]; exact ⟨o_ o9_, e1o, lo1_, by omega, g94_, r94_⟩) | (have r9_ := bp_rr q4_; rw [q5_]; exact ⟨_, ev1_bi e1o (by omega) (by omega), rfl, ⟨by simp, by simp⟩, e113_.1, rowv_bi r94_ (by omega) (by omega) e113_.2.1 e113_.2.2⟩)
    · have cx12_ : ¬ ((S0_.2.2.1 128 0 (40 * (S0_.2.2.1 130 0 (40 * (S0_.1 13 0 28) + s_).toNat) + vx9_).toNat) = 2) := of_decide_eq_false cx12_
      exfalso; omega
end
/-! 99.zc7a -/
section
/-! the reference: names, second pass; written by wip/p55/gen/vg -/

/-! names -/
theorem na_r {b_ : Nat → Int} {n_ M_ p_ : Nat} {A_ : pA} {r_ : Nat × Int × List Int} (h_ : p_na b_ n_ A_ M_ p_ = .inr r_) : ∃ s9_ q_ : Nat, p_fn b_ n_ A_ M_ p_ = (s9_ : Int) ∧ s9_ < A_.1 M_ ∧ p_ad b_ n_ p_ = .inr q_ ∧ ((lx_kd b_ n_ q_ ≠ 46 ∧ A_.2.2.1 (40 * M_ + s9_) ≠ 5 ∧ r_ = (q_, A_.2.2.2.1 (40 * M_ + s9_), [cw 9 (s9_ : Int) 0])) ∨ (lx_kd b_ n_ q_ = 46 ∧ ∃ q2_, p_ad b_ n_ q_ = .inr q2_ ∧ ((lx_kd b_ n_ q2_ = 1 ∧ A_.2.2.1 (40 * M_ + s9_) = 5 ∧ p_pa b_ n_ A_ (s9_ : Int) (A_.2.2.2.2 (40 * M_ + s9_)).toNat q2_ = .inr r_) ∨ (lx_kd b_ n_ q2_ = 2 ∧ A_.2.2.1 (40 * M_ + s9_) ≠ 5 ∧ ∃ u_, p_bp b_ n_ (A_.2.2.2.1 (40 * M_ + s9_)) q2_ = .inr u_ ∧ r_ = (u_, 1, [cw 11 (lx_vl b_ n_ q2_) 0, cw 9 (s9_ : Int) 0]))))) := by
  by_cases hf_ : p_fn b_ n_ A_ M_ p_ = -1
  · rw [na_0 hf_] at h_
    cases h_
  · obtain ⟨s9_, q1_, q2_, q3_, -⟩ := p_fn_b (b_ := b_) (n_ := n_) (A_ := A_) (m_ := M_) (p_ := p_) hf_
    cases hq_ : p_ad b_ n_ p_ with
    | inl e_ => rw [na_1 q1_ hq_] at h_; cases h_
    | inr q_ =>
      refine ⟨s9_, q_, q1_, q2_, rfl, ?_⟩
      by_cases k46_ : lx_kd b_ n_ q_ = 46
      · right
        refine ⟨k46_, ?_⟩
        cases hr_ : p_ad b_ n_ q_ with
        | inl e_ => rw [na_3 q1_ hq_ k46_ hr_] at h_; cases h_
        | inr u_ =>
          refine ⟨u_, rfl, ?_⟩
          by_cases k1_ : lx_kd b_ n_ u_ = 1
          · left
            rw [na_4 q1_ hq_ k46_ hr_ k1_] at h_
            split at h_
            · rename_i g_
              exact ⟨k1_, g_, h_⟩
            · cases h_
          · right
            by_cases k2_ : lx_kd b_ n_ u_ = 2
            · rw [na_5 q1_ hq_ k46_ hr_ k2_] at h_
              split at h_
              · cases h_
              · rename_i g_
                rw [bp_bi] at h_
                obtain ⟨v_, h5_, h6_⟩ := pb_inr h_
                cases h6_
                exact ⟨k2_, g_, v_, h5_, rfl⟩
            · rw [na_6 q1_ hq_ k46_ hr_ k1_ k2_] at h_
              cases h_
      · left
        rw [na_2 q1_ hq_ k46_] at h_
        split at h_
        · cases h_
        · rename_i g_
          cases h_
          exact ⟨k46_, g_, rfl⟩
end
/-! 99.zc7b -/
section
/-! M_.named -/
def vw_324g : sx_Wl := ([(13, 9), (13, 10), (13, 11)], [138, 139], [])
def vq_324g (b_ : Nat → Int) (n_ : Nat) (T_ : Nat) (p_ : Nat) (gl_ : Nat) (F_ : Nat) (I_ : Nat) (A_ : pA) (X_ : Nat → gQ → gE → Option (gQ × gE)) (M_ : Nat) (K_ : Nat) (fr_ : Nat) (E_ : gE) (O_ : gO) (ok_ : Prop) (r_ : Nat × Int × List Int) (S0_ : sm_S) (u_ : Option sm_V) (S1_ : sm_S) : Prop := u_ = none ∧ gi S1_ ∧ ai_fr (sx_W vw_324g) S0_ S1_ ∧ (∃ v9_, ev1 F_ I_ A_ X_ M_ E_ O_ r_.2.2 v9_ ∧ (v9_.length : Int) = r_.2.1 ∧ (1 ≤ v9_.length ∧ v9_.length ≤ 8) ∧ rg b_ n_ T_ (.inr r_.1) S1_ ∧ rowv gl_ v9_ ok_ S0_ S1_)
set_option maxHeartbeats 2000000 in
set_option maxRecDepth 20000 in
theorem vc_324g {sc_ : Nat × (Nat → Int)} (b_ : Nat → Int) (n_ : Nat) (T_ : Nat) (p_ : Nat) (gl_ : Nat) (F_ : Nat) (I_ : Nat) (A_ : pA) (X_ : Nat → gQ → gE → Option (gQ × gE)) (M_ : Nat) (K_ : Nat) (fr_ : Nat) (E_ : gE) (O_ : gO) (ok_ : Prop) (r_ : Nat × Int × List Int) (S0_ : sm_S) (hI_ : gi S0_) (ht_ : rtab b_ n_ T_ S0_) (hx_ : rg b_ n_ T_ (.inr p_) S0_) (hv_ : (S0_.1 13 0 34) = (gl_ : Int) ∧ gl_ ≤ 1000) (hmo_ : (S0_.1 13 0 27) = 1) (hk_ : lx_kd b_ n_ p_ = 1) (hA_ : a_ok b_ n_ A_ M_) (hmd_ : (S0_.1 13 0 28) = (M_ : Int)) (hfr_ : (S0_.1 13 0 29) = (fr_ : Int) ∧ fr_ ≤ 15) (hre_ : ∀ m_, m_ ≤ M_ → re1 b_ n_ T_ A_ m_ S0_) (hte_ : ten A_ M_ K_ E_ O_) (hev_ : rev fr_ K_ E_ O_ ok_ S0_) (hK_ : p_fn b_ n_ A_ M_ p_ < (K_ : Int)) (hna_ : p_na b_ n_ A_ M_ p_ = .inr r_) : sm_T (mt_P sc_) 5 324 (0, [some (.inr (.inr (some (13, 0)))), none, none, none, none], [], S0_) (fun ro9_ => ∃ u_ S1_, ro9_ = (.inl u_, S1_, 0) ∧ vq_324g b_ n_ T_ p_ gl_ F_ I_ A_ X_ M_ K_ fr_ E_ O_ ok_ r_ S0_ u_ S1_) := by
  have hF_ : ai_fr (sx_W vw_324g) S0_ S0_ := ai_fr_rf
  obtain ⟨i_, hi_⟩ := id hx_.2
  have hi9_ := hi_.2.1
  have hT_ := ht_.2.1
  have hf_ := hx_.1
  have rt1_ := rp_rtk ht_ hi_.2 hk_
  have hM1_ := hA_.1
  have aM_ := hA_.2 M_ (Nat.le_refl _)
  have aM1_ := aM_.1
  obtain ⟨s9_, q_, nq1_, nq2_, nq3_, nq4_⟩ := na_r hna_
  have sK_ : s9_ < K_ := by omega
  have ro_ := (hre_ M_ (Nat.le_refl _)).2 s9_ nq2_
  have ao_ := aM_.2 s9_ nq2_
  have sb_ := r_s2_b ao_.2.1
  have bx1_ : 0 ≤ S0_.1 13 0 9 ∧ S0_.1 13 0 9 ≤ 1280 := hI_.1 13 0 9 rfl
  have bx2_ : 0 ≤ S0_.1 13 0 28 ∧ S0_.1 13 0 28 ≤ 15 := hI_.1 13 0 28 rfl
  refine sm_T_go 7 (c1 := (11, [some (.inr (.inr (some (13, 0)))), some (.inl (S0_.1 13 0 9)), none, none, none], [.inl (S0_.1 13 0 9), .inl (S0_.1 13 0 28), .inr (.inr (some (13, 0)))], S0_)) rfl ?_
  refine sm_T_cal (d1 := 1) (Q1 := vq_302 (S0_.1 13 0 28) (S0_.1 13 0 9) b_ n_ T_ A_ M_ p_ S0_) rfl rfl (by decide) (vc_302 (S0_.1 13 0 28) (S0_.1 13 0 9) b_ n_ T_ A_ M_ p_ S0_ hI_ (by exact ht_) (by exact ⟨hmd_, hM1_⟩) (by exact hre_ M_ (Nat.le_refl _)) (by exact aM1_) (by rw [hi_.1]; exact rt1_.1)) (fun u_ Sx3_ px6_ => ?_)
  obtain ⟨rfl, vx8_, rfl, px6_⟩ := px6_
  have e11 := px6_.trans nq1_
  have kx0_ : ∀ z_ : Int, z_ = (M_ : Int) → (40 * z_ + vx8_).toNat = 40 * M_ + s9_ := by intro z_ q_; omega
  refine sm_T_go 3 (c1 := (17, [some (.inr (.inr (some (13, 0)))), some (.inl (S0_.1 13 0 9)), some (.inl vx8_), none, none], [.inl (-1), .inl vx8_], S0_)) rfl ?_
  refine sm_T_br (a := 1) (z := 11) rfl (fun cx9_ => ?_) (fun cx9_ => ?_)
  · have cx9_ : vx8_ ≠ (-1) := of_decide_eq_true cx9_
    refine sm_T_go 1 (c1 := (29, [some (.inr (.inr (some (13, 0)))), some (.inl (S0_.1 13 0 9)), some (.inl vx8_), none, none], [.inr (.inr (some (13, 0)))], S0_)) rfl ?_
    refine sm_T_cal (d1 := 2) (Q1 := vq_297 b_ n_ T_ (.inr p_) S0_) rfl rfl (by decide) (vc_297 b_ n_ T_ (.inr p_) S0_ hI_ (by exact ht_) (by exact hx_) (by (intro q9_ e_; cases e_; omega))) (fun u_ Sx10_ px13_ => ?_)
    obtain ⟨rfl, hIx11_, hFx12_, px13_⟩ := px13_
    have hFx14_ : ai_fr (sx_W vw_324g) S0_ Sx10_ := ai_fr_tr hF_ (fr_le hFx12_ rfl)
    have ex15_ : Sx10_.1 13 0 28 = S0_.1 13 0 28 := hFx12_.1 13 0 28 rfl
    have g29_ := px13_.1
    rw [pb_r rfl, nq3_] at g29_
    have t29_ := rtab_fr ht_ hFx12_ rfl rfl rfl rfl rfl
    have sx_ := fr_arr (t := 128) (i := 0) hFx14_ rfl
    have wx_ := fr_arr (t := 129) (i := 0) hFx14_ rfl
    have mx_ : Sx10_.1 13 0 28 = (M_ : Int) := (hFx14_.1 13 0 28 rfl).trans hmd_
    have kx_ := kx0_ _ mx_
    have sk_ := (congrFun sx_ _).trans ((congrArg (S0_.2.2.1 128 0) kx_).trans ro_.2.1)
    have wk_ := (congrFun wx_ _).trans ((congrArg (S0_.2.2.1 129 0) kx_).trans ro_.2.2.1)
    have vl9_ : Sx10_.1 13 0 34 = (gl_ : Int) := (hFx14_.1 13 0 34 rfl).trans hv_.1
    have mo9_ : Sx10_.1 13 0 27 = 1 := (hFx14_.1 13 0 27 rfl).trans hmo_
    have fr9_ : Sx10_.1 13 0 29 = (fr_ : Int) := (hFx14_.1 13 0 29 rfl).trans hfr_.1
    have re9_ : ∀ m_, m_ ≤ M_ → re1 b_ n_ T_ A_ m_ Sx10_ := fun m_ hm_ => re1_fr (hre_ m_ hm_) hFx14_ rfl rfl rfl rfl rfl rfl
    have lw9_ := fr_arr (t := 138) (i := 0) hFx12_ rfl
    have ll9_ := fr_arr (t := 139) (i := 0) hFx12_ rfl
    have i9_ := fr_arr (t := 144) (i := 0) hFx14_ rfl
    have ev9_ := rev_fr hev_ hFx14_ rfl rfl
    refine sm_T_go 2 (c1 := (35, [some (.inr (.inr (some (13, 0)))), some (.inl (S0_.1 13 0 9)), some (.inl vx8_), none, none], [.inl 46, .inr (.inr (some (13, 0)))], Sx10_)) rfl ?_
    refine sm_T_cal (d1 := 0) (Q1 := vq_295 46 b_ n_ T_ (.inr q_) Sx10_) rfl rfl (by decide) (vc_295 46 b_ n_ T_ (.inr q_) Sx10_ hIx11_ (by exact t29_) (by exact g29_) (by decide)) (fun u_ Sx16_ px19_ => ?_)
    obtain ⟨rfl, vx21_, rfl, px19_⟩ := px19_
    have e35_ := px19_.2 q_ rfl
    have r35_ := px19_.1
    refine sm_T_go 2 (c1 := (40, [some (.inr (.inr (some (13, 0)))), some (.inl (S0_.1 13 0 9)), some (.inl vx8_), some (.inl vx21_), none], [.inl vx21_], Sx10_)) rfl ?_
    refine sm_T_b0 (a := 0) (z := 43) rfl (fun cx22_ => ?_) (fun cx22_ => ?_)
    · have cx22_ : vx21_ = 0 := of_decide_eq_true cx22_
      have bx23_ : 0 ≤ Sx10_.1 13 0 28 ∧ Sx10_.1 13 0 28 ≤ 15 := hIx11_.1 13 0 28 rfl
      refine sm_T_go 3 (c1 := (89, [some (.inr (.inr (some (13, 0)))), some (.inl (S0_.1 13 0 9)), some (.inl vx8_), some (.inl vx21_), none], [.inl (Sx10_.1 13 0 28), .inl 40], Sx10_)) rfl ?_
      refine sm_T_bin (w := 40 * (Sx10_.1 13 0 28)) rfl (bi_mul (by omega) (by omega) (by omega)) ?_
      refine sm_T_go 1 (c1 := (91, [some (.inr (.inr (some (13, 0)))), some (.inl (S0_.1 13 0 9)), some (.inl vx8_), some (.inl vx21_), none], [.inl vx8_, .inl (40 * (Sx10_.1 13 0 28))], Sx10_)) rfl ?_
      refine sm_T_bin (w := 40 * (Sx10_.1 13 0 28) + vx8_) rfl (bi_add (by omega) (by omega) (by omega)) ?_
      refine sm_T_go 2 (c1 := (95, [some (.inr (.inr (some (13, 0)))), some (.inl (S0_.1 13 0 9)), some (.inl vx8_), some (.inl vx21_), some (.inl (40 * (Sx10_.1 13 0 28) + vx8_))], [.inl vx21_], Sx10_)) rfl ?_
      refine sm_T_b0 (a := 0) (z := 41) rfl (fun cx24_ => ?_) (fun cx24_ => ?_)
      · have cx24_ : vx21_ = 0 := of_decide_eq_true cx24_
        refine sm_T_go 3 (c1 := (142, [some (.inr (.inr (some (13, 0)))), some (.inl (S0_.1 13 0 9)), some (.inl vx8_), some (.inl vx21_), some (.inl (40 * (Sx10_.1 13 0 28) + vx8_))], [.inl (40 * (Sx10_.1 13 0 28) + vx8_), .inr (.inr (some (128, 0)))], Sx10_)) rfl ?_
        refine sm_T_iald (n := 640) rfl rfl (by omega) (by omega) ?_
        have bx25_ : 0 ≤ Sx10_.2.2.1 128 0 (40 * (Sx10_.1 13 0 28) + vx8_).toNat ∧ Sx10_.2.2.1 128 0 (40 * (Sx10_.1 13 0 28) + vx8_).toNat ≤ 5 := hIx11_.2 128 0 _
        refine sm_T_cal (d1 := 0) (Q1 := vq_323 (Sx10_.2.2.1 128 0 (40 * (Sx10_.1 13 0 28) + vx8_).toNat) Sx10_) rfl rfl (by decide) (vc_323 (Sx10_.2.2.1 128 0 (40 * (Sx10_.1 13 0 28) + vx8_).toNat) Sx10_ hIx11_ ) (fun u_ Sx26_ px29_ => ?_)
        obtain ⟨rfl, vx31_, rfl, px29_⟩ := px29_
        have e143_ := px29_
        refine sm_T_b0 (a := 1) (z := 11) rfl (fun cx32_ => ?_) (fun cx32_ => ?_)
        · have cx32_ : vx31_ ≠ 0 := of_decide_eq_true cx32_
          refine sm_T_go 4 (c1 := (164, [some (.inr (.inr (some (13, 0)))), some (.inl (S0_.1 13 0 9)), some (.inl vx8_), some (.inl vx21_), some (.inl (40 * (Sx10_.1 13 0 28) + vx8_))], [.inl (40 * (Sx10_.1 13 0 28) + vx8_), .inr (.inr (some (129, 0))), .inr (.inr (some (13, 0)))], Sx10_)) rfl ?_
          refine sm_T_iald (n := 640) rfl rfl (by omega) (by omega) ?_
          have bx33_ : 0 ≤ Sx10_.2.2.1 129 0 (40 * (Sx10_.1 13 0 28) + vx8_).toNat ∧ Sx10_.2.2.1 129 0 (40 * (Sx10_.1 13 0 28) + vx8_).toNat ≤ 8 := hIx11_.2 129 0 _
          have bx34_ : 0 ≤ Sx10_.1 13 0 29 ∧ Sx10_.1 13 0 29 ≤ 16 := hIx11_.1 13 0 29 rfl
          refine sm_T_go 5 (c1 := (174, [some (.inr (.inr (some (13, 0)))), some (.inl (S0_.1 13 0 9)), some (.inl vx8_), some (.inl vx21_), some (.inl (40 * (Sx10_.1 13 0 28) + vx8_))], [.inl (Sx10_.1 13 0 29), .inl 40, .inl 8, .inl 0, .inl (Sx10_.2.2.1 129 0 (40 * (Sx10_.1 13 0 28) + vx8_).toNat), .inr (.inr (some (13, 0)))], Sx10_)) rfl ?_
          refine sm_T_bin (w := 40 * (Sx10_.1 13 0 29)) rfl (bi_mul (by omega) (by omega) (by omega)) ?_
          refine sm_T_go 1 (c1 := (176, [some (.inr (.inr (some (13, 0)))), some (.inl (S0_.1 13 0 9)), some (.inl vx8_), some (.inl vx21_), some (.inl (40 * (Sx10_.1 13 0 28) + vx8_))], [.inl vx8_, .inl (40 * (Sx10_.1 13 0 29)), .inl 8, .inl 0, .inl (Sx10_.2.2.1 129 0 (40 * (Sx10_.1 13 0 28) + vx8_).toNat), .inr (.inr (some (13, 0)))], Sx10_)) rfl ?_
          refine sm_T_bin (w := 40 * (Sx10_.1 13 0 29) + vx8_) rfl (bi_add (by omega) (by omega) (by omega)) ?_
          refine sm_T_bin (w := 320 * (Sx10_.1 13 0 29) + 8 * vx8_) rfl (bi_mul (by omega) (by omega) (by omega)) ?_
          refine sm_T_cal (d1 := 0) (Q1 := vq_333g (Sx10_.2.2.1 129 0 (40 * (Sx10_.1 13 0 28) + vx8_).toNat) 0 (320 * (Sx10_.1 13 0 29) + 8 * vx8_) gl_ Sx10_) rfl rfl (by decide) (vc_333g (Sx10_.2.2.1 129 0 (40 * (Sx10_.1 13 0 28) + vx8_).toNat) 0 (320 * (Sx10_.1 13 0 29) + 8 * vx8_) gl_ Sx10_ hIx11_ (by exact ⟨vl9_, hv_.2⟩) (by exact mo9_) (by (have := ao_.2.2.1; omega)) (by (left; refine ⟨rfl, ?_, ?_⟩ <;> omega))) (fun u_ Sx35_ px38_ => ?_)
          obtain ⟨rfl, hIx36_, hFx37_, px38_⟩ := px38_
          have hFx39_ : ai_fr (sx_W vw_324g) S0_ Sx35_ := ai_fr_tr hFx14_ (fr_le hFx37_ rfl)
          have ex40_ : Sx35_.1 13 0 29 = Sx10_.1 13 0 29 := hFx37_.1 13 0 29 rfl
          have ex41_ : Sx35_.1 13 0 28 = Sx10_.1 13 0 28 := hFx37_.1 13 0 28 rfl
          have c178_ := px38_
          rw [wk_] at c178_
          first | (have g178_ := rg_fr g44_ hFx37_ rfl rfl rfl; have t178_ := rtab_fr t44_ hFx37_ rfl rfl rfl rfl rfl) | (have g178_ := rg_fr g29_ hFx37_ rfl rfl rfl; have t178_ := rtab_fr t29_ hFx37_ rfl rfl rfl rfl rfl)
          have vl8_ : Sx35_.1 13 0 34 = (gl_ : Int) := (hFx39_.1 13 0 34 rfl).trans hv_.1
          have mo8_ : Sx35_.1 13 0 27 = 1 := (hFx39_.1 13 0 27 rfl).trans hmo_
          have wx8_ := fr_arr (t := 129) (i := 0) hFx39_ rfl
          have wk8_ := (congrFun wx8_ _).trans ((congrArg (S0_.2.2.1 129 0) kx_).trans ro_.2.2.1)
          have nso_ : A_.2.2.1 (40 * M_ + s9_) ≠ 5 := fun z_ => by have z1_ := e143_.2; have z2_ := sb_.2.1.mpr z_; omega
          have lE := (hte_.2 s9_ sK_).1 nso_
          have wA_ := ao_.2.2.1
          have wA1_ := ao_.2.2.2.1 nso_
          have e1o : ev1 F_ I_ A_ X_ M_ E_ O_ [cw 9 (s9_ : Int) 0] (E_ s9_) := by have q9_ := ev1_ld (F_ := F_) (I_ := I_) (X_ := X_) (E_ := E_) (O_ := O_) (a_ := (s9_ : Int)) (m_ := M_) (A_ := A_) (by omega) aM1_ (by rw [Int.toNat_natCast]; omega) (by rw [Int.toNat_natCast]; exact lE); rw [Int.toNat_natCast] at q9_; exact q9_
          have r178_ : rowv gl_ (E_ s9_) ok_ S0_ Sx35_ := ⟨fun j_ => by rw [c178_.1, lw9_, lE], fun z_ k9_ z9_ e9_ => by have hk9_ : k9_ < (E_ s9_).length := (by by_cases w9_ : k9_ < (E_ s9_).length; exact w9_; (rw [List.getElem?_eq_none (by omega)] at e9_; cases e9_)); refine (c178_.2.1 k9_ (by omega)).trans ?_; show (if (0 : Int) = 1 then _ else _) = z9_; rw [if_neg (by decide), i9_]; exact (congrArg (S0_.2.2.1 144 0) (show _ = 8 * (40 * fr_ + s9_) + k9_ by omega)).trans (((hev_ z_).1 s9_ (by omega)) k9_ z9_ e9_), fun j_ hj_ => by rw [c178_.2.2 j_ hj_, ll9_]⟩
          refine sm_T_go 1 (c1 := (182, [some (.inr (.inr (some (13, 0)))), some (.inl (S0_.1 13 0 9)), some (.inl vx8_), some (.inl vx21_), some (.inl (40 * (Sx10_.1 13 0 28) + vx8_))], [.inl vx21_], Sx35_)) rfl ?_
          refine sm_T_b0 (a := 0) (z := 14) rfl (fun cx42_ => ?_) (fun cx42_ => ?_)
          · have cx42_ : vx21_ = 0 := of_decide_eq_true cx42_
            refine sm_T_rv rfl ⟨_, _, rfl, rfl, hIx36_, hFx39_, ?_⟩
            first | (have r9_ := bp_rr nu1_; rw [nu2_]; exact ⟨_, ev1_bi e1o (by omega) (by omega), rfl, ⟨by simp, by simp⟩, e193_.1, rowv_bi r178_ (by omega) (by omega) e193_.2.1 e193_.2.2⟩) | (have q5_ : r_ = (q_, A_.2.2.2.1 (40 * M_ + s9_), [cw 9 (s9_ : Int) 0]) := (by rcases nq4_ with z_ | z_; (exact z_.2.2); (have := e35_.mpr z_.1; omega)); rw [q5_]; exact ⟨E_ s9_, e1o, lE, by omega, g178_, r178_⟩)
          · have cx42_ : ¬ (vx21_ = 0) := of_decide_eq_false cx42_
            exfalso; omega
        · have cx32_ : ¬ (vx31_ ≠ 0) := of_decide_eq_false cx32_
          exfalso; (have z9_ := e143_.2; have z8_ := sb_.2.2.2.2; have z7_ : A_.2.2.1 (40 * M_ + s9_) = 5 := sb_.2.1.mp (by omega); first | (rcases nq5_ with z_ | z_; (have z3_ := j5_.2.1.mpr z_.1; omega); (exact z_.2.1 z7_)) | (rcases nq4_ with z_ | z_; (exact z_.2.1 z7_); (have z3_ := e35_.mpr z_.1; omega)))
      · have cx24_ : ¬ (vx21_ = 0) := of_decide_eq_false cx24_
        exfalso; omega
    · have cx22_ : ¬ (vx21_ = 0) := of_decide_eq_false cx22_
      have k46_ := e35_.mp (by omega)
      obtain ⟨q2_, nq6_, nq5_⟩ : ∃ q2_, p_ad b_ n_ q_ = .inr q2_ ∧ ((lx_kd b_ n_ q2_ = 1 ∧ A_.2.2.1 (40 * M_ + s9_) = 5 ∧ p_pa b_ n_ A_ (s9_ : Int) (A_.2.2.2.2 (40 * M_ + s9_)).toNat q2_ = .inr r_) ∨ (lx_kd b_ n_ q2_ = 2 ∧ A_.2.2.1 (40 * M_ + s9_) ≠ 5 ∧ ∃ u_, p_bp b_ n_ (A_.2.2.2.1 (40 * M_ + s9_)) q2_ = .inr u_ ∧ r_ = (u_, 1, [cw 11 (lx_vl b_ n_ q2_) 0, cw 9 (s9_ : Int) 0]))) := by rcases nq4_ with z_ | z_; (exact absurd k46_ z_.1); (exact z_.2)
      refine sm_T_go 1 (c1 := (44, [some (.inr (.inr (some (13, 0)))), some (.inl (S0_.1 13 0 9)), some (.inl vx8_), some (.inl vx21_), none], [.inr (.inr (some (13, 0)))], Sx10_)) rfl ?_
      refine sm_T_cal (d1 := 2) (Q1 := vq_297 b_ n_ T_ (.inr q_) Sx10_) rfl rfl (by decide) (vc_297 b_ n_ T_ (.inr q_) Sx10_ hIx11_ (by exact t29_) (by exact g29_) (by (intro z_ e_; cases e_; omega))) (fun u_ Sx43_ px46_ => ?_)
      obtain ⟨rfl, hIx44_, hFx45_, px46_⟩ := px46_
      have hFx47_ : ai_fr (sx_W vw_324g) S0_ Sx43_ := ai_fr_tr hFx14_ (fr_le hFx45_ rfl)
      have g44_ := px46_.1
      rw [pb_r rfl, nq6_] at g44_
      have t44_ := rtab_fr t29_ hFx45_ rfl rfl rfl rfl rfl
      obtain ⟨j_, j1_, j2_⟩ := id g44_.2
      have j3_ := rp_at t44_ j2_
      have j5_ := r_st_3 (lx_kd_r j2_.2.2.1)
      have j6_ : Sx43_.2.2.1 119 0 (Sx43_.1 13 0 9).toNat = r_st (lx_kd b_ n_ q2_) := by rw [show (Sx43_.1 13 0 9).toNat = j_ by omega]; exact j3_.1
      have sx_ := fr_arr (t := 128) (i := 0) hFx47_ rfl
      have wx_ := fr_arr (t := 129) (i := 0) hFx47_ rfl
      have mx_ : Sx43_.1 13 0 28 = (M_ : Int) := (hFx47_.1 13 0 28 rfl).trans hmd_
      have kx_ := kx0_ _ mx_
      have sk_ := (congrFun sx_ _).trans ((congrArg (S0_.2.2.1 128 0) kx_).trans ro_.2.1)
      have wk_ := (congrFun wx_ _).trans ((congrArg (S0_.2.2.1 129 0) kx_).trans ro_.2.2.1)
      have vl9_ : Sx43_.1 13 0 34 = (gl_ : Int) := (hFx47_.1 13 0 34 rfl).trans hv_.1
      have mo9_ : Sx43_.1 13 0 27 = 1 := (hFx47_.1 13 0 27 rfl).trans hmo_
      have fr9_ : Sx43_.1 13 0 29 = (fr_ : Int) := (hFx47_.1 13 0 29 rfl).trans hfr_.1
      have re9_ : ∀ m_, m_ ≤ M_ → re1 b_ n_ T_ A_ m_ Sx43_ := fun m_ hm_ => re1_fr (hre_ m_ hm_) hFx47_ rfl rfl rfl rfl rfl rfl
      have lw9_ := (fr_arr (t := 138) (i := 0) hFx45_ rfl).trans lw9_
      have ll9_ := (fr_arr (t := 139) (i := 0) hFx45_ rfl).trans ll9_
      have i9_ := fr_arr (t := 144) (i := 0) hFx47_ rfl
      have ev9_ := rev_fr hev_ hFx47_ rfl rfl
      have bx48_ : 0 ≤ Sx43_.1 13 0 9 ∧ Sx43_.1 13 0 9 ≤ 1280 := hIx44_.1 13 0 9 rfl
      refine sm_T_go 4 (c1 := (55, [some (.inr (.inr (some (13, 0)))), some (.inl (S0_.1 13 0 9)), some (.inl vx8_), some (.inl vx21_), none], [.inl (Sx43_.1 13 0 9), .inr (.inr (some (119, 0)))], Sx43_)) rfl ?_
      refine sm_T_bald (n := 65537) rfl rfl (by omega) (by omega) ?_
      have bx49_ : (-128) ≤ Sx43_.2.2.1 119 0 (Sx43_.1 13 0 9).toNat ∧ Sx43_.2.2.1 119 0 (Sx43_.1 13 0 9).toNat ≤ 127 := hIx44_.2 119 0 _
      refine sm_T_go 1 (c1 := (57, [some (.inr (.inr (some (13, 0)))), some (.inl (S0_.1 13 0 9)), some (.inl vx8_), some (.inl vx21_), none], [.inl 2, .inl (Sx43_.2.2.1 119 0 (Sx43_.1 13 0 9).toNat)], Sx43_)) rfl ?_
      refine sm_T_br (a := 0) (z := 26) rfl (fun cx50_ => ?_) (fun cx50_ => ?_)
      · have cx50_ : (Sx43_.2.2.1 119 0 (Sx43_.1 13 0 9).toNat) = 2 := of_decide_eq_true cx50_
        have bx51_ : 0 ≤ Sx43_.1 13 0 28 ∧ Sx43_.1 13 0 28 ≤ 15 := hIx44_.1 13 0 28 rfl
        refine sm_T_go 3 (c1 := (89, [some (.inr (.inr (some (13, 0)))), some (.inl (S0_.1 13 0 9)), some (.inl vx8_), some (.inl vx21_), none], [.inl (Sx43_.1 13 0 28), .inl 40], Sx43_)) rfl ?_
        refine sm_T_bin (w := 40 * (Sx43_.1 13 0 28)) rfl (bi_mul (by omega) (by omega) (by omega)) ?_
        refine sm_T_go 1 (c1 := (91, [some (.inr (.inr (some (13, 0)))), some (.inl (S0_.1 13 0 9)), some (.inl vx8_), some (.inl vx21_), none], [.inl vx8_, .inl (40 * (Sx43_.1 13 0 28))], Sx43_)) rfl ?_
        refine sm_T_bin (w := 40 * (Sx43_.1 13 0 28) + vx8_) rfl (bi_add (by omega) (by omega) (by omega)) ?_
        refine sm_T_go 2 (c1 := (95, [some (.inr (.inr (some (13, 0)))), some (.inl (S0_.1 13 0 9)), some (.inl vx8_), some (.inl vx21_), some (.inl (40 * (Sx43_.1 13 0 28) + vx8_))], [.inl vx21_], Sx43_)) rfl ?_
        refine sm_T_b0 (a := 0) (z := 41) rfl (fun cx52_ => ?_) (fun cx52_ => ?_)
        · have cx52_ : vx21_ = 0 := of_decide_eq_true cx52_
          exfalso; omega
        · have cx52_ : ¬ (vx21_ = 0) := of_decide_eq_false cx52_
          refine sm_T_go 4 (c1 := (106, [some (.inr (.inr (some (13, 0)))), some (.inl (S0_.1 13 0 9)), some (.inl vx8_), some (.inl vx21_), some (.inl (40 * (Sx43_.1 13 0 28) + vx8_))], [.inl (Sx43_.1 13 0 9), .inr (.inr (some (119, 0)))], Sx43_)) rfl ?_
          refine sm_T_bald (n := 65537) rfl rfl (by omega) (by omega) ?_
          refine sm_T_go 1 (c1 := (108, [some (.inr (.inr (some (13, 0)))), some (.inl (S0_.1 13 0 9)), some (.inl vx8_), some (.inl vx21_), some (.inl (40 * (Sx43_.1 13 0 28) + vx8_))], [.inl 1, .inl (Sx43_.2.2.1 119 0 (Sx43_.1 13 0 9).toNat)], Sx43_)) rfl ?_
          refine sm_T_br (a := 1) (z := 28) rfl (fun cx53_ => ?_) (fun cx53_ => ?_)
          · have cx53_ : (Sx43_.2.2.1 119 0 (Sx43_.1 13 0 9).toNat) ≠ 1 := of_decide_eq_true cx53_
            refine sm_T_go 3 (c1 := (142, [some (.inr (.inr (some (13, 0)))), some (.inl (S0_.1 13 0 9)), some (.inl vx8_), some (.inl vx21_), some (.inl (40 * (Sx43_.1 13 0 28) + vx8_))], [.inl (40 * (Sx43_.1 13 0 28) + vx8_), .inr (.inr (some (128, 0)))], Sx43_)) rfl ?_
            refine sm_T_iald (n := 640) rfl rfl (by omega) (by omega) ?_
            have bx54_ : 0 ≤ Sx43_.2.2.1 128 0 (40 * (Sx43_.1 13 0 28) + vx8_).toNat ∧ Sx43_.2.2.1 128 0 (40 * (Sx43_.1 13 0 28) + vx8_).toNat ≤ 5 := hIx44_.2 128 0 _
            refine sm_T_cal (d1 := 0) (Q1 := vq_323 (Sx43_.2.2.1 128 0 (40 * (Sx43_.1 13 0 28) + vx8_).toNat) Sx43_) rfl rfl (by decide) (vc_323 (Sx43_.2.2.1 128 0 (40 * (Sx43_.1 13 0 28) + vx8_).toNat) Sx43_ hIx44_ ) (fun u_ Sx55_ px58_ => ?_)
            obtain ⟨rfl, vx60_, rfl, px58_⟩ := px58_
            have e143_ := px58_
            refine sm_T_b0 (a := 1) (z := 11) rfl (fun cx61_ => ?_) (fun cx61_ => ?_)
            · have cx61_ : vx60_ ≠ 0 := of_decide_eq_true cx61_
              refine sm_T_go 4 (c1 := (164, [some (.inr (.inr (some (13, 0)))), some (.inl (S0_.1 13 0 9)), some (.inl vx8_), some (.inl vx21_), some (.inl (40 * (Sx43_.1 13 0 28) + vx8_))], [.inl (40 * (Sx43_.1 13 0 28) + vx8_), .inr (.inr (some (129, 0))), .inr (.inr (some (13, 0)))], Sx43_)) rfl ?_
              refine sm_T_iald (n := 640) rfl rfl (by omega) (by omega) ?_
              have bx62_ : 0 ≤ Sx43_.2.2.1 129 0 (40 * (Sx43_.1 13 0 28) + vx8_).toNat ∧ Sx43_.2.2.1 129 0 (40 * (Sx43_.1 13 0 28) + vx8_).toNat ≤ 8 := hIx44_.2 129 0 _
              have bx63_ : 0 ≤ Sx43_.1 13 0 29 ∧ Sx43_.1 13 0 29 ≤ 16 := hIx44_.1 13 0 29 rfl
              refine sm_T_go 5 (c1 := (174, [some (.inr (.inr (some (13, 0)))), some (.inl (S0_.1 13 0 9)), some (.inl vx8_), some (.inl vx21_), some (.inl (40 * (Sx43_.1 13 0 28) + vx8_))], [.inl (Sx43_.1 13 0 29), .inl 40, .inl 8, .inl 0, .inl (Sx43_.2.2.1 129 0 (40 * (Sx43_.1 13 0 28) + vx8_).toNat), .inr (.inr (some (13, 0)))], Sx43_)) rfl ?_
              refine sm_T_bin (w := 40 * (Sx43_.1 13 0 29)) rfl (bi_mul (by omega) (by omega) (by omega)) ?_
              refine sm_T_go 1 (c1 := (176, [some (.inr (.inr (some (13, 0)))), some (.inl (S0_.1 13 0 9)), some (.inl vx8_), some (.inl vx21_), some (.inl (40 * (Sx43_.1 13 0 28) + vx8_))], [.inl vx8_, .inl (40 * (Sx43_.1 13 0 29)), .inl 8, .inl 0, .inl (Sx43_.2.2.1 129 0 (40 * (Sx43_.1 13 0 28) + vx8_).toNat), .inr (.inr (some (13, 0)))], Sx43_)) rfl ?_
              refine sm_T_bin (w := 40 * (Sx43_.1 13 0 29) + vx8_) rfl (bi_add (by omega) (by omega) (by omega)) ?_
              refine sm_T_bin (w := 320 * (Sx43_.1 13 0 29) + 8 * vx8_) rfl (bi_mul (by omega) (by omega) (by omega)) ?_
              refine sm_T_cal (d1 := 0) (Q1 := vq_333g (Sx43_.2.2.1 129 0 (40 * (Sx43_.1 13 0 28) + vx8_).toNat) 0 (320 * (Sx43_.1 13 0 29) + 8 * vx8_) gl_ Sx43_) rfl rfl (by decide) (vc_333g (Sx43_.2.2.1 129 0 (40 * (Sx43_.1 13 0 28) + vx8_).toNat) 0 (320 * (Sx43_.1 13 0 29) + 8 * vx8_) gl_ Sx43_ hIx44_ (by exact ⟨vl9_, hv_.2⟩) (by exact mo9_) (by (have := ao_.2.2.1; omega)) (by (left; refine ⟨rfl, ?_, ?_⟩ <;> omega))) (fun u_ Sx64_ px67_ => ?_)
              obtain ⟨rfl, hIx65_, hFx66_, px67_⟩ := px67_
              have hFx68_ : ai_fr (sx_W vw_324g) S0_ Sx64_ := ai_fr_tr hFx47_ (fr_le hFx66_ rfl)
              have ex69_ : Sx64_.1 13 0 9 = Sx43_.1 13 0 9 := hFx66_.1 13 0 9 rfl
              have ex70_ : Sx64_.1 13 0 29 = Sx43_.1 13 0 29 := hFx66_.1 13 0 29 rfl
              have ex71_ : Sx64_.1 13 0 28 = Sx43_.1 13 0 28 := hFx66_.1 13 0 28 rfl
              have c178_ := px67_
              rw [wk_] at c178_
              first | (have g178_ := rg_fr g44_ hFx66_ rfl rfl rfl; have t178_ := rtab_fr t44_ hFx66_ rfl rfl rfl rfl rfl) | (have g178_ := rg_fr g29_ hFx66_ rfl rfl rfl; have t178_ := rtab_fr t29_ hFx66_ rfl rfl rfl rfl rfl)
              have vl8_ : Sx64_.1 13 0 34 = (gl_ : Int) := (hFx68_.1 13 0 34 rfl).trans hv_.1
              have mo8_ : Sx64_.1 13 0 27 = 1 := (hFx68_.1 13 0 27 rfl).trans hmo_
              have wx8_ := fr_arr (t := 129) (i := 0) hFx68_ rfl
              have wk8_ := (congrFun wx8_ _).trans ((congrArg (S0_.2.2.1 129 0) kx_).trans ro_.2.2.1)
              have nso_ : A_.2.2.1 (40 * M_ + s9_) ≠ 5 := fun z_ => by have z1_ := e143_.2; have z2_ := sb_.2.1.mpr z_; omega
              have lE := (hte_.2 s9_ sK_).1 nso_
              have wA_ := ao_.2.2.1
              have wA1_ := ao_.2.2.2.1 nso_
              have e1o : ev1 F_ I_ A_ X_ M_ E_ O_ [cw 9 (s9_ : Int) 0] (E_ s9_) := by have q9_ := ev1_ld (F_ := F_) (I_ := I_) (X_ := X_) (E_ := E_) (O_ := O_) (a_ := (s9_ : Int)) (m_ := M_) (A_ := A_) (by omega) aM1_ (by rw [Int.toNat_natCast]; omega) (by rw [Int.toNat_natCast]; exact lE); rw [Int.toNat_natCast] at q9_; exact q9_
              have r178_ : rowv gl_ (E_ s9_) ok_ S0_ Sx64_ := ⟨fun j_ => by rw [c178_.1, lw9_, lE], fun z_ k9_ z9_ e9_ => by have hk9_ : k9_ < (E_ s9_).length := (by by_cases w9_ : k9_ < (E_ s9_).length; exact w9_; (rw [List.getElem?_eq_none (by omega)] at e9_; cases e9_)); refine (c178_.2.1 k9_ (by omega)).trans ?_; show (if (0 : Int) = 1 then _ else _) = z9_; rw [if_neg (by decide), i9_]; exact (congrArg (S0_.2.2.1 144 0) (show _ = 8 * (40 * fr_ + s9_) + k9_ by omega)).trans (((hev_ z_).1 s9_ (by omega)) k9_ z9_ e9_), fun j_ hj_ => by rw [c178_.2.2 j_ hj_, ll9_]⟩
              refine sm_T_go 1 (c1 := (182, [some (.inr (.inr (some (13, 0)))), some (.inl (S0_.1 13 0 9)), some (.inl vx8_), some (.inl vx21_), some (.inl (40 * (Sx43_.1 13 0 28) + vx8_))], [.inl vx21_], Sx64_)) rfl ?_
              refine sm_T_b0 (a := 0) (z := 14) rfl (fun cx72_ => ?_) (fun cx72_ => ?_)
              · have cx72_ : vx21_ = 0 := of_decide_eq_true cx72_
                exfalso; omega
              · have cx72_ : ¬ (vx21_ = 0) := of_decide_eq_false cx72_
                obtain ⟨u_, nu1_, nu2_⟩ : ∃ u_, p_bp b_ n_ (A_.2.2.2.1 (40 * M_ + s9_)) q2_ = .inr u_ ∧ r_ = (u_, 1, [cw 11 (lx_vl b_ n_ q2_) 0, cw 9 (s9_ : Int) 0]) := by rcases nq5_ with z_ | z_; (exact absurd z_.2.1 nso_); (exact z_.2.2)
                refine sm_T_go 4 (c1 := (192, [some (.inr (.inr (some (13, 0)))), some (.inl (S0_.1 13 0 9)), some (.inl vx8_), some (.inl vx21_), some (.inl (40 * (Sx43_.1 13 0 28) + vx8_))], [.inl (40 * (Sx43_.1 13 0 28) + vx8_), .inr (.inr (some (129, 0))), .inr (.inr (some (13, 0)))], Sx64_)) rfl ?_
                refine sm_T_iald (n := 640) rfl rfl (by omega) (by omega) ?_
                have bx73_ : 0 ≤ Sx64_.2.2.1 129 0 (40 * (Sx43_.1 13 0 28) + vx8_).toNat ∧ Sx64_.2.2.1 129 0 (40 * (Sx43_.1 13 0 28) + vx8_).toNat ≤ 8 := hIx65_.2 129 0 _
                refine sm_T_cal (d1 := 3) (Q1 := vq_325g (Sx64_.2.2.1 129 0 (40 * (Sx43_.1 13 0 28) + vx8_).toNat) b_ n_ T_ q2_ gl_ u_ Sx64_) rfl rfl (by decide) (vc_325g (Sx64_.2.2.1 129 0 (40 * (Sx43_.1 13 0 28) + vx8_).toNat) b_ n_ T_ q2_ gl_ u_ Sx64_ hIx65_ (by exact t178_) (by exact g178_) (by exact ⟨vl8_, hv_.2⟩) (by exact mo8_) (by omega) (by (rw [wk8_]; exact nu1_))) (fun u_ Sx74_ px77_ => ?_)
                obtain ⟨rfl, hIx75_, hFx76_, px77_⟩ := px77_
                have hFx78_ : ai_fr (sx_W vw_324g) S0_ Sx74_ := ai_fr_tr hFx68_ (fr_le hFx76_ rfl)
                have e193_ := px77_
                refine sm_T_rv rfl ⟨_, _, rfl, rfl, hIx75_, hFx78_, ?_⟩
                first | (have r9_ := bp_rr nu1_; rw [nu2_]; exact ⟨_, ev1_bi e1o (by omega) (by omega), rfl, ⟨by simp, by simp⟩, e193_.1, rowv_bi r178_ (by omega) (by omega) e193_.2.1 e193_.2.2⟩) | (have q5_ : r_ = (q_, A_.2.2.2.1 (40 * M_ + s9_), [cw 9 (s9_ : Int) 0]) := (by rcases nq4_ with z_ | z_; (exact z_.2.2); (have := e35_.mpr z_.1; omega)); rw [q5_]; exact ⟨E_ s9_, e1o, lE, by omega, g178_, r178_⟩)
            · have cx61_ : ¬ (vx60_ ≠ 0) := of_decide_eq_false cx61_
              exfalso; (have z9_ := e143_.2; have z8_ := sb_.2.2.2.2; have z7_ : A_.2.2.1 (40 * M_ + s9_) = 5 := sb_.2.1.mp (by omega); first | (rcases nq5_ with z_ | z_; (have z3_ := j5_.2.1.mpr z_.1; omega); (exact z_.2.1 z7_)) | (rcases nq4_ with z_ | z_; (exact z_.2.1 z7_); (have z3_ := e35_.mpr z_.1; omega)))
          · have cx53_ : ¬ ((Sx43_.2.2.1 119 0 (Sx43_.1 13 0 9).toNat) ≠ 1) := of_decide_eq_false cx53_
            exfalso; omega
      · have cx50_ : ¬ ((Sx43_.2.2.1 119 0 (Sx43_.1 13 0 9).toNat) = 2) := of_decide_eq_false cx50_
        refine sm_T_go 4 (c1 := (68, [some (.inr (.inr (some (13, 0)))), some (.inl (S0_.1 13 0 9)), some (.inl vx8_), some (.inl vx21_), none], [.inl (Sx43_.1 13 0 9), .inr (.inr (some (119, 0)))], Sx43_)) rfl ?_
        refine sm_T_bald (n := 65537) rfl rfl (by omega) (by omega) ?_
        refine sm_T_go 1 (c1 := (70, [some (.inr (.inr (some (13, 0)))), some (.inl (S0_.1 13 0 9)), some (.inl vx8_), some (.inl vx21_), none], [.inl 1, .inl (Sx43_.2.2.1 119 0 (Sx43_.1 13 0 9).toNat)], Sx43_)) rfl ?_
        refine sm_T_br (a := 0) (z := 13) rfl (fun cx79_ => ?_) (fun cx79_ => ?_)
        · have cx79_ : (Sx43_.2.2.1 119 0 (Sx43_.1 13 0 9).toNat) = 1 := of_decide_eq_true cx79_
          have bx80_ : 0 ≤ Sx43_.1 13 0 28 ∧ Sx43_.1 13 0 28 ≤ 15 := hIx44_.1 13 0 28 rfl
          refine sm_T_go 3 (c1 := (89, [some (.inr (.inr (some (13, 0)))), some (.inl (S0_.1 13 0 9)), some (.inl vx8_), some (.inl vx21_), none], [.inl (Sx43_.1 13 0 28), .inl 40], Sx43_)) rfl ?_
          refine sm_T_bin (w := 40 * (Sx43_.1 13 0 28)) rfl (bi_mul (by omega) (by omega) (by omega)) ?_
          refine sm_T_go 1 (c1 := (91, [some (.inr (.inr (some (13, 0)))), some (.inl (S0_.1 13 0 9)), some (.inl vx8_), some (.inl vx21_), none], [.inl vx8_, .inl (40 * (Sx43_.1 13 0 28))], Sx43_)) rfl ?_
          refine sm_T_bin (w := 40 * (Sx43_.1 13 0 28) + vx8_) rfl (bi_add (by omega) (by omega) (by omega)) ?_
          refine sm_T_go 2 (c1 := (95, [some (.inr (.inr (some (13, 0)))), some (.inl (S0_.1 13 0 9)), some (.inl vx8_), some (.inl vx21_), some (.inl (40 * (Sx43_.1 13 0 28) + vx8_))], [.inl vx21_], Sx43_)) rfl ?_
          refine sm_T_b0 (a := 0) (z := 41) rfl (fun cx81_ => ?_) (fun cx81_ => ?_)
          · have cx81_ : vx21_ = 0 := of_decide_eq_true cx81_
            exfalso; omega
          · have cx81_ : ¬ (vx21_ = 0) := of_decide_eq_false cx81_
            refine sm_T_go 4 (c1 := (106, [some (.inr (.inr (some (13, 0)))), some (.inl (S0_.1 13 0 9)), some (.inl vx8_), some (.inl vx21_), some (.inl (40 * (Sx43_.1 13 0 28) + vx8_))], [.inl (Sx43_.1 13 0 9), .inr (.inr (some (119, 0)))], Sx43_)) rfl ?_
            refine sm_T_bald (n := 65537) rfl rfl (by omega) (by omega) ?_
            refine sm_T_go 1 (c1 := (108, [some (.inr (.inr (some (13, 0)))), some (.inl (S0_.1 13 0 9)), some (.inl vx8_), some (.inl vx21_), some (.inl (40 * (Sx43_.1 13 0 28) + vx8_))], [.inl 1, .inl (Sx43_.2.2.1 119 0 (Sx43_.1 13 0 9).toNat)], Sx43_)) rfl ?_
            refine sm_T_br (a := 1) (z := 28) rfl (fun cx82_ => ?_) (fun cx82_ => ?_)
            · have cx82_ : (Sx43_.2.2.1 119 0 (Sx43_.1 13 0 9).toNat) ≠ 1 := of_decide_eq_true cx82_
              exfalso; omega
            · have cx82_ : ¬ ((Sx43_.2.2.1 119 0 (Sx43_.1 13 0 9).toNat) ≠ 1) := of_decide_eq_false cx82_
              refine sm_T_go 3 (c1 := (117, [some (.inr (.inr (some (13, 0)))), some (.inl (S0_.1 13 0 9)), some (.inl vx8_), some (.inl vx21_), some (.inl (40 * (Sx43_.1 13 0 28) + vx8_))], [.inl (40 * (Sx43_.1 13 0 28) + vx8_), .inr (.inr (some (128, 0)))], Sx43_)) rfl ?_
              refine sm_T_iald (n := 640) rfl rfl (by omega) (by omega) ?_
              have bx83_ : 0 ≤ Sx43_.2.2.1 128 0 (40 * (Sx43_.1 13 0 28) + vx8_).toNat ∧ Sx43_.2.2.1 128 0 (40 * (Sx43_.1 13 0 28) + vx8_).toNat ≤ 5 := hIx44_.2 128 0 _
              refine sm_T_go 1 (c1 := (119, [some (.inr (.inr (some (13, 0)))), some (.inl (S0_.1 13 0 9)), some (.inl vx8_), some (.inl vx21_), some (.inl (40 * (Sx43_.1 13 0 28) + vx8_))], [.inl 5, .inl (Sx43_.2.2.1 128 0 (40 * (Sx43_.1 13 0 28) + vx8_).toNat)], Sx43_)) rfl ?_
              refine sm_T_br (a := 0) (z := 11) rfl (fun cx84_ => ?_) (fun cx84_ => ?_)
              · have cx84_ : (Sx43_.2.2.1 128 0 (40 * (Sx43_.1 13 0 28) + vx8_).toNat) = 5 := of_decide_eq_true cx84_
                refine sm_T_go 2 (c1 := (132, [some (.inr (.inr (some (13, 0)))), some (.inl (S0_.1 13 0 9)), some (.inl vx8_), some (.inl vx21_), some (.inl (40 * (Sx43_.1 13 0 28) + vx8_))], [.inl vx8_, .inr (.inr (some (13, 0)))], Sx43_)) rfl ?_
                refine sm_T_cal (d1 := 4) (Q1 := vq_326g vx8_ b_ n_ T_ q2_ gl_ F_ I_ A_ X_ M_ K_ fr_ E_ O_ ok_ r_ s9_ Sx43_) rfl rfl (by decide) (vc_326g vx8_ b_ n_ T_ q2_ gl_ F_ I_ A_ X_ M_ K_ fr_ E_ O_ ok_ r_ s9_ Sx43_ hIx44_ (by exact t44_) (by exact g44_) (by exact ⟨vl9_, hv_.2⟩) (by exact mo9_) (by exact j5_.2.1.mp (by omega)) (by exact hA_) (by exact mx_) (by exact ⟨fr9_, hfr_.2⟩) (by exact re9_) (by exact hte_) (by exact ev9_) (by omega) (by exact sb_.2.1.mp (by omega)) (by (rw [e11]; rcases nq5_ with z_ | z_; (exact z_.2.2); (exact absurd z_.1 (by have := j5_.2.1.mp (by omega); omega))))) (fun u_ Sx85_ px88_ => ?_)
                obtain ⟨rfl, hIx86_, hFx87_, px88_⟩ := px88_
                have hFx89_ : ai_fr (sx_W vw_324g) S0_ Sx85_ := ai_fr_tr hFx47_ (fr_le hFx87_ rfl)
                have ex90_ : Sx85_.1 13 0 28 = Sx43_.1 13 0 28 := hFx87_.1 13 0 28 rfl
                have e132_ := px88_
                refine sm_T_rv rfl ⟨_, _, rfl, rfl, hIx86_, hFx89_, ?_⟩
                obtain ⟨v9_, a1_, a2_, a3_, a4_, a5_⟩ := e132_
                exact ⟨v9_, a1_, a2_, a3_, a4_, fun j_ => by rw [a5_.1, lw9_], a5_.2.1, fun j_ hj_ => by rw [a5_.2.2 j_ hj_, ll9_]⟩
              · have cx84_ : ¬ ((Sx43_.2.2.1 128 0 (40 * (Sx43_.1 13 0 28) + vx8_).toNat) = 5) := of_decide_eq_false cx84_
                exfalso; (have z1_ := (j5_.2.1.mp (by omega)); rcases nq5_ with z_ | z_; (have z3_ := sb_.2.1.mpr z_.2.1; omega); (have z3_ := z_.1; omega))
        · have cx79_ : ¬ ((Sx43_.2.2.1 119 0 (Sx43_.1 13 0 9).toNat) = 1) := of_decide_eq_false cx79_
          exfalso; (have z1_ := j5_.2.1; have z2_ := j5_.2.2.1; rcases nq5_ with z_ | z_; (have z3_ := z1_.mpr z_.1; omega); (have z3_ := z2_.mpr z_.1; omega))
  · have cx9_ : ¬ (vx8_ ≠ (-1)) := of_decide_eq_false cx9_
    exfalso; omega
end
/-! 99.zc8a -/
section
/-! the reference: operands, second pass; written by wip/p55/gen/vg -/

/-! operands, second pass -/
def rzx (b_ : Nat → Int) (n_ T_ F_ I_ : Nat) (A_ : pA) (X_ : Nat → gQ → gE → Option (gQ × gE)) (m_ : Nat) (s0_ : gS) (x_ : pX) (S_ : sm_S) : Prop := rx b_ n_ T_ 1 x_.2.1 x_.1 x_.2.2.1 x_.2.2.2.1 x_.2.2.2.2.1 S_ ∧ x_ok b_ n_ false x_ ∧ xg F_ I_ A_ X_ m_ s0_ x_.2.2.2.2.1 x_.2.2.2.2.2 S_ ∧ o_wd x_.2.2.2.1 (if x_.1 = 0 then x_.2.2.2.2.1 else x_.2.2.2.2.1.tail)
theorem xg_fr {w_ : sx_Wl} {F_ I_ : Nat} {A_ : pA} {X_ : Nat → gQ → gE → Option (gQ × gE)} {m_ : Nat} {s0_ : gS} {h_ c_ : List Int} {S_ S'_ : sm_S} (x_ : xg F_ I_ A_ X_ m_ s0_ h_ c_ S_) (g_ : ai_fr (sx_W w_) S_ S'_) (h0_ : (sx_W w_).1 13 38 = false) (h1_ : (sx_W w_).1 13 37 = false) (h2_ : (sx_W w_).2.1 140 = false) (h3_ : (sx_W w_).2.1 141 = false) (h4_ : (sx_W w_).2.1 142 = false) (h5_ : (sx_W w_).2.1 143 = false) (h6_ : (sx_W w_).2.1 138 = false) (h7_ : (sx_W w_).2.1 139 = false) : xg F_ I_ A_ X_ m_ s0_ h_ c_ S'_ := by
  obtain ⟨G_, V_, x1_, x2_, x3_, x4_⟩ := x_
  refine ⟨G_, V_, x1_, x2_, rgl_fr x3_ g_ h0_ h1_ h2_ h3_ h4_ h5_, ?_⟩
  rw [fr_arr g_ h6_, fr_arr g_ h7_]
  exact x4_
/-- a_ value is_ pushed -/
theorem xg_pu {F_ I_ : Nat} {A_ : pA} {X_ : Nat → gQ → gE → Option (gQ × gE)} {m_ : Nat} {s0_ : gS} {G_ : pGr} {V_ : gV} {c_ c1_ v_ : List Int} {w_ : Int} {S_ S1_ : sm_S} (h1_ : ev F_ I_ A_ X_ m_ s0_ c_ = some ((G_, s0_.1.2), s0_.2.1, s0_.2.2.1, V_)) (h4_ : svl (G_.length ≤ 1001) (S_.2.2.1 139 0) (S_.2.2.1 138 0) V_) (hv_ : ev1 F_ I_ A_ X_ m_ s0_.2.1 s0_.2.2.1 c1_ v_) (hV_ : V_.length < 512) (hl_ : 1 ≤ v_.length ∧ v_.length ≤ 8) (hw_ : (v_.length : Int) = w_) (hr_ : rgl F_ G_ S1_) (hp_ : rowv V_.length v_ (G_.length ≤ 1001) S_ S1_) : xg F_ I_ A_ X_ m_ s0_ (w_ :: V_.map fun v_ => (v_.length : Int)) (c1_ ++ c_) S1_ :=
  ⟨G_, v_ :: V_, hv_ _ V_ c_ s0_ hV_ h1_, by rw [List.map_cons, hw_], hr_, svl_tp h4_ (fun z_ => z_) (fun j_ hj_ => hp_.2.2 j_ (Or.inl (by omega))) (fun j_ hj_ => by rw [hp_.1, if_neg (by omega)]) (by rw [hp_.1, if_pos rfl]) hl_ hp_.2.1⟩
def r_e1 (b_ : Nat → Int) (n_ T_ : Nat) (A_ : pA) (M_ fr_ : Nat) (S_ : sm_S) : Prop := a_ok b_ n_ A_ M_ ∧ S_.1 13 0 28 = (M_ : Int) ∧ (S_.1 13 0 29 = (fr_ : Int) ∧ fr_ ≤ 15) ∧ ∀ m_, m_ ≤ M_ → re1 b_ n_ T_ A_ m_ S_
theorem ev_le {F_ I_ : Nat} {A_ : pA} {X_ : Nat → gQ → gE → Option (gQ × gE)} {m_ : Nat} {s0_ s_ : gS} {c_ : List Int} (hX_ : ∀ d_ q_ e_ z_, X_ d_ q_ e_ = some z_ → q_.1.length ≤ z_.1.1.length) (h_ : ev F_ I_ A_ X_ m_ s0_ c_ = some s_) : s0_.1.1.length ≤ s_.1.1.length := ec_le hX_ _ _ _ h_
/-! M_.operand -/
def vw_319g : sx_Wl := ([(13, 9), (13, 10), (13, 11), (13, 32), (13, 33), (13, 34)], [136, 137, 138, 139], [])
def vq_319g (b_ : Nat → Int) (n_ : Nat) (T_ : Nat) (F_ : Nat) (I_ : Nat) (A_ : pA) (X_ : Nat → gQ → gE → Option (gQ × gE)) (M_ : Nat) (s0_ : gS) (pr_ : pPr) (K_ : Nat) (fr_ : Nat) (t_ : Bool) (p_ : Nat) (o_ : List (Int × Nat)) (g_ : List Int) (c_ : List Int) (y_ : pX) (S0_ : sm_S) (u_ : Option sm_V) (S1_ : sm_S) : Prop := ∃ v_ : Int, u_ = some (.inl v_) ∧ gi S1_ ∧ ai_fr (sx_W vw_319g) S0_ S1_ ∧ (rzx b_ n_ T_ F_ I_ A_ X_ M_ s0_ y_ S1_ ∧ v_ = (y_.1 : Int))
set_option maxHeartbeats 3000000 in
theorem vc_319g {sc_ : Nat × (Nat → Int)} (b_ : Nat → Int) (n_ : Nat) (T_ : Nat) (F_ : Nat) (I_ : Nat) (A_ : pA) (X_ : Nat → gQ → gE → Option (gQ × gE)) (M_ : Nat) (s0_ : gS) (pr_ : pPr) (K_ : Nat) (fr_ : Nat) (t_ : Bool) (p_ : Nat) (o_ : List (Int × Nat)) (g_ : List Int) (c_ : List Int) (y_ : pX) (S0_ : sm_S) (hI_ : gi S0_) (ht_ : rtab b_ n_ T_ S0_) (hpr_ : pr_ok b_ n_ pr_) (hmon : ∀ p_ r_, pr_ p_ = .inr r_ → p_pd b_ n_ A_ M_ p_ = .inr r_ ∧ (lx_kd b_ n_ p_ = 1 → p_fn b_ n_ A_ M_ p_ < (K_ : Int))) (hX_ : ∀ d_ q_ e_ z_, X_ d_ q_ e_ = some z_ → q_.1.length ≤ z_.1.1.length) (hen_ : r_e1 b_ n_ T_ A_ M_ fr_ S0_) (hte_ : ten A_ M_ K_ s0_.2.1 s0_.2.2.1) (hev_ : rev fr_ K_ s0_.2.1 s0_.2.2.1 (s0_.1.1.length ≤ 1001) S0_) (hz_ : rzx b_ n_ T_ F_ I_ A_ X_ M_ s0_ (0, t_, p_, o_, g_, c_) S0_) (hst_ : p_st b_ n_ false pr_ (0, t_, p_, o_, g_, c_) = .inr (.inl y_)) : sm_T (mt_P sc_) 6 319 (0, [some (.inr (.inr (some (13, 0))))], [], S0_) (fun ro9_ => ∃ u_ S1_, ro9_ = (.inl u_, S1_, 0) ∧ vq_319g b_ n_ T_ F_ I_ A_ X_ M_ s0_ pr_ K_ fr_ t_ p_ o_ g_ c_ y_ S0_ u_ S1_) := by
  have hF_ : ai_fr (sx_W vw_319g) S0_ S0_ := ai_fr_rf
  have hz1_ : rx b_ n_ T_ 1 t_ 0 p_ o_ g_ S0_ := hz_.1
  obtain ⟨hg_, ⟨w0_, hw_, hwt_⟩, hop_, hv_, hmo1_⟩ := id hz1_
  have hwt_ : wt b_ n_ T_ t_ o_ w0_ := by rcases hwt_ with z_ | z_; (exact z_.2); (exact absurd z_.1 (by decide))
  obtain ⟨i_, hi1_, hi2_⟩ := id hg_.2
  have hf_ := hg_.1
  have hT_ := ht_.2.1
  have hi9_ := hi2_.1
  have ra_ := rp_at ht_ hi2_
  have rk_ := r_st_3 (lx_kd_r hi2_.2.2.1)
  have e4_ : (S0_.1 13 0 9).toNat = i_ := by omega
  have so4_ : S0_.2.2.1 119 0 (S0_.1 13 0 9).toNat = r_st (lx_kd b_ n_ p_) := by rw [e4_]; exact ra_.1
  have pl4_ : S0_.2.2.1 120 0 (S0_.1 13 0 9).toNat = (p_ : Int) := by rw [e4_]; exact ra_.2.1
  have lim_ := o_lim hz_.2.1.2.1.1 hz_.2.1.2.1.2.1
  have lim1_ : o_.length ≤ 365 := lim_.1
  have wlen : w0_.length ≤ 731 := by rcases hwt_ with z_ | ⟨u_, z1_, z2_⟩; (have := wl_len z_.2; omega); (have := wl_len z2_; rw [z1_, List.length_cons]; omega)
  have hww_ := hw_.1
  have tp_ := wt_tp hwt_ hz_.2.1.2.1.1
  have gl1_ : g_.length = o_hl o_ + 0 := hz_.2.1.2.1.2.2.1
  have gl2_ : o_hl o_ ≤ 425 := lim_.2
  have hn1_ := ht_.1
  have xok_ := x_st ht_.1 hpr_ hz_.2.1 hst_
  refine sm_T_go 2 (c1 := (3, [some (.inr (.inr (some (13, 0))))], [.inl 33, .inr (.inr (some (13, 0)))], S0_)) rfl ?_
  refine sm_T_cal (d1 := 0) (Q1 := vq_295 33 b_ n_ T_ (.inr p_) S0_) rfl rfl (by decide) (vc_295 33 b_ n_ T_ (.inr p_) S0_ hI_ (by exact ht_) (by exact hg_) (by decide)) (fun u_ Sx1_ px4_ => ?_)
  obtain ⟨rfl, vx6_, rfl, px4_⟩ := px4_
  have e3_ := px4_.2 p_ rfl
  have r3_ := px4_.1.1
  refine sm_T_b0 (a := 0) (z := 43) rfl (fun cx7_ => ?_) (fun cx7_ => ?_)
  · have cx7_ : vx6_ = 0 := of_decide_eq_true cx7_
    refine sm_T_go 2 (c1 := (52, [some (.inr (.inr (some (13, 0))))], [.inl 40, .inr (.inr (some (13, 0)))], S0_)) rfl ?_
    refine sm_T_cal (d1 := 0) (Q1 := vq_295 40 b_ n_ T_ (.inr p_) S0_) rfl rfl (by decide) (vc_295 40 b_ n_ T_ (.inr p_) S0_ hI_ (by exact ht_) (by exact hg_) (by decide)) (fun u_ Sx8_ px11_ => ?_)
    obtain ⟨rfl, vx13_, rfl, px11_⟩ := px11_
    have e52_ := px11_.2 p_ rfl
    have r52_ := px11_.1.1
    have n33_ : lx_kd b_ n_ p_ ≠ 33 := fun z_ => by have := e3_.mpr z_; omega
    refine sm_T_b0 (a := 0) (z := 11) rfl (fun cx14_ => ?_) (fun cx14_ => ?_)
    · have cx14_ : vx13_ = 0 := of_decide_eq_true cx14_
      have n40_ : lx_kd b_ n_ p_ ≠ 40 := fun z_ => by have := e52_.mpr z_; omega
      obtain ⟨r_, hpr1_, hy_⟩ : ∃ r_, pr_ p_ = .inr r_ ∧ y_ = (1, false, r_.1, o_, (p_ti false t_ (r_.2.1 :: g_) (r_.2.2 ++ c_)).1, (p_ti false t_ (r_.2.1 :: g_) (r_.2.2 ++ c_)).2) := by have q9_ := hst_; rw [pA_p n33_ n40_] at q9_; obtain ⟨q_, q1_, q2_⟩ := pb_inr q9_; cases q2_; exact ⟨q_, q1_, rfl⟩
      obtain ⟨hpd_, hpk_⟩ := hmon p_ r_ hpr1_
      obtain ⟨Gr_, V_, xe_, xm_, xr, xv_⟩ := id hz_.2.2.1
      have Vl_ : V_.length = g_.length := by have q9_ := congrArg List.length xm_; rw [List.length_map] at q9_; exact q9_
      have gle_ := ev_le hX_ xe_
      have ev9_ : rev fr_ K_ s0_.2.1 s0_.2.2.1 (Gr_.length ≤ 1001) S0_ := fun z_ => hev_ (Nat.le_trans gle_ z_)
      have bx15_ : 0 ≤ S0_.1 13 0 27 ∧ S0_.1 13 0 27 ≤ 2 := hI_.1 13 0 27 rfl
      refine sm_T_go 3 (c1 := (71, [some (.inr (.inr (some (13, 0))))], [.inl 2, .inl (S0_.1 13 0 27)], S0_)) rfl ?_
      refine sm_T_br (a := 1) (z := 10) rfl (fun cx16_ => ?_) (fun cx16_ => ?_)
      · have cx16_ : (S0_.1 13 0 27) ≠ 2 := of_decide_eq_true cx16_
        have bx17_ : 0 ≤ S0_.1 13 0 9 ∧ S0_.1 13 0 9 ≤ 1280 := hI_.1 13 0 9 rfl
        refine sm_T_go 4 (c1 := (89, [some (.inr (.inr (some (13, 0))))], [.inl (S0_.1 13 0 9), .inr (.inr (some (119, 0)))], S0_)) rfl ?_
        refine sm_T_bald (n := 65537) rfl rfl (by omega) (by omega) ?_
        have bx18_ : (-128) ≤ S0_.2.2.1 119 0 (S0_.1 13 0 9).toNat ∧ S0_.2.2.1 119 0 (S0_.1 13 0 9).toNat ≤ 127 := hI_.2 119 0 _
        refine sm_T_go 1 (c1 := (91, [some (.inr (.inr (some (13, 0))))], [.inl 2, .inl (S0_.2.2.1 119 0 (S0_.1 13 0 9).toNat)], S0_)) rfl ?_
        refine sm_T_br (a := 1) (z := 10) rfl (fun cx19_ => ?_) (fun cx19_ => ?_)
        · have cx19_ : (S0_.2.2.1 119 0 (S0_.1 13 0 9).toNat) ≠ 2 := of_decide_eq_true cx19_
          refine sm_T_go 4 (c1 := (109, [some (.inr (.inr (some (13, 0))))], [.inl (S0_.1 13 0 9), .inr (.inr (some (119, 0)))], S0_)) rfl ?_
          refine sm_T_bald (n := 65537) rfl rfl (by omega) (by omega) ?_
          refine sm_T_go 1 (c1 := (111, [some (.inr (.inr (some (13, 0))))], [.inl 1, .inl (S0_.2.2.1 119 0 (S0_.1 13 0 9).toNat)], S0_)) rfl ?_
          refine sm_T_br (a := 1) (z := 10) rfl (fun cx20_ => ?_) (fun cx20_ => ?_)
          · have cx20_ : (S0_.2.2.1 119 0 (S0_.1 13 0 9).toNat) ≠ 1 := of_decide_eq_true cx20_
            exfalso; (have q9_ := hpd_; unfold p_pd at q9_; rw [if_neg (fun z_ => by have := rk_.2.2.1.mpr z_; omega), if_neg (fun z_ => by have := rk_.2.1.mpr z_; omega)] at q9_; cases q9_)
          · have cx20_ : ¬ ((S0_.2.2.1 119 0 (S0_.1 13 0 9).toNat) ≠ 1) := of_decide_eq_false cx20_
            refine sm_T_go 1 (c1 := (115, [some (.inr (.inr (some (13, 0))))], [.inr (.inr (some (13, 0)))], S0_)) rfl ?_
            refine sm_T_cal (d1 := 5) (Q1 := vq_324g b_ n_ T_ p_ g_.length F_ I_ A_ X_ M_ K_ fr_ s0_.2.1 s0_.2.2.1 (Gr_.length ≤ 1001) r_ S0_) rfl rfl (by decide) (vc_324g b_ n_ T_ p_ g_.length F_ I_ A_ X_ M_ K_ fr_ s0_.2.1 s0_.2.2.1 (Gr_.length ≤ 1001) r_ S0_ hI_ (by exact ht_) (by exact hg_) (by exact ⟨hv_.1, by omega⟩) (by exact hmo1_) (by exact rk_.2.1.mp (by omega)) (by exact hen_.1) (by exact hen_.2.1) (by exact hen_.2.2.1) (by exact hen_.2.2.2) (by exact hte_) (by exact ev9_) (by exact hpk_ (rk_.2.1.mp (by omega))) (by (have q9_ := hpd_; unfold p_pd at q9_; rw [if_neg (by have := rk_.2.1.mp (by omega); omega), if_pos (rk_.2.1.mp (by omega))] at q9_; exact q9_))) (fun u_ Sx21_ px24_ => ?_)
            obtain ⟨rfl, hIx22_, hFx23_, px24_⟩ := px24_
            have hFx25_ : ai_fr (sx_W vw_319g) S0_ Sx21_ := ai_fr_tr hF_ (fr_le hFx23_ rfl)
            have ex26_ : Sx21_.1 13 0 27 = S0_.1 13 0 27 := hFx23_.1 13 0 27 rfl
            obtain ⟨v9_, v91_, v92_, v93_, gq_, v94_⟩ := px24_
            have ws9_ := ws_fr hw_ hFx23_ rfl rfl rfl
            have op9_ := (hFx23_.1 13 0 33 rfl).trans hop_
            have vl9_ := (hFx23_.1 13 0 34 rfl).trans hv_.1
            have mo9_ := (hFx23_.1 13 0 27 rfl).trans hmo1_
            have xr9_ := rgl_fr xr hFx23_ rfl rfl rfl rfl rfl rfl
            have xp_ : xg F_ I_ A_ X_ M_ s0_ (r_.2.1 :: g_) (r_.2.2 ++ c_) Sx21_ := by have q9_ := xg_pu xe_ xv_ v91_ (by omega) v93_ v92_ xr9_ (by rw [Vl_]; exact v94_); rw [xm_] at q9_; exact q9_
            refine sm_T_go 2 (c1 := (131, [some (.inr (.inr (some (13, 0))))], [.inr (.inr (some (13, 0)))], Sx21_)) rfl ?_
            refine sm_T_cal (d1 := 0) (Q1 := vq_292  Sx21_) rfl rfl (by decide) (vc_292  Sx21_ hIx22_ ) (fun u_ Sx27_ px30_ => ?_)
            obtain ⟨rfl, vx32_, rfl, px30_⟩ := px30_
            have e131_ := px30_
            refine sm_T_b0 (a := 0) (z := 17) rfl (fun cx33_ => ?_) (fun cx33_ => ?_)
            · have cx33_ : vx32_ = 0 := of_decide_eq_true cx33_
              exfalso; (rw [if_pos gq_.1] at e131_; omega)
            · have cx33_ : ¬ (vx32_ = 0) := of_decide_eq_false cx33_
              have bx34_ : 0 ≤ Sx21_.1 13 0 34 ∧ Sx21_.1 13 0 34 ≤ 1023 := hIx22_.1 13 0 34 rfl
              refine sm_T_go 4 (c1 := (143, [some (.inr (.inr (some (13, 0))))], [.inl 1, .inl (Sx21_.1 13 0 34), .inr (.inr (some (13, 0)))], Sx21_)) rfl ?_
              refine sm_T_bin (w := (Sx21_.1 13 0 34) + 1) rfl (bi_add (by omega) (by omega) (by omega)) ?_
              have hIx35_ : gi (sm_pI Sx21_ 13 0 34 ((Sx21_.1 13 0 34) + 1)) := gi_pI hIx22_ (show 0 ≤ (Sx21_.1 13 0 34) + 1 ∧ (Sx21_.1 13 0 34) + 1 ≤ 1023 from ⟨by omega, by omega⟩)
              have hFx36_ : ai_fr (sx_W vw_319g) S0_ (sm_pI Sx21_ 13 0 34 ((Sx21_.1 13 0 34) + 1)) := ai_fr_tr hFx25_ (ai_fr_pI rfl)
              refine sm_T_go 2 (c1 := (148, [some (.inr (.inr (some (13, 0))))], [.inr (.inr (some (13, 0)))], sm_pI Sx21_ 13 0 34 ((Sx21_.1 13 0 34) + 1))) rfl ?_
              refine sm_T_cal (d1 := 1) (Q1 := vq_317g b_ n_ T_ F_ I_ A_ X_ M_ s0_ t_ o_ r_.2.1 g_ (r_.2.2 ++ c_) w0_ (sm_pI Sx21_ 13 0 34 ((Sx21_.1 13 0 34) + 1))) rfl rfl (by decide) (vc_317g b_ n_ T_ F_ I_ A_ X_ M_ s0_ t_ o_ r_.2.1 g_ (r_.2.2 ++ c_) w0_ (sm_pI Sx21_ 13 0 34 ((Sx21_.1 13 0 34) + 1)) hIx35_ (by exact ws9_) (by exact hwt_) (by exact hz_.2.1.2.1.1) (by (show _ + 1 = _; omega)) (by exact mo9_) (by omega) (by exact xg_fr (w_ := ([(13, 34)], [], [])) xp_ (ai_fr_pI rfl) rfl rfl rfl rfl rfl rfl rfl rfl)) (fun u_ Sx37_ px40_ => ?_)
              obtain ⟨rfl, hIx38_, hFx39_, px40_⟩ := px40_
              have hFx41_ : ai_fr (sx_W vw_319g) S0_ Sx37_ := ai_fr_tr hFx36_ (fr_le hFx39_ rfl)
              obtain ⟨w1_, ws148_, wl148_, x148_⟩ := px40_
              have g148_ := rg_fr (b_ := b_) (n_ := n_) (T_ := T_) (x_ := .inr r_.1) (S_ := (sm_pI Sx21_ 13 0 34 ((Sx21_.1 13 0 34) + 1))) gq_ hFx39_ rfl rfl rfl
              have op148_ := (hFx39_.1 13 0 33 rfl).trans op9_
              have mo148_ := (hFx39_.1 13 0 27 rfl).trans mo9_
              have vl148_ : Sx37_.1 13 0 34 = (g_.length : Int) + 1 := (hFx39_.1 13 0 34 rfl).trans (by show _ + 1 = _; omega)
              refine sm_T_go 1 (c1 := (152, [some (.inr (.inr (some (13, 0))))], [.inr (.inr (some (13, 0)))], Sx37_)) rfl ?_
              refine sm_T_cal (d1 := 0) (Q1 := vq_292  Sx37_) rfl rfl (by decide) (vc_292  Sx37_ hIx38_ ) (fun u_ Sx42_ px45_ => ?_)
              obtain ⟨rfl, vx47_, rfl, px45_⟩ := px45_
              have e152_ := px45_
              refine sm_T_rz rfl (by (rw [e152_]; split; (right; rfl); (left; rfl))) ⟨_, _, rfl, _, rfl, hIx38_, hFx41_, ?_⟩
              have t1_ : (p_ti false t_ (r_.2.1 :: g_) (r_.2.2 ++ c_)).1 = r_.2.1 :: g_ := by rw [ti2]
              rw [hy_]
              refine ⟨⟨⟨g148_, ⟨w1_, ws148_, Or.inr ⟨rfl, wl148_⟩⟩, op148_, ⟨?_, fun _ => ?_, fun z_ => absurd z_ (by decide)⟩, mo148_⟩, by rw [← hy_]; exact xok_, ?_, ?_⟩, by rw [e152_, if_pos g148_.1]; rfl⟩
              · show _ = ((p_ti false t_ (r_.2.1 :: g_) (r_.2.2 ++ c_)).1.length : Int); rw [t1_, vl148_, List.length_cons]; push_cast; rfl
              · show stk _ (p_ti false t_ (r_.2.1 :: g_) (r_.2.2 ++ c_)).1; rw [t1_]; obtain ⟨G9_, V9_, y1_, y2_, y3_, y4_⟩ := x148_; rw [← y2_]; exact svl_stk y4_
              · show xg F_ I_ A_ X_ M_ s0_ (p_ti false t_ (r_.2.1 :: g_) (r_.2.2 ++ c_)).1 _ _; rw [t1_]; exact x148_
              · show o_wd o_ (p_ti false t_ (r_.2.1 :: g_) (r_.2.2 ++ c_)).1.tail; rw [t1_]; exact hz_.2.2.2
        · have cx19_ : ¬ ((S0_.2.2.1 119 0 (S0_.1 13 0 9).toNat) ≠ 2) := of_decide_eq_false cx19_
          refine sm_T_go 1 (c1 := (95, [some (.inr (.inr (some (13, 0))))], [.inr (.inr (some (13, 0)))], S0_)) rfl ?_
          refine sm_T_cal (d1 := 4) (Q1 := vq_322g b_ n_ T_ p_ g_.length r_ S0_) rfl rfl (by decide) (vc_322g b_ n_ T_ p_ g_.length r_ S0_ hI_ (by exact ht_) (by exact hg_) (by exact ⟨hv_.1, by omega⟩) (by exact hmo1_) (by exact rk_.2.2.1.mp (by omega)) (by (have q9_ := hpd_; unfold p_pd at q9_; rw [if_pos (rk_.2.2.1.mp (by omega))] at q9_; exact q9_))) (fun u_ Sx48_ px51_ => ?_)
          obtain ⟨rfl, hIx49_, hFx50_, px51_⟩ := px51_
          have hFx52_ : ai_fr (sx_W vw_319g) S0_ Sx48_ := ai_fr_tr hF_ (fr_le hFx50_ rfl)
          have ex53_ : Sx48_.1 13 0 27 = S0_.1 13 0 27 := hFx50_.1 13 0 27 rfl
          have kk_ : lx_kd b_ n_ p_ = 2 := rk_.2.2.1.mp (by omega)
          have hc9_ : p_co b_ n_ p_ = .inr r_ := by have q9_ := hpd_; unfold p_pd at q9_; rw [if_pos kk_] at q9_; exact q9_
          obtain ⟨qa_, qb_, qu_, -, -, -, -, qw_, -, -, hr9_⟩ := co_r hc9_
          have e95_ := px51_
          have gq_ : rg b_ n_ T_ (.inr r_.1) Sx48_ := e95_.1
          obtain ⟨v9_, v91_, v92_, v93_, v94_⟩ : ∃ v9_, ev1 F_ I_ A_ X_ M_ s0_.2.1 s0_.2.2.1 r_.2.2 v9_ ∧ (v9_.length : Int) = r_.2.1 ∧ (1 ≤ v9_.length ∧ v9_.length ≤ 8) ∧ rowv g_.length v9_ (Gr_.length ≤ 1001) S0_ Sx48_ := by have vp_ := lx_vl_0 kk_; rw [hr9_] at e95_ ⊢; refine ⟨c_bt (lx_vl b_ n_ qb_).toNat (lx_vl b_ n_ p_), ev1_cn qw_ vp_, by rw [c_bt_l]; show _ = lx_vl b_ n_ qb_; omega, by rw [c_bt_l]; omega, rowv_of e95_.2 (by rw [c_bt_l]; show lx_vl b_ n_ qb_ = _; omega) (by rw [c_bt_l]; omega) (fun _ k9_ z9_ e9_ => ?_)⟩; unfold c_bt at e9_; rw [List.getElem?_map] at e9_; (by_cases q9_ : k9_ < (lx_vl b_ n_ qb_).toNat); (rw [List.getElem?_range q9_] at e9_; exact Option.some.inj e9_); (rw [List.getElem?_eq_none (by rw [List.length_range]; omega)] at e9_; cases e9_)
          have ws9_ := ws_fr hw_ hFx50_ rfl rfl rfl
          have op9_ := (hFx50_.1 13 0 33 rfl).trans hop_
          have vl9_ := (hFx50_.1 13 0 34 rfl).trans hv_.1
          have mo9_ := (hFx50_.1 13 0 27 rfl).trans hmo1_
          have xr9_ := rgl_fr xr hFx50_ rfl rfl rfl rfl rfl rfl
          have xp_ : xg F_ I_ A_ X_ M_ s0_ (r_.2.1 :: g_) (r_.2.2 ++ c_) Sx48_ := by have q9_ := xg_pu xe_ xv_ v91_ (by omega) v93_ v92_ xr9_ (by rw [Vl_]; exact v94_); rw [xm_] at q9_; exact q9_
          refine sm_T_go 2 (c1 := (131, [some (.inr (.inr (some (13, 0))))], [.inr (.inr (some (13, 0)))], Sx48_)) rfl ?_
          refine sm_T_cal (d1 := 0) (Q1 := vq_292  Sx48_) rfl rfl (by decide) (vc_292  Sx48_ hIx49_ ) (fun u_ Sx54_ px57_ => ?_)
          obtain ⟨rfl, vx59_, rfl, px57_⟩ := px57_
          have e131_ := px57_
          refine sm_T_b0 (a := 0) (z := 17) rfl (fun cx60_ => ?_) (fun cx60_ => ?_)
          · have cx60_ : vx59_ = 0 := of_decide_eq_true cx60_
            exfalso; (rw [if_pos gq_.1] at e131_; omega)
          · have cx60_ : ¬ (vx59_ = 0) := of_decide_eq_false cx60_
            have bx61_ : 0 ≤ Sx48_.1 13 0 34 ∧ Sx48_.1 13 0 34 ≤ 1023 := hIx49_.1 13 0 34 rfl
            refine sm_T_go 4 (c1 := (143, [some (.inr (.inr (some (13, 0))))], [.inl 1, .inl (Sx48_.1 13 0 34), .inr (.inr (some (13, 0)))], Sx48_)) rfl ?_
            refine sm_T_bin (w := (Sx48_.1 13 0 34) + 1) rfl (bi_add (by omega) (by omega) (by omega)) ?_
            have hIx62_ : gi (sm_pI Sx48_ 13 0 34 ((Sx48_.1 13 0 34) + 1)) := gi_pI hIx49_ (show 0 ≤ (Sx48_.1 13 0 34) + 1 ∧ (Sx48_.1 13 0 34) + 1 ≤ 1023 from ⟨by omega, by omega⟩)
            have hFx63_ : ai_fr (sx_W vw_319g) S0_ (sm_pI Sx48_ 13 0 34 ((Sx48_.1 13 0 34) + 1)) := ai_fr_tr hFx52_ (ai_fr_pI rfl)
            refine sm_T_go 2 (c1 := (148, [some (.inr (.inr (some (13, 0))))], [.inr (.inr (some (13, 0)))], sm_pI Sx48_ 13 0 34 ((Sx48_.1 13 0 34) + 1))) rfl ?_
            refine sm_T_cal (d1 := 1) (Q1 := vq_317g b_ n_ T_ F_ I_ A_ X_ M_ s0_ t_ o_ r_.2.1 g_ (r_.2.2 ++ c_) w0_ (sm_pI Sx48_ 13 0 34 ((Sx48_.1 13 0 34) + 1))) rfl rfl (by decide) (vc_317g b_ n_ T_ F_ I_ A_ X_ M_ s0_ t_ o_ r_.2.1 g_ (r_.2.2 ++ c_) w0_ (sm_pI Sx48_ 13 0 34 ((Sx48_.1 13 0 34) + 1)) hIx62_ (by exact ws9_) (by exact hwt_) (by exact hz_.2.1.2.1.1) (by (show _ + 1 = _; omega)) (by exact mo9_) (by omega) (by exact xg_fr (w_ := ([(13, 34)], [], [])) xp_ (ai_fr_pI rfl) rfl rfl rfl rfl rfl rfl rfl rfl)) (fun u_ Sx64_ px67_ => ?_)
            obtain ⟨rfl, hIx65_, hFx66_, px67_⟩ := px67_
            have hFx68_ : ai_fr (sx_W vw_319g) S0_ Sx64_ := ai_fr_tr hFx63_ (fr_le hFx66_ rfl)
            obtain ⟨w1_, ws148_, wl148_, x148_⟩ := px67_
            have g148_ := rg_fr (b_ := b_) (n_ := n_) (T_ := T_) (x_ := .inr r_.1) (S_ := (sm_pI Sx48_ 13 0 34 ((Sx48_.1 13 0 34) + 1))) gq_ hFx66_ rfl rfl rfl
            have op148_ := (hFx66_.1 13 0 33 rfl).trans op9_
            have mo148_ := (hFx66_.1 13 0 27 rfl).trans mo9_
            have vl148_ : Sx64_.1 13 0 34 = (g_.length : Int) + 1 := (hFx66_.1 13 0 34 rfl).trans (by show _ + 1 = _; omega)
            refine sm_T_go 1 (c1 := (152, [some (.inr (.inr (some (13, 0))))], [.inr (.inr (some (13, 0)))], Sx64_)) rfl ?_
            refine sm_T_cal (d1 := 0) (Q1 := vq_292  Sx64_) rfl rfl (by decide) (vc_292  Sx64_ hIx65_ ) (fun u_ Sx69_ px72_ => ?_)
            obtain ⟨rfl, vx74_, rfl, px72_⟩ := px72_
            have e152_ := px72_
            refine sm_T_rz rfl (by (rw [e152_]; split; (right; rfl); (left; rfl))) ⟨_, _, rfl, _, rfl, hIx65_, hFx68_, ?_⟩
            have t1_ : (p_ti false t_ (r_.2.1 :: g_) (r_.2.2 ++ c_)).1 = r_.2.1 :: g_ := by rw [ti2]
            rw [hy_]
            refine ⟨⟨⟨g148_, ⟨w1_, ws148_, Or.inr ⟨rfl, wl148_⟩⟩, op148_, ⟨?_, fun _ => ?_, fun z_ => absurd z_ (by decide)⟩, mo148_⟩, by rw [← hy_]; exact xok_, ?_, ?_⟩, by rw [e152_, if_pos g148_.1]; rfl⟩
            · show _ = ((p_ti false t_ (r_.2.1 :: g_) (r_.2.2 ++ c_)).1.length : Int); rw [t1_, vl148_, List.length_cons]; push_cast; rfl
            · show stk _ (p_ti false t_ (r_.2.1 :: g_) (r_.2.2 ++ c_)).1; rw [t1_]; obtain ⟨G9_, V9_, y1_, y2_, y3_, y4_⟩ := x148_; rw [← y2_]; exact svl_stk y4_
            · show xg F_ I_ A_ X_ M_ s0_ (p_ti false t_ (r_.2.1 :: g_) (r_.2.2 ++ c_)).1 _ _; rw [t1_]; exact x148_
            · show o_wd o_ (p_ti false t_ (r_.2.1 :: g_) (r_.2.2 ++ c_)).1.tail; rw [t1_]; exact hz_.2.2.2
      · have cx16_ : ¬ ((S0_.1 13 0 27) ≠ 2) := of_decide_eq_false cx16_
        exfalso; omega
    · have cx14_ : ¬ (vx13_ = 0) := of_decide_eq_false cx14_
      have k40_ : lx_kd b_ n_ p_ = 40 := e52_.mp (by omega)
      have n60_ : o_mk o_ ≠ 60 := fun z_ => by have q9_ := hst_; rw [pA_x k40_ z_] at q9_; cases q9_
      obtain ⟨q_, hq_, hy_⟩ : ∃ q_, p_ad b_ n_ p_ = .inr q_ ∧ y_ = (0, false, q_, (if t_ = true then -2 else -1, p_) :: o_, g_, c_) := by have q9_ := hst_; rw [pA_o k40_ n60_] at q9_; obtain ⟨q_, q1_, q2_⟩ := pb_inr q9_; cases q2_; exact ⟨q_, q1_, rfl⟩
      refine sm_T_go 2 (c1 := (61, [some (.inr (.inr (some (13, 0))))], [.inl 40, .inr (.inr (some (13, 0)))], S0_)) rfl ?_
      refine sm_T_cal (d1 := 3) (Q1 := vq_318 40 b_ n_ T_ 1 p_ i_ (o_mk o_) w0_ S0_) rfl rfl (by decide) (vc_318 40 b_ n_ T_ 1 p_ i_ (o_mk o_) w0_ S0_ hI_ (by exact ht_) (by exact hf_) (by exact ⟨hi1_, hi2_⟩) (by omega) (by exact hw_) (by omega) (by exact ⟨hop_, hz_.2.1.2.1.2.1⟩) (by decide) (by exact hmo1_)) (fun u_ Sx75_ px78_ => ?_)
      obtain ⟨rfl, hIx76_, hFx77_, px78_⟩ := px78_
      have hFx79_ : ai_fr (sx_W vw_319g) S0_ Sx75_ := ai_fr_tr hF_ (fr_le hFx77_ rfl)
      have e61_ := px78_
      have v61_ := vs_fr hv_ hFx77_ rfl rfl rfl
      have m61_ := (hFx77_.1 13 0 27 rfl).trans hmo1_
      have x61_ := xg_fr hz_.2.2.1 hFx77_ rfl rfl rfl rfl rfl rfl rfl rfl
      refine sm_T_go 1 (c1 := (65, [some (.inr (.inr (some (13, 0))))], [.inl 0], Sx75_)) rfl ?_
      refine sm_T_rz rfl (by omega) ⟨_, _, rfl, _, rfl, hIx76_, hFx79_, ?_⟩
      rw [hy_]
      obtain ⟨z1_, z2_, z3_⟩ := (e61_.2 n60_).2 q_ hq_
      refine ⟨⟨⟨z1_, ⟨_, z2_, Or.inl ⟨rfl, Or.inl ⟨rfl, wl_op hwt_ (rp_rtp ht_ hi2_ (by omega))⟩⟩⟩, ?_, v61_, m61_⟩, by rw [← hy_]; exact xok_, x61_, ?_⟩, rfl⟩
      · rw [z3_]; show _ = (((if (if t_ = true then (-2 : Int) else -1) < 0 then 1 else 0) + o_mk o_ : Nat) : Int); rw [if_pos (by split <;> decide)]; push_cast; omega
      · have q9_ := hz_.2.2.2; show o_wd _ g_; unfold o_wd; have q8_ : (if t_ = true then (-2 : Int) else -1) = -2 ∨ (if t_ = true then (-2 : Int) else -1) = -1 := (by cases t_; right; rfl; left; rfl); rw [if_neg (by show ¬ (if t_ = true then (-2 : Int) else -1) = -3; omega), if_neg (by show ¬ (if t_ = true then (-2 : Int) else -1) = -4; omega), if_pos (by show (if t_ = true then (-2 : Int) else -1) < 0; omega)]; exact q9_
  · have cx7_ : ¬ (vx6_ = 0) := of_decide_eq_false cx7_
    have k33_ : lx_kd b_ n_ p_ = 33 := e3_.mp (by omega)
    obtain ⟨q_, hq_, hy_⟩ : ∃ q_, p_ad b_ n_ p_ = .inr q_ ∧ y_ = (0, !t_, q_, o_, g_, c_) := by have q9_ := hst_; rw [pA_b k33_] at q9_; obtain ⟨q_, q1_, q2_⟩ := pb_inr q9_; cases q2_; exact ⟨q_, q1_, rfl⟩
    refine sm_T_go 1 (c1 := (10, [some (.inr (.inr (some (13, 0))))], [.inr (.inr (some (13, 0)))], S0_)) rfl ?_
    refine sm_T_cal (d1 := 0) (Q1 := vq_312 w0_ S0_) rfl rfl (by decide) (vc_312 w0_ S0_ hI_ (by exact hw_)) (fun u_ Sx80_ px83_ => ?_)
    obtain ⟨rfl, vx85_, rfl, px83_⟩ := px83_
    have e10 := px83_
    refine sm_T_go 1 (c1 := (15, [some (.inr (.inr (some (13, 0))))], [.inl 33, .inl vx85_], S0_)) rfl ?_
    refine sm_T_br (a := 1) (z := 21) rfl (fun cx86_ => ?_) (fun cx86_ => ?_)
    · have cx86_ : vx85_ ≠ 33 := of_decide_eq_true cx86_
      have tf_ := tp_.2 (by omega)
      refine sm_T_go 3 (c1 := (40, [some (.inr (.inr (some (13, 0))))], [.inl 1, .inl 33, .inr (.inr (some (13, 0)))], S0_)) rfl ?_
      refine sm_T_cal (d1 := 0) (Q1 := vq_311 33 1 w0_ S0_) rfl rfl (by decide) (vc_311 33 1 w0_ S0_ hI_ (by exact hw_) (by omega) (by decide) (by decide)) (fun u_ Sx87_ px90_ => ?_)
      obtain ⟨rfl, hIx88_, hFx89_, px90_⟩ := px90_
      have hFx91_ : ai_fr (sx_W vw_319g) S0_ Sx87_ := ai_fr_tr hF_ (fr_le hFx89_ rfl)
      have ws40_ := px90_
      have g40_ := rg_fr hg_ hFx89_ rfl rfl rfl
      have t40_ := rtab_fr ht_ hFx89_ rfl rfl rfl rfl rfl
      have v40_ := vs_fr hv_ hFx89_ rfl rfl rfl
      have op40_ := (hFx89_.1 13 0 33 rfl).trans hop_
      have x40_ := xg_fr hz_.2.2.1 hFx89_ rfl rfl rfl rfl rfl rfl rfl rfl
      refine sm_T_go 1 (c1 := (44, [some (.inr (.inr (some (13, 0))))], [.inr (.inr (some (13, 0)))], Sx87_)) rfl ?_
      refine sm_T_cal (d1 := 2) (Q1 := vq_297 b_ n_ T_ (.inr p_) Sx87_) rfl rfl (by decide) (vc_297 b_ n_ T_ (.inr p_) Sx87_ hIx88_ (by first | exact t40_ | exact rtab_fr ht_ hFx91_ rfl rfl rfl rfl rfl) (by first | exact g40_ | exact hg_) (by (intro q_ e_; cases e_; omega))) (fun u_ Sx92_ px95_ => ?_)
      obtain ⟨rfl, hIx93_, hFx94_, px95_⟩ := px95_
      have hFx96_ : ai_fr (sx_W vw_319g) S0_ Sx92_ := ai_fr_tr hFx91_ (fr_le hFx94_ rfl)
      have g44_ := px95_.1
      rw [pb_r rfl, hq_] at g44_
      first | (have ws44_ := ws_fr ws40_ hFx94_ rfl rfl rfl) | (have ws44_ := ws_fr ws9_ hFx94_ rfl rfl rfl; rw [x6_] at ws44_) | (have ws44_ := ws_fr ws9_ hFx94_ rfl rfl rfl)
      first | (have v44_ := vs_fr v40_ hFx94_ rfl rfl rfl; have op44_ := (hFx94_.1 13 0 33 rfl).trans op40_) | (have v44_ := vs_fr (vs_137 hv_) hFx94_ rfl rfl rfl; have op44_ := (hFx94_.1 13 0 33 rfl).trans hop_)
      first | (have x44_ := xg_fr x40_ hFx94_ rfl rfl rfl rfl rfl rfl rfl rfl) | (have x44_ := xg_fr (S_ := Sx87_) (xg_fr (w_ := ([], [137], [])) hz_.2.2.1 (ai_fr_aI rfl) rfl rfl rfl rfl rfl rfl rfl rfl) hFx94_ rfl rfl rfl rfl rfl rfl rfl rfl)
      refine sm_T_go 1 (c1 := (48, [some (.inr (.inr (some (13, 0))))], [.inl 0], Sx92_)) rfl ?_
      refine sm_T_rz rfl (by omega) ⟨_, _, rfl, _, rfl, hIx93_, hFx96_, ?_⟩
      rw [hy_]
      refine ⟨⟨⟨g44_, ⟨_, ws44_, Or.inl ⟨rfl, ?_⟩⟩, op44_, v44_, (hFx96_.1 13 0 27 rfl).trans hmo1_⟩, by rw [← hy_]; exact xok_, x44_, hz_.2.2.2⟩, rfl⟩
      first | exact Or.inr ⟨u0_, rfl, hu2_⟩ | (refine Or.inr ⟨w0_, ?_, tf_.2⟩; rw [tf_.1]; rfl)
    · have cx86_ : ¬ (vx85_ ≠ 33) := of_decide_eq_false cx86_
      obtain ⟨u0_, hu1_, hu2_⟩ := tp_.1 (by omega)
      subst hu1_
      have wx_ : S0_.1 13 0 32 = (u0_.length : Int) + 1 := by rw [hww_, List.length_cons]; push_cast; rfl
      obtain ⟨-, y9_, u9_, w3_, w4_, w5_⟩ := ws_tp hw_ (by omega)
      cases w3_
      have w6_ : S0_.2.2.1 137 0 (S0_.1 13 0 32 - 1).toNat = (if t_ = true then 1 else 0) := w4_
      have x6_ : i_xor (S0_.2.2.1 137 0 (S0_.1 13 0 32 - 1).toNat) 1 = (if (!t_) = true then 1 else 0) := by rw [w6_]; cases t_; exact x1_b.2; exact x1_b.1
      have x7_ : 0 ≤ i_xor (S0_.2.2.1 137 0 (S0_.1 13 0 32 - 1).toNat) 1 ∧ i_xor (S0_.2.2.1 137 0 (S0_.1 13 0 32 - 1).toNat) 1 ≤ 1280 := by rw [x6_]; cases t_ <;> decide
      have ws9_ := ws_top (z_ := i_xor (S0_.2.2.1 137 0 (S0_.1 13 0 32 - 1).toNat) 1) hw_ w5_
      have bx97_ : 0 ≤ S0_.1 13 0 32 ∧ S0_.1 13 0 32 ≤ 1023 := hI_.1 13 0 32 rfl
      refine sm_T_go 5 (c1 := (27, [some (.inr (.inr (some (13, 0))))], [.inl 1, .inl (S0_.1 13 0 32), .inr (.inr (some (137, 0)))], S0_)) rfl ?_
      refine sm_T_bin (w := (S0_.1 13 0 32) - 1) rfl (bi_sub (by omega) (by omega) (by omega)) ?_
      refine sm_T_go 1 (c1 := (29, [some (.inr (.inr (some (13, 0))))], [.inl ((S0_.1 13 0 32) - 1), .inr (.inr (some (137, 0))), .inl ((S0_.1 13 0 32) - 1), .inr (.inr (some (137, 0)))], S0_)) rfl ?_
      refine sm_T_iald (n := 1024) rfl rfl (by omega) (by omega) ?_
      have bx98_ : 0 ≤ S0_.2.2.1 137 0 ((S0_.1 13 0 32) - 1).toNat ∧ S0_.2.2.1 137 0 ((S0_.1 13 0 32) - 1).toNat ≤ 1280 := hI_.2 137 0 _
      refine sm_T_go 1 (c1 := (31, [some (.inr (.inr (some (13, 0))))], [.inl 1, .inl (S0_.2.2.1 137 0 ((S0_.1 13 0 32) - 1).toNat), .inl ((S0_.1 13 0 32) - 1), .inr (.inr (some (137, 0)))], S0_)) rfl ?_
      refine sm_T_bin (w := (i_xor (S0_.2.2.1 137 0 ((S0_.1 13 0 32) - 1).toNat) 1)) rfl rfl ?_
      refine sm_T_iast (n := 1024) rfl rfl (by omega) (by omega) ?_
      have hIx99_ : gi (sm_aI S0_ 137 0 ((S0_.1 13 0 32) - 1).toNat (i_xor (S0_.2.2.1 137 0 ((S0_.1 13 0 32) - 1).toNat) 1)) := gi_aI hI_ (show 0 ≤ (i_xor (S0_.2.2.1 137 0 ((S0_.1 13 0 32) - 1).toNat) 1) ∧ (i_xor (S0_.2.2.1 137 0 ((S0_.1 13 0 32) - 1).toNat) 1) ≤ 1280 from ⟨by omega, by omega⟩)
      have hFx100_ : ai_fr (sx_W vw_319g) S0_ (sm_aI S0_ 137 0 ((S0_.1 13 0 32) - 1).toNat (i_xor (S0_.2.2.1 137 0 ((S0_.1 13 0 32) - 1).toNat) 1)) := ai_fr_tr hF_ (ai_fr_aI rfl)
      refine sm_T_go 2 (c1 := (44, [some (.inr (.inr (some (13, 0))))], [.inr (.inr (some (13, 0)))], sm_aI S0_ 137 0 ((S0_.1 13 0 32) - 1).toNat (i_xor (S0_.2.2.1 137 0 ((S0_.1 13 0 32) - 1).toNat) 1))) rfl ?_
      refine sm_T_cal (d1 := 2) (Q1 := vq_297 b_ n_ T_ (.inr p_) (sm_aI S0_ 137 0 ((S0_.1 13 0 32) - 1).toNat (i_xor (S0_.2.2.1 137 0 ((S0_.1 13 0 32) - 1).toNat) 1))) rfl rfl (by decide) (vc_297 b_ n_ T_ (.inr p_) (sm_aI S0_ 137 0 ((S0_.1 13 0 32) - 1).toNat (i_xor (S0_.2.2.1 137 0 ((S0_.1 13 0 32) - 1).toNat) 1)) hIx99_ (by first | exact t40_ | exact rtab_fr ht_ hFx100_ rfl rfl rfl rfl rfl) (by first | exact g40_ | exact hg_) (by (intro q_ e_; cases e_; omega))) (fun u_ Sx101_ px104_ => ?_)
      obtain ⟨rfl, hIx102_, hFx103_, px104_⟩ := px104_
      have hFx105_ : ai_fr (sx_W vw_319g) S0_ Sx101_ := ai_fr_tr hFx100_ (fr_le hFx103_ rfl)
      have g44_ := px104_.1
      rw [pb_r rfl, hq_] at g44_
      first | (have ws44_ := ws_fr ws40_ hFx103_ rfl rfl rfl) | (have ws44_ := ws_fr ws9_ hFx103_ rfl rfl rfl; rw [x6_] at ws44_) | (have ws44_ := ws_fr ws9_ hFx103_ rfl rfl rfl)
      first | (have v44_ := vs_fr v40_ hFx103_ rfl rfl rfl; have op44_ := (hFx103_.1 13 0 33 rfl).trans op40_) | (have v44_ := vs_fr (vs_137 hv_) hFx103_ rfl rfl rfl; have op44_ := (hFx103_.1 13 0 33 rfl).trans hop_)
      first | (have x44_ := xg_fr x40_ hFx103_ rfl rfl rfl rfl rfl rfl rfl rfl) | (have x44_ := xg_fr (S_ := (sm_aI S0_ 137 0 ((S0_.1 13 0 32) - 1).toNat (i_xor (S0_.2.2.1 137 0 ((S0_.1 13 0 32) - 1).toNat) 1))) (xg_fr (w_ := ([], [137], [])) hz_.2.2.1 (ai_fr_aI rfl) rfl rfl rfl rfl rfl rfl rfl rfl) hFx103_ rfl rfl rfl rfl rfl rfl rfl rfl)
      refine sm_T_go 1 (c1 := (48, [some (.inr (.inr (some (13, 0))))], [.inl 0], Sx101_)) rfl ?_
      refine sm_T_rz rfl (by omega) ⟨_, _, rfl, _, rfl, hIx102_, hFx105_, ?_⟩
      rw [hy_]
      refine ⟨⟨⟨g44_, ⟨_, ws44_, Or.inl ⟨rfl, ?_⟩⟩, op44_, v44_, (hFx105_.1 13 0 27 rfl).trans hmo1_⟩, by rw [← hy_]; exact xok_, x44_, hz_.2.2.2⟩, rfl⟩
      first | exact Or.inr ⟨u0_, rfl, hu2_⟩ | (refine Or.inr ⟨w0_, ?_, tf_.2⟩; rw [tf_.1]; rfl)
end
/-! 99.zc9a -/
section
/-! the reference: expressions, second pass; written by wip/p55/gen/vg -/

/-! behind an_ operand, second pass -/
theorem B1_r {b_ : Nat → Int} {n_ p_ : Nat} {L_ : Int} {s_ : pO} {res_ : pX ⊕ pR} (h_ : p_B1 b_ n_ false p_ L_ s_ = .inr res_) (h0_ : 0 < L_) : ((L_ ≠ 4 ∨ o_tp s_.1 ≠ 4) ∧ ∃ q_, p_ad b_ n_ p_ = .inr q_ ∧ res_ = .inl (0, false, q_, (L_, p_) :: s_.1, s_.2.1, s_.2.2)) ∨ ((L_ = 4 ∧ o_tp s_.1 = 4) ∧ p_B2 b_ n_ false p_ s_ = .inr res_) := by
  unfold p_B1 at h_
  by_cases g_ : 0 < L_ ∧ (L_ ≠ 4 ∨ o_tp s_.1 ≠ 4)
  · rw [if_pos g_] at h_
    obtain ⟨q_, q1_, q2_⟩ := pb_inr h_
    cases q2_
    exact Or.inl ⟨g_.2, q_, q1_, rfl⟩
  · rw [if_neg g_] at h_
    exact Or.inr ⟨by omega, h_⟩
theorem B2_q {b_ : Nat → Int} {n_ p_ : Nat} {s_ : pO} {res_ : pX ⊕ pR} (h_ : p_B2 b_ n_ false p_ s_ = .inr res_) (hk_ : lx_kd b_ n_ p_ = 63) : ∃ s1_ q_, p_se2 1 1 s_ = .inr s1_ ∧ o_mk s1_.1 ≠ 60 ∧ h_tp s1_.2.1 = 1 ∧ p_ad b_ n_ p_ = .inr q_ ∧ res_ = .inl (0, false, q_, (-3, p_) :: s1_.1, s1_.2.1, s1_.2.2) := by
  unfold p_B2 at h_
  rw [if_pos ⟨rfl, hk_⟩] at h_
  obtain ⟨s1_, q1_, q2_⟩ := pb_inr h_
  split at q2_
  · cases q2_
  · rename_i g1_
    split at q2_
    · cases q2_
    · rename_i g2_
      obtain ⟨q_, q3_, q4_⟩ := pb_inr q2_
      cases q4_
      refine ⟨s1_, q_, q1_, g1_, ?_, q3_, rfl⟩
      by_cases z_ : h_tp s1_.2.1 = 1
      · exact z_
      · exact absurd z_ g2_
theorem B2_n {b_ : Nat → Int} {n_ p_ : Nat} {s_ : pO} {res_ : pX ⊕ pR} (h_ : p_B2 b_ n_ false p_ s_ = .inr res_) (hk_ : lx_kd b_ n_ p_ ≠ 63) : ∃ s1_, p_sa2 1 s_ = .inr s1_ ∧ p_B3 b_ n_ false p_ s1_ = .inr res_ := by
  unfold p_B2 at h_
  rw [if_neg (fun z_ => hk_ z_.2)] at h_
  exact pb_inr h_
theorem rz_x {b_ : Nat → Int} {n_ T_ p_ F_ I_ m_ : Nat} {A_ : pA} {X_ : Nat → gQ → gE → Option (gQ × gE)} {s0_ : gS} {o_ : List (Int × Nat)} {g_ c_ : List Int} {S_ : sm_S} (h_ : rzx b_ n_ T_ F_ I_ A_ X_ m_ s0_ (1, false, p_, o_, g_, c_) S_) : rz b_ n_ T_ p_ F_ I_ A_ X_ m_ s0_ (o_, g_, c_) S_ := ⟨⟨h_.1, h_.2.1.2.1⟩, h_.2.2.1, h_.2.2.2⟩
theorem rz_ws {b_ : Nat → Int} {n_ T_ p_ F_ I_ m_ : Nat} {A_ : pA} {X_ : Nat → gQ → gE → Option (gQ × gE)} {s0_ : gS} {s_ : pO} {S_ : sm_S} (h_ : rz b_ n_ T_ p_ F_ I_ A_ X_ m_ s0_ s_ S_) : ∃ w_, ws w_ S_ ∧ wl b_ n_ T_ s_.1 w_ ∧ s_ok false 1 s_ ∧ rg b_ n_ T_ (.inr p_) S_ ∧ S_.1 13 0 33 = (o_mk s_.1 : Int) ∧ vs 1 s_.2.1 S_ ∧ S_.1 13 0 27 = 1 := by
  obtain ⟨⟨⟨h1_, ⟨w_, h2_, h3_⟩, h4_, h5_, h6_⟩, h7_⟩, -, -⟩ := h_
  refine ⟨w_, h2_, ?_, h7_, h1_, h4_, h5_, h6_⟩
  rcases h3_ with z_ | z_
  · exact absurd z_.1 (by decide)
  · exact z_.2
def rqg (b_ : Nat → Int) (n_ T_ F_ I_ : Nat) (A_ : pA) (X_ : Nat → gQ → gE → Option (gQ × gE)) (m_ : Nat) (s0_ : gS) (res_ : pX ⊕ pR) (v_ : Int) (S_ : sm_S) : Prop := match res_ with
  | .inl y_ => rzx b_ n_ T_ F_ I_ A_ X_ m_ s0_ y_ S_ ∧ v_ = (y_.1 : Int)
  | .inr r_ => rz b_ n_ T_ r_.1 F_ I_ A_ X_ m_ s0_ ([], r_.2.1, r_.2.2) S_ ∧ v_ = 2
/-! M_.behind -/
def vw_320g : sx_Wl := ([(13, 9), (13, 10), (13, 11), (13, 32), (13, 33), (13, 34), (13, 37)], [136, 137, 138, 139, 140, 141, 142, 143], [])
def vq_320g (a_ : Int) (b_ : Nat → Int) (n_ : Nat) (T_ : Nat) (F_ : Nat) (I_ : Nat) (A_ : pA) (X_ : Nat → gQ → gE → Option (gQ × gE)) (M_ : Nat) (s0_ : gS) (pr_ : pPr) (p_ : Nat) (o_ : List (Int × Nat)) (g_ : List Int) (c_ : List Int) (res_ : pX ⊕ pR) (S0_ : sm_S) (u_ : Option sm_V) (S1_ : sm_S) : Prop := ∃ v_ : Int, u_ = some (.inl v_) ∧ gi S1_ ∧ ai_fr (sx_W vw_320g) S0_ S1_ ∧ (rqg b_ n_ T_ F_ I_ A_ X_ M_ s0_ res_ v_ S1_)
set_option maxHeartbeats 3000000 in
set_option maxRecDepth 20000 in
theorem vl_320g {sc_ : Nat × (Nat → Int)} (a_ : Int) (b_ : Nat → Int) (n_ : Nat) (T_ : Nat) (F_ : Nat) (I_ : Nat) (A_ : pA) (X_ : Nat → gQ → gE → Option (gQ × gE)) (M_ : Nat) (s0_ : gS) (pr_ : pPr) (p_ : Nat) (o_ : List (Int × Nat)) (g_ : List Int) (c_ : List Int) (res_ : pX ⊕ pR) (S0_ : sm_S) (ha_ : a_ = 0) (ht_ : rtab b_ n_ T_ S0_) (hpr_ : pr_ok b_ n_ pr_) (hz_ : rzx b_ n_ T_ F_ I_ A_ X_ M_ s0_ (1, false, p_, o_, g_, c_) S0_) (hst_ : p_st b_ n_ false pr_ (1, false, p_, o_, g_, c_) = .inr res_) : ∀ nn_ : Nat, (∀  (S_ : sm_S), gi S_ → ai_fr (sx_W vw_320g) S0_ S_ → ((∃ s_, rz b_ n_ T_ p_ F_ I_ A_ X_ M_ s0_ s_ S_ ∧ p_B2 b_ n_ false p_ s_ = .inr res_) ∧ True) → ((9 : Nat)) < nn_ → sm_T (mt_P sc_) 7 320 (89, [some (.inr (.inr (some (13, 0)))), some (.inl a_), none], [], S_) (fun ro9_ => ∃ u_ S1_, ro9_ = (.inl u_, S1_, 0) ∧ vq_320g a_ b_ n_ T_ F_ I_ A_ X_ M_ s0_ pr_ p_ o_ g_ c_ res_ S0_ u_ S1_)) := by
  intro nn_
  induction nn_ with
  | zero => exact fun  _ _ _ _ h_ => absurd h_ (Nat.not_lt_zero _)
  | succ nn_ ih_ =>
    rintro  S_ hI_ hF_ ⟨h1_, -⟩ hm_
    obtain ⟨s8_, z1_, z2_⟩ := h1_
    have ht1_ := rtab_fr ht_ hF_ rfl rfl rfl rfl rfl
    have hT_ := ht_.2.1
    obtain ⟨w8_, ws8_, wl8_, ok8_, g8_, op8_, vs8_, m8_⟩ := rz_ws z1_
    have wx8_ := ws8_.1
    have wll8_ := wl_len wl8_
    have lim8_ := o_lim ok8_.1 ok8_.2.1
    have gl8_ : (s8_).2.1.length = o_hl (s8_).1 + 1 := ok8_.2.2.1
    have bx1_ : 0 ≤ S_.1 13 0 27 ∧ S_.1 13 0 27 ≤ 2 := hI_.1 13 0 27 rfl
    refine sm_T_go 3 (c1 := (94, [some (.inr (.inr (some (13, 0)))), some (.inl a_), none], [.inl 2, .inl (S_.1 13 0 27)], S_)) rfl ?_
    refine sm_T_br (a := 3) (z := 89) rfl (fun cx2_ => ?_) (fun cx2_ => ?_)
    · have cx2_ : 2 ≤ (S_.1 13 0 27) := of_decide_eq_true cx2_
      exfalso; (have q9_ := m8_; omega)
    · have cx2_ : ¬ (2 ≤ (S_.1 13 0 27)) := of_decide_eq_false cx2_
      refine sm_T_go 2 (c1 := (100, [some (.inr (.inr (some (13, 0)))), some (.inl a_), none], [.inl 63, .inr (.inr (some (13, 0)))], S_)) rfl ?_
      refine sm_T_cal (d1 := 0) (Q1 := vq_295 63 b_ n_ T_ (.inr p_) S_) rfl rfl (by decide) (vc_295 63 b_ n_ T_ (.inr p_) S_ hI_ (by exact ht1_) (by exact g8_) (by decide)) (fun u_ Sx3_ px6_ => ?_)
      obtain ⟨rfl, vx8_, rfl, px6_⟩ := px6_
      have e100_ := px6_.2 p_ rfl
      have r100_ := px6_.1.1
      refine sm_T_b0 (a := 0) (z := 80) rfl (fun cx9_ => ?_) (fun cx9_ => ?_)
      · have cx9_ : vx8_ = 0 := of_decide_eq_true cx9_
        have k63_ : lx_kd b_ n_ p_ ≠ 63 := fun z_ => by have := e100_.mpr z_; omega
        obtain ⟨s6_, hs6_, hB3_⟩ := B2_n z2_ k63_
        have lt6_ := sa2_lt z1_.1 (show pb (.inr s8_) (p_sa2 1) = .inr s6_ from hs6_)
        refine sm_T_go 1 (c1 := (184, [some (.inr (.inr (some (13, 0)))), some (.inl a_), none], [.inr (.inr (some (13, 0)))], S_)) rfl ?_
        refine sm_T_cal (d1 := 6) (Q1 := vq_316g b_ n_ T_ p_ F_ I_ A_ X_ M_ s0_ s8_ s6_ S_) rfl rfl (by decide) (vc_316g b_ n_ T_ p_ F_ I_ A_ X_ M_ s0_ s8_ s6_ S_ hI_ (by exact ht1_) (by exact z1_) (by exact hs6_)) (fun u_ Sx10_ px13_ => ?_)
        obtain ⟨rfl, hIx11_, hFx12_, px13_⟩ := px13_
        have hFx14_ : ai_fr (sx_W vw_320g) S0_ Sx10_ := ai_fr_tr hF_ (fr_le hFx12_ rfl)
        have ex15_ : Sx10_.1 13 0 27 = S_.1 13 0 27 := hFx12_.1 13 0 27 rfl
        have e184_ := px13_
        obtain ⟨w6_, ws6_, wl6_, ok6_, g6_, op6_, vs6_, m6_⟩ := rz_ws e184_
        have wx6_ := ws6_.1
        have wll6_ := wl_len wl6_
        have lim6_ := o_lim ok6_.1 ok6_.2.1
        have gl6_ : (s6_).2.1.length = o_hl (s6_).1 + 1 := ok6_.2.2.1
        have t184_ := rtab_fr ht1_ hFx12_ rfl rfl rfl rfl rfl
        have tp6_ := wl_tp wl6_ ok6_.1
        obtain ⟨so_, sg_, sc_⟩ := s6_
        refine sm_T_go 1 (c1 := (188, [some (.inr (.inr (some (13, 0)))), some (.inl a_), none], [.inr (.inr (some (13, 0)))], Sx10_)) rfl ?_
        refine sm_T_cal (d1 := 0) (Q1 := vq_292  Sx10_) rfl rfl (by decide) (vc_292  Sx10_ hIx11_ ) (fun u_ Sx16_ px19_ => ?_)
        obtain ⟨rfl, vx21_, rfl, px19_⟩ := px19_
        have e188_ := px19_
        refine sm_T_b0 (a := 0) (z := 11) rfl (fun cx22_ => ?_) (fun cx22_ => ?_)
        · have cx22_ : vx21_ = 0 := of_decide_eq_true cx22_
          exfalso; (rw [if_pos g6_.1] at e188_; omega)
        · have cx22_ : ¬ (vx21_ = 0) := of_decide_eq_false cx22_
          have bx23_ : 0 ≤ Sx10_.1 13 0 32 ∧ Sx10_.1 13 0 32 ≤ 1023 := hIx11_.1 13 0 32 rfl
          refine sm_T_go 3 (c1 := (199, [some (.inr (.inr (some (13, 0)))), some (.inl a_), none], [.inl a_, .inl (Sx10_.1 13 0 32)], Sx10_)) rfl ?_
          refine sm_T_br (a := 1) (z := 5) rfl (fun cx24_ => ?_) (fun cx24_ => ?_)
          · have cx24_ : (Sx10_.1 13 0 32) ≠ a_ := of_decide_eq_true cx24_
            obtain ⟨k8_, q8_, o8_, ho8_, e9_⟩ : ∃ k8_ q8_ o8_, so_ = (k8_, q8_) :: o8_ ∧ o_tp so_ = k8_ := by cases so_ with | nil => (exfalso; have z_ := tp6_.2.2.2.2.2.2.mpr rfl; rw [z_] at wx6_; simp only [List.length_nil] at wx6_; omega) | cons a_ l_ => exact ⟨a_.1, a_.2, l_, rfl, rfl⟩
            subst ho8_
            have k8c := o_ok3 ok6_.1 lt6_.1 lt6_.2
            have bx25_ : 0 ≤ Sx10_.1 13 0 27 ∧ Sx10_.1 13 0 27 ≤ 2 := hIx11_.1 13 0 27 rfl
            refine sm_T_go 3 (c1 := (209, [some (.inr (.inr (some (13, 0)))), some (.inl a_), none], [.inl 2, .inl (Sx10_.1 13 0 27)], Sx10_)) rfl ?_
            refine sm_T_br (a := 3) (z := 42) rfl (fun cx26_ => ?_) (fun cx26_ => ?_)
            · have cx26_ : 2 ≤ (Sx10_.1 13 0 27) := of_decide_eq_true cx26_
              exfalso; omega
            · have cx26_ : ¬ (2 ≤ (Sx10_.1 13 0 27)) := of_decide_eq_false cx26_
              refine sm_T_go 1 (c1 := (213, [some (.inr (.inr (some (13, 0)))), some (.inl a_), none], [.inr (.inr (some (13, 0)))], Sx10_)) rfl ?_
              refine sm_T_cal (d1 := 0) (Q1 := vq_312 w6_ Sx10_) rfl rfl (by decide) (vc_312 w6_ Sx10_ hIx11_ (by exact ws6_)) (fun u_ Sx27_ px30_ => ?_)
              obtain ⟨rfl, vx32_, rfl, px30_⟩ := px30_
              have e213_ := px30_
              refine sm_T_go 1 (c1 := (218, [some (.inr (.inr (some (13, 0)))), some (.inl a_), none], [.inl 63, .inl vx32_], Sx10_)) rfl ?_
              refine sm_T_br (a := 1) (z := 33) rfl (fun cx33_ => ?_) (fun cx33_ => ?_)
              · have cx33_ : vx32_ ≠ 63 := of_decide_eq_true cx33_
                refine sm_T_go 2 (c1 := (254, [some (.inr (.inr (some (13, 0)))), some (.inl a_), none], [.inl 41, .inr (.inr (some (13, 0)))], Sx10_)) rfl ?_
                refine sm_T_cal (d1 := 3) (Q1 := vq_300 41 b_ n_ T_ (.inr p_) Sx10_) rfl rfl (by decide) (vc_300 41 b_ n_ T_ (.inr p_) Sx10_ hIx11_ (by exact t184_) (by exact g6_) (by decide)) (fun u_ Sx34_ px37_ => ?_)
                obtain ⟨rfl, hIx35_, hFx36_, px37_⟩ := px37_
                have hFx38_ : ai_fr (sx_W vw_320g) S0_ Sx34_ := ai_fr_tr hFx14_ (fr_le hFx36_ rfl)
                have ex39_ : Sx34_.1 13 0 27 = Sx10_.1 13 0 27 := hFx36_.1 13 0 27 rfl
                have ex40_ : Sx34_.1 13 0 32 = Sx10_.1 13 0 32 := hFx36_.1 13 0 32 rfl
                have k12_ : k8_ = -1 ∨ k8_ = -2 := by rcases k8c with z_ | z_; (exfalso; have z2_ := tp6_.2.2.2.2.1.mpr (by show o_tp _ = -3; rw [e9_]; exact z_.1); omega); exact z_
                rw [b3_c (by omega)] at hB3_
                obtain ⟨q7_, hq7_, hr7_⟩ := pb_inr hB3_
                have hr7_ := Sum.inr.inj hr7_
                have g254_ := px37_
                rw [pb_r rfl, hq7_] at g254_
                have m254_ : Sx34_.1 13 0 27 = 1 := (hFx36_.1 13 0 27 rfl).trans m6_
                have op254_ := (hFx36_.1 13 0 33 rfl).trans op6_
                have vs254_ := vs_fr vs6_ hFx36_ rfl rfl rfl
                have ws254_ := ws_fr ws6_ hFx36_ rfl rfl rfl
                have x254_ := xg_fr e184_.2.1 hFx36_ rfl rfl rfl rfl rfl rfl rfl rfl
                obtain ⟨t8_, u8_, hw8_, wt8_⟩ := wl_12 k12_ wl6_
                subst hw8_
                obtain ⟨x8_, g9_, hg8_⟩ := s_ok_1 ok6_
                have hg8_ : sg_ = x8_ :: g9_ := hg8_
                subst hg8_
                have gl8_ : (x8_ :: g9_).length = o_hl ((k8_, q8_) :: o8_) + 1 := gl6_
                have gl7_ : o_hl ((k8_, q8_) :: o8_) ≤ 425 := lim6_.2
                simp only [List.length_cons] at gl8_
                have wlx3_ : Sx34_.1 13 0 32 = (u8_.length : Int) + 1 := by rw [ws254_.1, List.length_cons]; push_cast; rfl
                have op8b : Sx34_.1 13 0 33 = (o_mk o8_ : Int) + 1 := by rw [op254_]; show (((if k8_ < 0 then 1 else 0) + o_mk o8_ : Nat) : Int) = _; rw [if_pos (by omega)]; push_cast; omega
                have vl254_ : Sx34_.1 13 0 34 = (g9_.length : Int) + 1 := by rw [vs254_.1]; simp only [List.length_cons]; push_cast; rfl
                refine sm_T_go 1 (c1 := (258, [some (.inr (.inr (some (13, 0)))), some (.inl a_), none], [.inr (.inr (some (13, 0)))], Sx34_)) rfl ?_
                refine sm_T_cal (d1 := 0) (Q1 := vq_292  Sx34_) rfl rfl (by decide) (vc_292  Sx34_ hIx35_ ) (fun u_ Sx41_ px44_ => ?_)
                obtain ⟨rfl, vx46_, rfl, px44_⟩ := px44_
                have e258_ := px44_
                refine sm_T_b0 (a := 0) (z := 27) rfl (fun cx47_ => ?_) (fun cx47_ => ?_)
                · have cx47_ : vx46_ = 0 := of_decide_eq_true cx47_
                  exfalso; (rw [if_pos g254_.1] at e258_; omega)
                · have cx47_ : ¬ (vx46_ = 0) := of_decide_eq_false cx47_
                  have bx48_ : 0 ≤ Sx34_.1 13 0 32 ∧ Sx34_.1 13 0 32 ≤ 1023 := hIx35_.1 13 0 32 rfl
                  refine sm_T_go 4 (c1 := (270, [some (.inr (.inr (some (13, 0)))), some (.inl a_), none], [.inl 1, .inl (Sx34_.1 13 0 32), .inr (.inr (some (13, 0)))], Sx34_)) rfl ?_
                  refine sm_T_bin (w := (Sx34_.1 13 0 32) - 1) rfl (bi_sub (by omega) (by omega) (by omega)) ?_
                  have hIx49_ : gi (sm_pI Sx34_ 13 0 32 ((Sx34_.1 13 0 32) - 1)) := gi_pI hIx35_ (show 0 ≤ (Sx34_.1 13 0 32) - 1 ∧ (Sx34_.1 13 0 32) - 1 ≤ 1023 from ⟨by omega, by omega⟩)
                  have hFx50_ : ai_fr (sx_W vw_320g) S0_ (sm_pI Sx34_ 13 0 32 ((Sx34_.1 13 0 32) - 1)) := ai_fr_tr hFx38_ (ai_fr_pI rfl)
                  have bx51_ : 0 ≤ Sx34_.1 13 0 33 ∧ Sx34_.1 13 0 33 ≤ 60 := hIx35_.1 13 0 33 rfl
                  refine sm_T_go 5 (c1 := (280, [some (.inr (.inr (some (13, 0)))), some (.inl a_), none], [.inl 1, .inl (Sx34_.1 13 0 33), .inr (.inr (some (13, 0)))], sm_pI Sx34_ 13 0 32 ((Sx34_.1 13 0 32) - 1))) rfl ?_
                  refine sm_T_bin (w := (Sx34_.1 13 0 33) - 1) rfl (bi_sub (by omega) (by omega) (by omega)) ?_
                  have hIx52_ : gi (sm_pI (sm_pI Sx34_ 13 0 32 ((Sx34_.1 13 0 32) - 1)) 13 0 33 ((Sx34_.1 13 0 33) - 1)) := gi_pI hIx49_ (show 0 ≤ (Sx34_.1 13 0 33) - 1 ∧ (Sx34_.1 13 0 33) - 1 ≤ 60 from ⟨by omega, by omega⟩)
                  have hFx53_ : ai_fr (sx_W vw_320g) S0_ (sm_pI (sm_pI Sx34_ 13 0 32 ((Sx34_.1 13 0 32) - 1)) 13 0 33 ((Sx34_.1 13 0 33) - 1)) := ai_fr_tr hFx50_ (ai_fr_pI rfl)
                  refine sm_T_go 2 (c1 := (285, [some (.inr (.inr (some (13, 0)))), some (.inl a_), none], [.inr (.inr (some (13, 0)))], sm_pI (sm_pI Sx34_ 13 0 32 ((Sx34_.1 13 0 32) - 1)) 13 0 33 ((Sx34_.1 13 0 33) - 1))) rfl ?_
                  refine sm_T_cal (d1 := 1) (Q1 := vq_317g b_ n_ T_ F_ I_ A_ X_ M_ s0_ (decide (k8_ = -2)) o8_ x8_ g9_ sc_ u8_ (sm_pI (sm_pI Sx34_ 13 0 32 ((Sx34_.1 13 0 32) - 1)) 13 0 33 ((Sx34_.1 13 0 33) - 1))) rfl rfl (by decide) (vc_317g b_ n_ T_ F_ I_ A_ X_ M_ s0_ (decide (k8_ = -2)) o8_ x8_ g9_ sc_ u8_ (sm_pI (sm_pI Sx34_ 13 0 32 ((Sx34_.1 13 0 32) - 1)) 13 0 33 ((Sx34_.1 13 0 33) - 1)) hIx52_ (by exact ws_pop ws254_ rfl rfl rfl) (by exact wt8_) (by exact ok6_.1.2.2) (by exact vl254_) (by exact m254_) (by omega) (by exact xg_fr (w_ := ([(13, 32), (13, 33)], [], [])) x254_ (ai_fr_tr (ai_fr_pI rfl) (ai_fr_pI rfl)) rfl rfl rfl rfl rfl rfl rfl rfl)) (fun u_ Sx54_ px57_ => ?_)
                  obtain ⟨rfl, hIx55_, hFx56_, px57_⟩ := px57_
                  have hFx58_ : ai_fr (sx_W vw_320g) S0_ Sx54_ := ai_fr_tr hFx53_ (fr_le hFx56_ rfl)
                  obtain ⟨w9_, ws9_, wl9_, x9_⟩ := px57_
                  have op285_ : Sx54_.1 13 0 33 = (o_mk o8_ : Int) := (hFx56_.1 13 0 33 rfl).trans (by (try simp only [rd_eq, rd_ne, rf_eq, rf_nk, rf_nt, rd_fa, rd_af, rd_fl, rd_al, rd_lf, rd_la, rd_leq, rd_lne, rd_fr, rd_ar, ne_eq, Nat.reduceEqDiff, not_false_eq_true]); omega)
                  have m285_ := (hFx56_.1 13 0 27 rfl).trans m254_
                  have g285_ := rg_fr (b_ := b_) (n_ := n_) (T_ := T_) (x_ := .inr q7_) (S_ := (sm_pI (sm_pI Sx34_ 13 0 32 ((Sx34_.1 13 0 32) - 1)) 13 0 33 ((Sx34_.1 13 0 33) - 1))) g254_ hFx56_ rfl rfl rfl
                  have vl285_ : Sx54_.1 13 0 34 = (g9_.length : Int) + 1 := (hFx56_.1 13 0 34 rfl).trans vl254_
                  refine sm_T_go 1 (c1 := (289, [some (.inr (.inr (some (13, 0)))), some (.inl a_), none], [.inl 1], Sx54_)) rfl ?_
                  refine sm_T_ri rfl ⟨_, _, rfl, _, rfl, hIx55_, hFx58_, ?_⟩
                  have t1_ : (p_ti false (decide (k8_ = -2)) (x8_ :: g9_) sc_).1 = x8_ :: g9_ := by rw [ti2]
                  have xk_ : x_ok b_ n_ false (1, false, q7_, o8_, (p_ti false (decide (k8_ = -2)) (x8_ :: g9_) sc_).1, (p_ti false (decide (k8_ = -2)) (x8_ :: g9_) sc_).2) := x_st ht_.1 hpr_ hz_.2.1 (by rw [hst_, ← hr7_])
                  rw [← hr7_]
                  refine ⟨⟨⟨g285_, ⟨w9_, ws9_, Or.inr ⟨rfl, wl9_⟩⟩, op285_, ⟨?_, fun _ => ?_, fun z_ => absurd z_ (by decide)⟩, m285_⟩, xk_, ?_, ?_⟩, rfl⟩
                  · show _ = ((p_ti false (decide (k8_ = -2)) (x8_ :: g9_) sc_).1.length : Int); rw [t1_, vl285_, List.length_cons]; push_cast; rfl
                  · show stk _ (p_ti false (decide (k8_ = -2)) (x8_ :: g9_) sc_).1; rw [t1_]; obtain ⟨G9_, V9_, y1_, y2_, y3_, y4_⟩ := x9_; rw [← y2_]; exact svl_stk y4_
                  · show xg F_ I_ A_ X_ M_ s0_ (p_ti false (decide (k8_ = -2)) (x8_ :: g9_) sc_).1 _ _; rw [t1_]; exact x9_
                  · show o_wd o8_ (p_ti false (decide (k8_ = -2)) (x8_ :: g9_) sc_).1.tail; rw [t1_]; have q9_ : o_wd ((k8_, q8_) :: o8_) g9_ := e184_.2.2; unfold o_wd at q9_; rw [if_neg (by show ¬ k8_ = -3; omega), if_neg (by show ¬ k8_ = -4; omega), if_pos (by show k8_ < 0; omega)] at q9_; exact q9_
              · have cx33_ : ¬ (vx32_ ≠ 63) := of_decide_eq_false cx33_
                have k3_ : k8_ = -3 := by rw [← e9_]; exact tp6_.2.2.2.2.1.mp (by omega)
                subst k3_
                obtain ⟨t8_, u8_, hw8_, wl84_⟩ := wl_34 wl6_
                subst hw8_
                rw [b3_q] at hB3_
                obtain ⟨q7_, hq7_, hr7_⟩ := pb_inr hB3_
                have hr7_ := Sum.inr.inj hr7_
                have kd8_ : lx_kd b_ n_ p_ = 58 := by by_cases z_ : lx_kd b_ n_ p_ = 58; exact z_; (exfalso; unfold p_nd at hq7_; rw [if_neg z_] at hq7_; cases hq7_)
                have wlx2_ : (((63, t8_) :: u8_ : List (Int × Int)).length : Int) = (u8_.length : Int) + 1 := by rw [List.length_cons]; push_cast; rfl
                refine sm_T_go 2 (c1 := (224, [some (.inr (.inr (some (13, 0)))), some (.inl a_), none], [.inl 58, .inr (.inr (some (13, 0)))], Sx10_)) rfl ?_
                refine sm_T_cal (d1 := 0) (Q1 := vq_295 58 b_ n_ T_ (.inr p_) Sx10_) rfl rfl (by decide) (vc_295 58 b_ n_ T_ (.inr p_) Sx10_ hIx11_ (by exact t184_) (by exact g6_) (by decide)) (fun u_ Sx59_ px62_ => ?_)
                obtain ⟨rfl, vx64_, rfl, px62_⟩ := px62_
                have e224_ := px62_.2 p_ rfl
                have r224_ := px62_.1.1
                refine sm_T_b0 (a := 0) (z := 16) rfl (fun cx65_ => ?_) (fun cx65_ => ?_)
                · have cx65_ : vx64_ = 0 := of_decide_eq_true cx65_
                  exfalso; (have := e224_.mpr kd8_; omega)
                · have cx65_ : ¬ (vx64_ = 0) := of_decide_eq_false cx65_
                  refine sm_T_go 5 (c1 := (239, [some (.inr (.inr (some (13, 0)))), some (.inl a_), none], [.inl 1, .inl (Sx10_.1 13 0 32), .inr (.inr (some (136, 0)))], Sx10_)) rfl ?_
                  refine sm_T_bin (w := (Sx10_.1 13 0 32) - 1) rfl (bi_sub (by omega) (by omega) (by omega)) ?_
                  refine sm_T_go 1 (c1 := (242, [some (.inr (.inr (some (13, 0)))), some (.inl a_), none], [.inl 58, .inl ((Sx10_.1 13 0 32) - 1), .inr (.inr (some (136, 0)))], Sx10_)) rfl ?_
                  refine sm_T_iast (n := 1024) rfl rfl (by omega) (by omega) ?_
                  have hIx66_ : gi (sm_aI Sx10_ 136 0 ((Sx10_.1 13 0 32) - 1).toNat 58) := gi_aI hIx11_ (show (-2147483648) ≤ 58 ∧ 58 ≤ 2147483647 from ⟨by omega, by omega⟩)
                  have hFx67_ : ai_fr (sx_W vw_320g) S0_ (sm_aI Sx10_ 136 0 ((Sx10_.1 13 0 32) - 1).toNat 58) := ai_fr_tr hFx14_ (ai_fr_aI rfl)
                  refine sm_T_go 2 (c1 := (246, [some (.inr (.inr (some (13, 0)))), some (.inl a_), none], [.inl 58, .inr (.inr (some (13, 0)))], sm_aI Sx10_ 136 0 ((Sx10_.1 13 0 32) - 1).toNat 58)) rfl ?_
                  refine sm_T_cal (d1 := 3) (Q1 := vq_300 58 b_ n_ T_ (.inr p_) (sm_aI Sx10_ 136 0 ((Sx10_.1 13 0 32) - 1).toNat 58)) rfl rfl (by decide) (vc_300 58 b_ n_ T_ (.inr p_) (sm_aI Sx10_ 136 0 ((Sx10_.1 13 0 32) - 1).toNat 58) hIx66_ (by exact rtab_fr t184_ (w_ := ([], [136], [])) (ai_fr_aI rfl) rfl rfl rfl rfl rfl) (by exact g6_) (by decide)) (fun u_ Sx68_ px71_ => ?_)
                  obtain ⟨rfl, hIx69_, hFx70_, px71_⟩ := px71_
                  have hFx72_ : ai_fr (sx_W vw_320g) S0_ Sx68_ := ai_fr_tr hFx67_ (fr_le hFx70_ rfl)
                  have g246_ := px71_
                  rw [pb_r rfl, hq7_] at g246_
                  have m246_ : Sx68_.1 13 0 27 = 1 := (hFx70_.1 13 0 27 rfl).trans m6_
                  have op246_ : Sx68_.1 13 0 33 = _ := (hFx70_.1 13 0 33 rfl).trans op6_
                  have ws246_ := ws_fr (ws_top1 (z_ := 58) ws6_ (by omega)) hFx70_ rfl rfl rfl
                  have v246_ : vs 1 sg_ Sx68_ := vs_fr (S_ := (sm_aI Sx10_ 136 0 ((Sx10_.1 13 0 32) - 1).toNat 58)) (show vs 1 sg_ (sm_aI Sx10_ 136 0 ((Sx10_.1 13 0 32) - 1).toNat 58) from ⟨vs6_.1, fun q_ => stk_ot (vs6_.2.1 q_) (by decide), fun q_ => absurd q_ (by decide)⟩) hFx70_ rfl rfl rfl
                  have x246_ := xg_fr (S_ := (sm_aI Sx10_ 136 0 ((Sx10_.1 13 0 32) - 1).toNat 58)) (xg_fr (w_ := ([], [136], [])) e184_.2.1 (ai_fr_aI rfl) rfl rfl rfl rfl rfl rfl rfl rfl) hFx70_ rfl rfl rfl rfl rfl rfl rfl rfl
                  refine sm_T_go 1 (c1 := (250, [some (.inr (.inr (some (13, 0)))), some (.inl a_), none], [.inl 0], Sx68_)) rfl ?_
                  refine sm_T_ri rfl ⟨_, _, rfl, _, rfl, hIx69_, hFx72_, ?_⟩
                  have xk_ : x_ok b_ n_ false (0, false, q7_, (-4, q8_) :: o8_, sg_, sc_) := x_st ht_.1 hpr_ hz_.2.1 (by rw [hst_, ← hr7_])
                  rw [← hr7_]
                  refine ⟨⟨⟨g246_, ⟨_, ws246_, Or.inl ⟨rfl, Or.inl ⟨rfl, wl84_⟩⟩⟩, op246_, v246_, m246_⟩, xk_, x246_, ?_⟩, rfl⟩
                  show o_wd ((-4, q8_) :: o8_) sg_
                  obtain ⟨a9_, g9_, hg9_⟩ := s_ok_1 ok6_
                  have hg9_ : sg_ = a9_ :: g9_ := hg9_
                  have q9_ := e184_.2.2
                  have q9_ : o_wd ((-3, q8_) :: o8_) sg_.tail := q9_
                  rw [hg9_] at q9_ ⊢
                  have q9_ : o_wd ((-3, q8_) :: o8_) g9_ := q9_
                  unfold o_wd at q9_ ⊢
                  rw [if_pos rfl] at q9_
                  rw [if_neg (by show ¬ (-4 : Int) = -3; decide), if_pos rfl]
                  cases g9_ with
                  | nil => exact q9_.elim
                  | cons c9_ l9_ => exact q9_
          · have cx24_ : ¬ ((Sx10_.1 13 0 32) ≠ a_) := of_decide_eq_false cx24_
            have w0_ : w6_ = [] := by cases w6_ with | nil => rfl | cons a_ l_ => (exfalso; simp only [List.length_cons] at wx6_; omega)
            have so0_ : so_ = [] := tp6_.2.2.2.2.2.2.mp w0_
            subst so0_
            refine sm_T_go 1 (c1 := (203, [some (.inr (.inr (some (13, 0)))), some (.inl a_), none], [.inl 2], Sx10_)) rfl ?_
            refine sm_T_ri rfl ⟨_, _, rfl, _, rfl, hIx11_, hFx14_, ?_⟩
            have q9_ : res_ = .inr (p_, sg_, sc_) := (Sum.inr.inj hB3_).symm
            rw [q9_]
            exact ⟨e184_, rfl⟩
      · have cx9_ : ¬ (vx8_ = 0) := of_decide_eq_false cx9_
        have k63_ : lx_kd b_ n_ p_ = 63 := e100_.mp (by omega)
        obtain ⟨s5_, q5_, hs5_, n60_, ht5_, hq5_, hr5_⟩ := B2_q z2_ k63_
        refine sm_T_go 2 (c1 := (108, [some (.inr (.inr (some (13, 0)))), some (.inl a_), none], [.inl 1, .inr (.inr (some (13, 0)))], S_)) rfl ?_
        refine sm_T_cal (d1 := 5) (Q1 := vq_315g 1 b_ n_ T_ p_ F_ I_ A_ X_ M_ s0_ s8_ s5_ S_) rfl rfl (by decide) (vc_315g 1 b_ n_ T_ p_ F_ I_ A_ X_ M_ s0_ s8_ s5_ S_ hI_ (by exact ht1_) (by exact z1_) (by decide) (by exact hs5_)) (fun u_ Sx73_ px76_ => ?_)
        obtain ⟨rfl, hIx74_, hFx75_, px76_⟩ := px76_
        have hFx77_ : ai_fr (sx_W vw_320g) S0_ Sx73_ := ai_fr_tr hF_ (fr_le hFx75_ rfl)
        have ex78_ : Sx73_.1 13 0 27 = S_.1 13 0 27 := hFx75_.1 13 0 27 rfl
        have e108_ := px76_
        obtain ⟨w5_, ws5_, wl5_, ok5_, g5_, op5_, vs5_, m5_⟩ := rz_ws e108_.1
        have wx5_ := ws5_.1
        have wll5_ := wl_len wl5_
        have lim5_ := o_lim ok5_.1 ok5_.2.1
        have gl5_ : (s5_).2.1.length = o_hl (s5_).1 + 1 := ok5_.2.2.1
        have t108_ := rtab_fr ht1_ hFx75_ rfl rfl rfl rfl rfl
        obtain ⟨x5_, g5b, hg5_⟩ := s_ok_1 ok5_
        have gl5b : s5_.2.1.length = g5b.length + 1 := by rw [hg5_]; rfl
        have vk5_ := vs5_.2.1 (by decide)
        rw [hg5_] at vk5_ ht5_
        have x51_ : x5_ = 1 := ht5_
        have v51_ := vs5_.1
        have wd5_ : Sx73_.2.2.1 138 0 (Sx73_.1 13 0 34 - 1).toNat = x5_ := by rw [show (Sx73_.1 13 0 34 - 1).toNat = g5b.length by omega]; exact vk5_.1
        obtain ⟨i5_, hi51_, hi52_⟩ := id g5_.2
        refine sm_T_go 1 (c1 := (112, [some (.inr (.inr (some (13, 0)))), some (.inl a_), none], [.inr (.inr (some (13, 0)))], Sx73_)) rfl ?_
        refine sm_T_cal (d1 := 0) (Q1 := vq_292  Sx73_) rfl rfl (by decide) (vc_292  Sx73_ hIx74_ ) (fun u_ Sx79_ px82_ => ?_)
        obtain ⟨rfl, vx84_, rfl, px82_⟩ := px82_
        have e112_ := px82_
        refine sm_T_b0 (a := 0) (z := 21) rfl (fun cx85_ => ?_) (fun cx85_ => ?_)
        · have cx85_ : vx84_ = 0 := of_decide_eq_true cx85_
          exfalso; (rw [if_pos g5_.1] at e112_; omega)
        · have cx85_ : ¬ (vx84_ = 0) := of_decide_eq_false cx85_
          have bx86_ : 0 ≤ Sx73_.1 13 0 33 ∧ Sx73_.1 13 0 33 ≤ 60 := hIx74_.1 13 0 33 rfl
          refine sm_T_go 3 (c1 := (124, [some (.inr (.inr (some (13, 0)))), some (.inl a_), none], [.inl 60, .inl (Sx73_.1 13 0 33)], Sx73_)) rfl ?_
          refine sm_T_br (a := 1) (z := 12) rfl (fun cx87_ => ?_) (fun cx87_ => ?_)
          · have cx87_ : (Sx73_.1 13 0 33) ≠ 60 := of_decide_eq_true cx87_
            refine sm_T_go 1 (c1 := (137, [some (.inr (.inr (some (13, 0)))), some (.inl a_), none], [.inr (.inr (some (13, 0)))], Sx73_)) rfl ?_
            refine sm_T_cal (d1 := 0) (Q1 := vq_292  Sx73_) rfl rfl (by decide) (vc_292  Sx73_ hIx74_ ) (fun u_ Sx88_ px91_ => ?_)
            obtain ⟨rfl, vx93_, rfl, px91_⟩ := px91_
            have e137_ := px91_
            refine sm_T_b0 (a := 0) (z := 28) rfl (fun cx94_ => ?_) (fun cx94_ => ?_)
            · have cx94_ : vx93_ = 0 := of_decide_eq_true cx94_
              exfalso; (rw [if_pos g5_.1] at e137_; omega)
            · have cx94_ : ¬ (vx93_ = 0) := of_decide_eq_false cx94_
              have bx95_ : 0 ≤ Sx73_.1 13 0 34 ∧ Sx73_.1 13 0 34 ≤ 1023 := hIx74_.1 13 0 34 rfl
              refine sm_T_go 5 (c1 := (152, [some (.inr (.inr (some (13, 0)))), some (.inl a_), none], [.inl 1, .inl (Sx73_.1 13 0 34), .inr (.inr (some (138, 0)))], Sx73_)) rfl ?_
              refine sm_T_bin (w := (Sx73_.1 13 0 34) - 1) rfl (bi_sub (by omega) (by omega) (by omega)) ?_
              refine sm_T_iald (n := 1024) rfl rfl (by omega) (by omega) ?_
              have bx96_ : (-2147483648) ≤ Sx73_.2.2.1 138 0 ((Sx73_.1 13 0 34) - 1).toNat ∧ Sx73_.2.2.1 138 0 ((Sx73_.1 13 0 34) - 1).toNat ≤ 2147483647 := hIx74_.2 138 0 _
              refine sm_T_go 1 (c1 := (155, [some (.inr (.inr (some (13, 0)))), some (.inl a_), none], [.inl 1, .inl (Sx73_.2.2.1 138 0 ((Sx73_.1 13 0 34) - 1).toNat)], Sx73_)) rfl ?_
              refine sm_T_br (a := 0) (z := 13) rfl (fun cx97_ => ?_) (fun cx97_ => ?_)
              · have cx97_ : (Sx73_.2.2.1 138 0 ((Sx73_.1 13 0 34) - 1).toNat) = 1 := of_decide_eq_true cx97_
                refine sm_T_go 1 (c1 := (169, [some (.inr (.inr (some (13, 0)))), some (.inl a_), none], [.inr (.inr (some (13, 0)))], Sx73_)) rfl ?_
                refine sm_T_cal (d1 := 0) (Q1 := vq_292  Sx73_) rfl rfl (by decide) (vc_292  Sx73_ hIx74_ ) (fun u_ Sx98_ px101_ => ?_)
                obtain ⟨rfl, vx103_, rfl, px101_⟩ := px101_
                have e169_ := px101_
                refine sm_T_b0 (a := 0) (z := 9) rfl (fun cx104_ => ?_) (fun cx104_ => ?_)
                · have cx104_ : vx103_ = 0 := of_decide_eq_true cx104_
                  exfalso; (rw [if_pos g5_.1] at e169_; omega)
                · have cx104_ : ¬ (vx103_ = 0) := of_decide_eq_false cx104_
                  refine sm_T_go 2 (c1 := (178, [some (.inr (.inr (some (13, 0)))), some (.inl a_), none], [.inl 63, .inr (.inr (some (13, 0)))], Sx73_)) rfl ?_
                  refine sm_T_cal (d1 := 3) (Q1 := vq_318 63 b_ n_ T_ 1 p_ i5_ (o_mk s5_.1) w5_ Sx73_) rfl rfl (by decide) (vc_318 63 b_ n_ T_ 1 p_ i5_ (o_mk s5_.1) w5_ Sx73_ hIx74_ (by exact t108_) (by exact g5_.1) (by exact ⟨hi51_, hi52_⟩) (by omega) (by exact ws5_) (by omega) (by exact ⟨op5_, ok5_.2.1⟩) (by decide) (by exact m5_)) (fun u_ Sx105_ px108_ => ?_)
                  obtain ⟨rfl, hIx106_, hFx107_, px108_⟩ := px108_
                  have hFx109_ : ai_fr (sx_W vw_320g) S0_ Sx105_ := ai_fr_tr hFx77_ (fr_le hFx107_ rfl)
                  have ex110_ : Sx105_.1 13 0 34 = Sx73_.1 13 0 34 := hFx107_.1 13 0 34 rfl
                  have e178_ := (px108_.2 n60_).2 q5_ hq5_
                  have m178_ := (hFx107_.1 13 0 27 rfl).trans m5_
                  have v178_ := vs_fr vs5_ hFx107_ rfl rfl rfl
                  have x178_ := xg_fr e108_.1.2.1 hFx107_ rfl rfl rfl rfl rfl rfl rfl rfl
                  refine sm_T_go 1 (c1 := (182, [some (.inr (.inr (some (13, 0)))), some (.inl a_), none], [.inl 0], Sx105_)) rfl ?_
                  refine sm_T_ri rfl ⟨_, _, rfl, _, rfl, hIx106_, hFx109_, ?_⟩
                  have xk_ : x_ok b_ n_ false (0, false, q5_, (-3, p_) :: s5_.1, s5_.2.1, s5_.2.2) := x_st ht_.1 hpr_ hz_.2.1 (by rw [hst_, hr5_])
                  rw [hr5_]
                  obtain ⟨q1_, q2_, q3_⟩ := e178_
                  refine ⟨⟨⟨q1_, ⟨_, q2_, Or.inl ⟨rfl, Or.inl ⟨rfl, ⟨_, w5_, rfl, rp_rtp t108_ hi52_ (by omega), Or.inl ⟨by decide, wl5_⟩⟩⟩⟩⟩, by rw [q3_]; show _ = ((1 + o_mk s5_.1 : Nat) : Int); push_cast; omega, v178_, m178_⟩, xk_, x178_, ?_⟩, rfl⟩
                  show o_wd ((-3, p_) :: s5_.1) s5_.2.1
                  have q9_ := e108_.1.2.2
                  rw [hg5_] at q9_ ⊢
                  unfold o_wd
                  rw [if_pos rfl]
                  exact ⟨x51_, q9_⟩
              · have cx97_ : ¬ ((Sx73_.2.2.1 138 0 ((Sx73_.1 13 0 34) - 1).toNat) = 1) := of_decide_eq_false cx97_
                exfalso; omega
          · have cx87_ : ¬ ((Sx73_.1 13 0 33) ≠ 60) := of_decide_eq_false cx87_
            exfalso; (have q9_ := op5_; omega)
set_option maxHeartbeats 3000000 in
set_option maxRecDepth 20000 in
theorem vc_320g {sc_ : Nat × (Nat → Int)} (a_ : Int) (b_ : Nat → Int) (n_ : Nat) (T_ : Nat) (F_ : Nat) (I_ : Nat) (A_ : pA) (X_ : Nat → gQ → gE → Option (gQ × gE)) (M_ : Nat) (s0_ : gS) (pr_ : pPr) (p_ : Nat) (o_ : List (Int × Nat)) (g_ : List Int) (c_ : List Int) (res_ : pX ⊕ pR) (S0_ : sm_S) (hI_ : gi S0_) (ha_ : a_ = 0) (ht_ : rtab b_ n_ T_ S0_) (hpr_ : pr_ok b_ n_ pr_) (hz_ : rzx b_ n_ T_ F_ I_ A_ X_ M_ s0_ (1, false, p_, o_, g_, c_) S0_) (hst_ : p_st b_ n_ false pr_ (1, false, p_, o_, g_, c_) = .inr res_) : sm_T (mt_P sc_) 7 320 (0, [some (.inr (.inr (some (13, 0)))), some (.inl a_), none], [], S0_) (fun ro9_ => ∃ u_ S1_, ro9_ = (.inl u_, S1_, 0) ∧ vq_320g a_ b_ n_ T_ F_ I_ A_ X_ M_ s0_ pr_ p_ o_ g_ c_ res_ S0_ u_ S1_) := by
  have hF_ : ai_fr (sx_W vw_320g) S0_ S0_ := ai_fr_rf
  obtain ⟨i_, hi1_, hi2_⟩ := id hz_.1.1.2
  have hT_ := ht_.2.1
  have hi9_ := hi2_.1
  refine sm_T_go 1 (c1 := (1, [some (.inr (.inr (some (13, 0)))), some (.inl a_), none], [.inr (.inr (some (13, 0)))], S0_)) rfl ?_
  refine sm_T_cal (d1 := 1) (Q1 := vq_310 b_ n_ T_ (.inr p_) 1 S0_) rfl rfl (by decide) (vc_310 b_ n_ T_ (.inr p_) 1 S0_ hI_ (by exact ht_) (by exact hz_.1.1) (by exact ⟨hz_.1.2.2.2.2, by decide⟩)) (fun u_ Sx1_ px4_ => ?_)
  obtain ⟨rfl, vx6_, rfl, px4_⟩ := px4_
  have e1_ : (vx6_ = 1 ↔ 0 < p_lv false (lx_kd b_ n_ p_)) ∧ (vx6_ = 1 → S0_.2.2.1 119 0 (S0_.1 13 0 9).toNat = 3 ∧ S0_.2.2.1 121 0 (S0_.1 13 0 9).toNat = lx_kd b_ n_ p_ ∧ p_lv false (lx_kd b_ n_ p_) = p_lv false (lx_kd b_ n_ p_)) := px4_.2 p_ rfl
  have r1_ := px4_.1
  refine sm_T_b0 (a := 0) (z := 18) rfl (fun cx7_ => ?_) (fun cx7_ => ?_)
  · have cx7_ : vx6_ = 0 := of_decide_eq_true cx7_
    have l0_ : ¬ 0 < p_lv false (lx_kd b_ n_ p_) := fun z_ => by have := e1_.1.mpr z_; omega
    have hB_ : p_B2 b_ n_ false p_ (o_, g_, c_) = .inr res_ := by have q9_ := hst_; rw [pB_n l0_] at q9_; exact q9_
    obtain ⟨s4_, es4_, hs4_⟩ : ∃ s4_, s4_ = (o_, g_, c_) ∧ p_se2 1 6 (o_, g_, c_) = .inr s4_ := ⟨_, rfl, p_se_st (by have z9_ : -4 ≤ o_tp o_ ∧ o_tp o_ ≤ 5 := o_tp5 hz_.2.1.2.1.1; show o_tp o_ < 6; omega)⟩
    refine sm_T_go 9 (c1 := (44, [some (.inr (.inr (some (13, 0)))), some (.inl a_), some (.inl 0)], [.inl 6, .inr (.inr (some (13, 0)))], S0_)) rfl ?_
    refine sm_T_cal (d1 := 5) (Q1 := vq_315g 6 b_ n_ T_ p_ F_ I_ A_ X_ M_ s0_ (o_, g_, c_) s4_ S0_) rfl rfl (by decide) (vc_315g 6 b_ n_ T_ p_ F_ I_ A_ X_ M_ s0_ (o_, g_, c_) s4_ S0_ hI_ (by exact ht_) (by exact rz_x hz_) (by omega) (by first | exact hs4_ | (have q9_ := hs4_; rw [if_pos (by omega)] at q9_; exact q9_) | (have q9_ := hs4_; rw [if_neg (by omega), ← l16_] at q9_; exact q9_))) (fun u_ Sx8_ px11_ => ?_)
    obtain ⟨rfl, hIx9_, hFx10_, px11_⟩ := px11_
    have hFx12_ : ai_fr (sx_W vw_320g) S0_ Sx8_ := ai_fr_tr hF_ (fr_le hFx10_ rfl)
    have e44_ := px11_
    obtain ⟨w4_, ws4_, wl4_, ok4_, g4_, op4_, vs4_, m4_⟩ := rz_ws e44_.1
    have wx4_ := ws4_.1
    have wll4_ := wl_len wl4_
    have lim4_ := o_lim ok4_.1 ok4_.2.1
    have gl4_ : (s4_).2.1.length = o_hl (s4_).1 + 1 := ok4_.2.2.1
    have t44_ := rtab_fr ht_ hFx10_ rfl rfl rfl rfl rfl
    have at44_ := hFx10_.1 13 0 9 rfl
    have nb44_ : Sx8_.2.2.1 121 0 (Sx8_.1 13 0 9).toNat = S0_.2.2.1 121 0 (S0_.1 13 0 9).toNat := by rw [fr_arr hFx10_ rfl, at44_]
    refine sm_T_go 2 (c1 := (89, [some (.inr (.inr (some (13, 0)))), some (.inl a_), some (.inl 0)], [], Sx8_)) rfl ?_
    refine sm_T_wk [some (.inr (.inr (some (13, 0)))), some (.inl a_), none] (by exact ⟨rfl, rfl, trivial⟩) ?_
    refine (vl_320g a_ b_ n_ T_ F_ I_ A_ X_ M_ s0_ pr_ p_ o_ g_ c_ res_ S0_ ha_ ht_ hpr_ hz_ hst_ _)  Sx8_ hIx9_ hFx12_ ⟨?_, trivial⟩ (Nat.lt_succ_self _)
    · first | (exact ⟨s4_, e44_.1, by rw [es4_]; exact hB_⟩) | (exfalso; omega) | (refine ⟨s4_, e44_.1, ?_⟩; rcases B1_r hB1_ l1_ with z_ | z_; (exfalso; have z1_ := z_.1; have z3_ := (wl_tp wl4_ ok4_.1).2.2.1.mp (by omega); omega); (exact z_.2))
  · have cx7_ : ¬ (vx6_ = 0) := of_decide_eq_false cx7_
    have l1_ : 0 < p_lv false (lx_kd b_ n_ p_) := e1_.1.mp (by omega)
    have l2_ := e1_.2 (by omega)
    have l3_ := lv_all l1_
    obtain ⟨s4_, hs4_, hB1_⟩ : ∃ s4_, p_se2 1 (if p_lv false (lx_kd b_ n_ p_) = 4 then 5 else p_lv false (lx_kd b_ n_ p_)) (o_, g_, c_) = .inr s4_ ∧ p_B1 b_ n_ false p_ (p_lv false (lx_kd b_ n_ p_)) s4_ = .inr res_ := by have q9_ := hst_; rw [pB_l l1_] at q9_; exact pb_inr q9_
    have bx13_ : 0 ≤ S0_.1 13 0 9 ∧ S0_.1 13 0 9 ≤ 1280 := hI_.1 13 0 9 rfl
    refine sm_T_go 4 (c1 := (15, [some (.inr (.inr (some (13, 0)))), some (.inl a_), none], [.inl (S0_.1 13 0 9), .inr (.inr (some (121, 0)))], S0_)) rfl ?_
    refine sm_T_iald (n := 65537) rfl rfl (by omega) (by omega) ?_
    have bx14_ : (-2147483648) ≤ S0_.2.2.1 121 0 (S0_.1 13 0 9).toNat ∧ S0_.2.2.1 121 0 (S0_.1 13 0 9).toNat ≤ 2147483647 := hI_.2 121 0 _
    refine sm_T_cal (d1 := 0) (Q1 := vq_309 (S0_.2.2.1 121 0 (S0_.1 13 0 9).toNat) S0_) rfl rfl (by decide) (vc_309 (S0_.2.2.1 121 0 (S0_.1 13 0 9).toNat) S0_ hI_ ) (fun u_ Sx15_ px18_ => ?_)
    obtain ⟨rfl, vx20_, rfl, px18_⟩ := px18_
    have l16_ : vx20_ = p_lv false (lx_kd b_ n_ p_) := by rw [px18_, l2_.2.1]
    have n16_ := l2_.2.1
    refine sm_T_go 5 (c1 := (27, [some (.inr (.inr (some (13, 0)))), some (.inl a_), some (.inl vx20_)], [.inl 4, .inl vx20_, .inr (.inr (some (13, 0)))], S0_)) rfl ?_
    refine sm_T_br (a := 1) (z := 7) rfl (fun cx21_ => ?_) (fun cx21_ => ?_)
    · have cx21_ : vx20_ ≠ 4 := of_decide_eq_true cx21_
      refine sm_T_go 1 (c1 := (35, [some (.inr (.inr (some (13, 0)))), some (.inl a_), some (.inl vx20_)], [.inl vx20_, .inr (.inr (some (13, 0)))], S0_)) rfl ?_
      refine sm_T_b0 (a := 5) (z := 7) rfl (fun cx22_ => ?_) (fun cx22_ => ?_)
      · have cx22_ : vx20_ ≤ 0 := of_decide_eq_true cx22_
        exfalso; omega
      · have cx22_ : ¬ (vx20_ ≤ 0) := of_decide_eq_false cx22_
        refine sm_T_go 2 (c1 := (44, [some (.inr (.inr (some (13, 0)))), some (.inl a_), some (.inl vx20_)], [.inl vx20_, .inr (.inr (some (13, 0)))], S0_)) rfl ?_
        refine sm_T_cal (d1 := 5) (Q1 := vq_315g vx20_ b_ n_ T_ p_ F_ I_ A_ X_ M_ s0_ (o_, g_, c_) s4_ S0_) rfl rfl (by decide) (vc_315g vx20_ b_ n_ T_ p_ F_ I_ A_ X_ M_ s0_ (o_, g_, c_) s4_ S0_ hI_ (by exact ht_) (by exact rz_x hz_) (by omega) (by first | exact hs4_ | (have q9_ := hs4_; rw [if_pos (by omega)] at q9_; exact q9_) | (have q9_ := hs4_; rw [if_neg (by omega), ← l16_] at q9_; exact q9_))) (fun u_ Sx23_ px26_ => ?_)
        obtain ⟨rfl, hIx24_, hFx25_, px26_⟩ := px26_
        have hFx27_ : ai_fr (sx_W vw_320g) S0_ Sx23_ := ai_fr_tr hF_ (fr_le hFx25_ rfl)
        have ex28_ : Sx23_.1 13 0 9 = S0_.1 13 0 9 := hFx25_.1 13 0 9 rfl
        have e44_ := px26_
        obtain ⟨w4_, ws4_, wl4_, ok4_, g4_, op4_, vs4_, m4_⟩ := rz_ws e44_.1
        have wx4_ := ws4_.1
        have wll4_ := wl_len wl4_
        have lim4_ := o_lim ok4_.1 ok4_.2.1
        have gl4_ : (s4_).2.1.length = o_hl (s4_).1 + 1 := ok4_.2.2.1
        have t44_ := rtab_fr ht_ hFx25_ rfl rfl rfl rfl rfl
        have at44_ := hFx25_.1 13 0 9 rfl
        have nb44_ : Sx23_.2.2.1 121 0 (Sx23_.1 13 0 9).toNat = S0_.2.2.1 121 0 (S0_.1 13 0 9).toNat := by rw [fr_arr hFx25_ rfl, at44_]
        refine sm_T_go 1 (c1 := (48, [some (.inr (.inr (some (13, 0)))), some (.inl a_), some (.inl vx20_)], [.inl vx20_], Sx23_)) rfl ?_
        refine sm_T_b0 (a := 5) (z := 41) rfl (fun cx29_ => ?_) (fun cx29_ => ?_)
        · have cx29_ : vx20_ ≤ 0 := of_decide_eq_true cx29_
          exfalso; omega
        · have cx29_ : ¬ (vx20_ ≤ 0) := of_decide_eq_false cx29_
          refine sm_T_go 2 (c1 := (53, [some (.inr (.inr (some (13, 0)))), some (.inl a_), some (.inl vx20_)], [.inl 4, .inl vx20_], Sx23_)) rfl ?_
          refine sm_T_br (a := 1) (z := 13) rfl (fun cx30_ => ?_) (fun cx30_ => ?_)
          · have cx30_ : vx20_ ≠ 4 := of_decide_eq_true cx30_
            have bx31_ : 0 ≤ Sx23_.1 13 0 9 ∧ Sx23_.1 13 0 9 ≤ 1280 := hIx24_.1 13 0 9 rfl
            refine sm_T_go 5 (c1 := (75, [some (.inr (.inr (some (13, 0)))), some (.inl a_), some (.inl vx20_)], [.inl (Sx23_.1 13 0 9), .inr (.inr (some (121, 0))), .inr (.inr (some (13, 0)))], Sx23_)) rfl ?_
            refine sm_T_iald (n := 65537) rfl rfl (by omega) (by omega) ?_
            have bx32_ : (-2147483648) ≤ Sx23_.2.2.1 121 0 (Sx23_.1 13 0 9).toNat ∧ Sx23_.2.2.1 121 0 (Sx23_.1 13 0 9).toNat ≤ 2147483647 := hIx24_.2 121 0 _
            refine sm_T_go 2 (c1 := (80, [some (.inr (.inr (some (13, 0)))), some (.inl a_), some (.inl vx20_)], [.inl (Sx23_.1 13 0 9), .inl (Sx23_.2.2.1 121 0 (Sx23_.1 13 0 9).toNat), .inr (.inr (some (13, 0)))], Sx23_)) rfl ?_
            refine sm_T_cal (d1 := 0) (Q1 := vq_311 (Sx23_.2.2.1 121 0 (Sx23_.1 13 0 9).toNat) (Sx23_.1 13 0 9) w4_ Sx23_) rfl rfl (by decide) (vc_311 (Sx23_.2.2.1 121 0 (Sx23_.1 13 0 9).toNat) (Sx23_.1 13 0 9) w4_ Sx23_ hIx24_ (by exact ws4_) (by omega) (by omega) (by omega)) (fun u_ Sx33_ px36_ => ?_)
            obtain ⟨rfl, hIx34_, hFx35_, px36_⟩ := px36_
            have hFx37_ : ai_fr (sx_W vw_320g) S0_ Sx33_ := ai_fr_tr hFx27_ (fr_le hFx35_ rfl)
            have ex38_ : Sx33_.1 13 0 9 = Sx23_.1 13 0 9 := hFx35_.1 13 0 9 rfl
            have ws80_ := px36_
            have g80_ := rg_fr g4_ hFx35_ rfl rfl rfl
            have t80_ := rtab_fr t44_ hFx35_ rfl rfl rfl rfl rfl
            rw [nb44_, at44_, n16_, hi1_] at ws80_
            have x80_ := xg_fr e44_.1.2.1 hFx35_ rfl rfl rfl rfl rfl rfl rfl rfl
            have v80_ := vs_fr vs4_ hFx35_ rfl rfl rfl
            have o80_ := (hFx35_.1 13 0 33 rfl).trans op4_
            have m80_ := (hFx35_.1 13 0 27 rfl).trans m4_
            refine sm_T_go 1 (c1 := (84, [some (.inr (.inr (some (13, 0)))), some (.inl a_), some (.inl vx20_)], [.inr (.inr (some (13, 0)))], Sx33_)) rfl ?_
            refine sm_T_cal (d1 := 2) (Q1 := vq_297 b_ n_ T_ (.inr p_) Sx33_) rfl rfl (by decide) (vc_297 b_ n_ T_ (.inr p_) Sx33_ hIx34_ (by exact t80_) (by exact g80_) (by (intro q_ e_; cases e_; omega))) (fun u_ Sx39_ px42_ => ?_)
            obtain ⟨rfl, hIx40_, hFx41_, px42_⟩ := px42_
            have hFx43_ : ai_fr (sx_W vw_320g) S0_ Sx39_ := ai_fr_tr hFx37_ (fr_le hFx41_ rfl)
            have g84_ := px42_.1
            have ws84_ := ws_fr ws80_ hFx41_ rfl rfl rfl
            have x84_ := xg_fr x80_ hFx41_ rfl rfl rfl rfl rfl rfl rfl rfl
            have v84_ := vs_fr v80_ hFx41_ rfl rfl rfl
            have o84_ := (hFx41_.1 13 0 33 rfl).trans o80_
            have m84_ := (hFx41_.1 13 0 27 rfl).trans m80_
            refine sm_T_go 1 (c1 := (88, [some (.inr (.inr (some (13, 0)))), some (.inl a_), some (.inl vx20_)], [.inl 0], Sx39_)) rfl ?_
            refine sm_T_ri rfl ⟨_, _, rfl, _, rfl, hIx40_, hFx43_, ?_⟩
            obtain ⟨q_, q1_, q2_⟩ : ∃ q_, p_ad b_ n_ p_ = .inr q_ ∧ res_ = .inl (0, false, q_, (p_lv false (lx_kd b_ n_ p_), p_) :: s4_.1, s4_.2.1, s4_.2.2) := by rcases B1_r hB1_ l1_ with z_ | z_; (exact z_.2); (exfalso; have z1_ := z_.1; first | omega | (have z2_ := (wl_tp wl4_ ok4_.1).2.2.1.mpr z1_.2; omega))
            rw [pb_r rfl, q1_] at g84_
            have xk_ : x_ok b_ n_ false (0, false, q_, (p_lv false (lx_kd b_ n_ p_), p_) :: s4_.1, s4_.2.1, s4_.2.2) := x_st ht_.1 hpr_ hz_.2.1 (by rw [hst_, q2_])
            rw [q2_]
            refine ⟨⟨⟨g84_, ⟨_, ws84_, Or.inl ⟨rfl, Or.inl ⟨rfl, ⟨(i_ : Int), w4_, by rw [l3_.1], rp_rtp ht_ hi2_ (by omega), Or.inl ⟨by omega, wl4_⟩⟩⟩⟩⟩, ?_, v84_, m84_⟩, xk_, x84_, ?_⟩, rfl⟩
            · rw [o84_]; show _ = (((if p_lv false (lx_kd b_ n_ p_) < 0 then 1 else 0) + o_mk s4_.1 : Nat) : Int); rw [if_neg (by omega)]; simp
            · show o_wd ((p_lv false (lx_kd b_ n_ p_), p_) :: s4_.1) s4_.2.1; obtain ⟨a9_, g9_, hg9_⟩ := s_ok_1 ok4_; have q9_ := e44_.1.2.2; rw [hg9_] at q9_ ⊢; unfold o_wd; rw [if_neg (by show ¬ p_lv false (lx_kd b_ n_ p_) = -3; omega), if_neg (by show ¬ p_lv false (lx_kd b_ n_ p_) = -4; omega), if_neg (by show ¬ p_lv false (lx_kd b_ n_ p_) < 0; omega)]; exact q9_
          · have cx30_ : ¬ (vx20_ ≠ 4) := of_decide_eq_false cx30_
            refine sm_T_go 1 (c1 := (57, [some (.inr (.inr (some (13, 0)))), some (.inl a_), some (.inl vx20_)], [.inr (.inr (some (13, 0)))], Sx23_)) rfl ?_
            refine sm_T_cal (d1 := 0) (Q1 := vq_312 w4_ Sx23_) rfl rfl (by decide) (vc_312 w4_ Sx23_ hIx24_ (by exact ws4_)) (fun u_ Sx44_ px47_ => ?_)
            obtain ⟨rfl, vx49_, rfl, px47_⟩ := px47_
            have e57_ := px47_
            refine sm_T_go 1 (c1 := (63, [some (.inr (.inr (some (13, 0)))), some (.inl a_), some (.inl vx20_)], [.inl 257, .inl vx49_], Sx23_)) rfl ?_
            refine sm_T_br (a := 0) (z := 26) rfl (fun cx50_ => ?_) (fun cx50_ => ?_)
            · have cx50_ : vx49_ = 257 := of_decide_eq_true cx50_
              refine sm_T_go 0 (c1 := (89, [some (.inr (.inr (some (13, 0)))), some (.inl a_), some (.inl vx20_)], [], Sx23_)) rfl ?_
              refine sm_T_wk [some (.inr (.inr (some (13, 0)))), some (.inl a_), none] (by exact ⟨rfl, rfl, trivial⟩) ?_
              refine (vl_320g a_ b_ n_ T_ F_ I_ A_ X_ M_ s0_ pr_ p_ o_ g_ c_ res_ S0_ ha_ ht_ hpr_ hz_ hst_ _)  Sx23_ hIx24_ hFx27_ ⟨?_, trivial⟩ (Nat.lt_succ_self _)
              · first | (exact ⟨s4_, e44_.1, by rw [es4_]; exact hB_⟩) | (exfalso; omega) | (refine ⟨s4_, e44_.1, ?_⟩; rcases B1_r hB1_ l1_ with z_ | z_; (exfalso; have z1_ := z_.1; have z3_ := (wl_tp wl4_ ok4_.1).2.2.1.mp (by omega); omega); (exact z_.2))
            · have cx50_ : ¬ (vx49_ = 257) := of_decide_eq_false cx50_
              have bx51_ : 0 ≤ Sx23_.1 13 0 9 ∧ Sx23_.1 13 0 9 ≤ 1280 := hIx24_.1 13 0 9 rfl
              refine sm_T_go 5 (c1 := (75, [some (.inr (.inr (some (13, 0)))), some (.inl a_), some (.inl vx20_)], [.inl (Sx23_.1 13 0 9), .inr (.inr (some (121, 0))), .inr (.inr (some (13, 0)))], Sx23_)) rfl ?_
              refine sm_T_iald (n := 65537) rfl rfl (by omega) (by omega) ?_
              have bx52_ : (-2147483648) ≤ Sx23_.2.2.1 121 0 (Sx23_.1 13 0 9).toNat ∧ Sx23_.2.2.1 121 0 (Sx23_.1 13 0 9).toNat ≤ 2147483647 := hIx24_.2 121 0 _
              refine sm_T_go 2 (c1 := (80, [some (.inr (.inr (some (13, 0)))), some (.inl a_), some (.inl vx20_)], [.inl (Sx23_.1 13 0 9), .inl (Sx23_.2.2.1 121 0 (Sx23_.1 13 0 9).toNat), .inr (.inr (some (13, 0)))], Sx23_)) rfl ?_
              refine sm_T_cal (d1 := 0) (Q1 := vq_311 (Sx23_.2.2.1 121 0 (Sx23_.1 13 0 9).toNat) (Sx23_.1 13 0 9) w4_ Sx23_) rfl rfl (by decide) (vc_311 (Sx23_.2.2.1 121 0 (Sx23_.1 13 0 9).toNat) (Sx23_.1 13 0 9) w4_ Sx23_ hIx24_ (by exact ws4_) (by omega) (by omega) (by omega)) (fun u_ Sx53_ px56_ => ?_)
              obtain ⟨rfl, hIx54_, hFx55_, px56_⟩ := px56_
              have hFx57_ : ai_fr (sx_W vw_320g) S0_ Sx53_ := ai_fr_tr hFx27_ (fr_le hFx55_ rfl)
              have ex58_ : Sx53_.1 13 0 9 = Sx23_.1 13 0 9 := hFx55_.1 13 0 9 rfl
              have ws80_ := px56_
              have g80_ := rg_fr g4_ hFx55_ rfl rfl rfl
              have t80_ := rtab_fr t44_ hFx55_ rfl rfl rfl rfl rfl
              rw [nb44_, at44_, n16_, hi1_] at ws80_
              have x80_ := xg_fr e44_.1.2.1 hFx55_ rfl rfl rfl rfl rfl rfl rfl rfl
              have v80_ := vs_fr vs4_ hFx55_ rfl rfl rfl
              have o80_ := (hFx55_.1 13 0 33 rfl).trans op4_
              have m80_ := (hFx55_.1 13 0 27 rfl).trans m4_
              refine sm_T_go 1 (c1 := (84, [some (.inr (.inr (some (13, 0)))), some (.inl a_), some (.inl vx20_)], [.inr (.inr (some (13, 0)))], Sx53_)) rfl ?_
              refine sm_T_cal (d1 := 2) (Q1 := vq_297 b_ n_ T_ (.inr p_) Sx53_) rfl rfl (by decide) (vc_297 b_ n_ T_ (.inr p_) Sx53_ hIx54_ (by exact t80_) (by exact g80_) (by (intro q_ e_; cases e_; omega))) (fun u_ Sx59_ px62_ => ?_)
              obtain ⟨rfl, hIx60_, hFx61_, px62_⟩ := px62_
              have hFx63_ : ai_fr (sx_W vw_320g) S0_ Sx59_ := ai_fr_tr hFx57_ (fr_le hFx61_ rfl)
              have g84_ := px62_.1
              have ws84_ := ws_fr ws80_ hFx61_ rfl rfl rfl
              have x84_ := xg_fr x80_ hFx61_ rfl rfl rfl rfl rfl rfl rfl rfl
              have v84_ := vs_fr v80_ hFx61_ rfl rfl rfl
              have o84_ := (hFx61_.1 13 0 33 rfl).trans o80_
              have m84_ := (hFx61_.1 13 0 27 rfl).trans m80_
              refine sm_T_go 1 (c1 := (88, [some (.inr (.inr (some (13, 0)))), some (.inl a_), some (.inl vx20_)], [.inl 0], Sx59_)) rfl ?_
              refine sm_T_ri rfl ⟨_, _, rfl, _, rfl, hIx60_, hFx63_, ?_⟩
              obtain ⟨q_, q1_, q2_⟩ : ∃ q_, p_ad b_ n_ p_ = .inr q_ ∧ res_ = .inl (0, false, q_, (p_lv false (lx_kd b_ n_ p_), p_) :: s4_.1, s4_.2.1, s4_.2.2) := by rcases B1_r hB1_ l1_ with z_ | z_; (exact z_.2); (exfalso; have z1_ := z_.1; first | omega | (have z2_ := (wl_tp wl4_ ok4_.1).2.2.1.mpr z1_.2; omega))
              rw [pb_r rfl, q1_] at g84_
              have xk_ : x_ok b_ n_ false (0, false, q_, (p_lv false (lx_kd b_ n_ p_), p_) :: s4_.1, s4_.2.1, s4_.2.2) := x_st ht_.1 hpr_ hz_.2.1 (by rw [hst_, q2_])
              rw [q2_]
              refine ⟨⟨⟨g84_, ⟨_, ws84_, Or.inl ⟨rfl, Or.inl ⟨rfl, ⟨(i_ : Int), w4_, by rw [l3_.1], rp_rtp ht_ hi2_ (by omega), Or.inl ⟨by omega, wl4_⟩⟩⟩⟩⟩, ?_, v84_, m84_⟩, xk_, x84_, ?_⟩, rfl⟩
              · rw [o84_]; show _ = (((if p_lv false (lx_kd b_ n_ p_) < 0 then 1 else 0) + o_mk s4_.1 : Nat) : Int); rw [if_neg (by omega)]; simp
              · show o_wd ((p_lv false (lx_kd b_ n_ p_), p_) :: s4_.1) s4_.2.1; obtain ⟨a9_, g9_, hg9_⟩ := s_ok_1 ok4_; have q9_ := e44_.1.2.2; rw [hg9_] at q9_ ⊢; unfold o_wd; rw [if_neg (by show ¬ p_lv false (lx_kd b_ n_ p_) = -3; omega), if_neg (by show ¬ p_lv false (lx_kd b_ n_ p_) = -4; omega), if_neg (by show ¬ p_lv false (lx_kd b_ n_ p_) < 0; omega)]; exact q9_
    · have cx21_ : ¬ (vx20_ ≠ 4) := of_decide_eq_false cx21_
      refine sm_T_go 2 (c1 := (44, [some (.inr (.inr (some (13, 0)))), some (.inl a_), some (.inl vx20_)], [.inl 5, .inr (.inr (some (13, 0)))], S0_)) rfl ?_
      refine sm_T_cal (d1 := 5) (Q1 := vq_315g 5 b_ n_ T_ p_ F_ I_ A_ X_ M_ s0_ (o_, g_, c_) s4_ S0_) rfl rfl (by decide) (vc_315g 5 b_ n_ T_ p_ F_ I_ A_ X_ M_ s0_ (o_, g_, c_) s4_ S0_ hI_ (by exact ht_) (by exact rz_x hz_) (by omega) (by first | exact hs4_ | (have q9_ := hs4_; rw [if_pos (by omega)] at q9_; exact q9_) | (have q9_ := hs4_; rw [if_neg (by omega), ← l16_] at q9_; exact q9_))) (fun u_ Sx64_ px67_ => ?_)
      obtain ⟨rfl, hIx65_, hFx66_, px67_⟩ := px67_
      have hFx68_ : ai_fr (sx_W vw_320g) S0_ Sx64_ := ai_fr_tr hF_ (fr_le hFx66_ rfl)
      have ex69_ : Sx64_.1 13 0 9 = S0_.1 13 0 9 := hFx66_.1 13 0 9 rfl
      have e44_ := px67_
      obtain ⟨w4_, ws4_, wl4_, ok4_, g4_, op4_, vs4_, m4_⟩ := rz_ws e44_.1
      have wx4_ := ws4_.1
      have wll4_ := wl_len wl4_
      have lim4_ := o_lim ok4_.1 ok4_.2.1
      have gl4_ : (s4_).2.1.length = o_hl (s4_).1 + 1 := ok4_.2.2.1
      have t44_ := rtab_fr ht_ hFx66_ rfl rfl rfl rfl rfl
      have at44_ := hFx66_.1 13 0 9 rfl
      have nb44_ : Sx64_.2.2.1 121 0 (Sx64_.1 13 0 9).toNat = S0_.2.2.1 121 0 (S0_.1 13 0 9).toNat := by rw [fr_arr hFx66_ rfl, at44_]
      refine sm_T_go 1 (c1 := (48, [some (.inr (.inr (some (13, 0)))), some (.inl a_), some (.inl vx20_)], [.inl vx20_], Sx64_)) rfl ?_
      refine sm_T_b0 (a := 5) (z := 41) rfl (fun cx70_ => ?_) (fun cx70_ => ?_)
      · have cx70_ : vx20_ ≤ 0 := of_decide_eq_true cx70_
        exfalso; omega
      · have cx70_ : ¬ (vx20_ ≤ 0) := of_decide_eq_false cx70_
        refine sm_T_go 2 (c1 := (53, [some (.inr (.inr (some (13, 0)))), some (.inl a_), some (.inl vx20_)], [.inl 4, .inl vx20_], Sx64_)) rfl ?_
        refine sm_T_br (a := 1) (z := 13) rfl (fun cx71_ => ?_) (fun cx71_ => ?_)
        · have cx71_ : vx20_ ≠ 4 := of_decide_eq_true cx71_
          exfalso; omega
        · have cx71_ : ¬ (vx20_ ≠ 4) := of_decide_eq_false cx71_
          refine sm_T_go 1 (c1 := (57, [some (.inr (.inr (some (13, 0)))), some (.inl a_), some (.inl vx20_)], [.inr (.inr (some (13, 0)))], Sx64_)) rfl ?_
          refine sm_T_cal (d1 := 0) (Q1 := vq_312 w4_ Sx64_) rfl rfl (by decide) (vc_312 w4_ Sx64_ hIx65_ (by exact ws4_)) (fun u_ Sx72_ px75_ => ?_)
          obtain ⟨rfl, vx77_, rfl, px75_⟩ := px75_
          have e57_ := px75_
          refine sm_T_go 1 (c1 := (63, [some (.inr (.inr (some (13, 0)))), some (.inl a_), some (.inl vx20_)], [.inl 257, .inl vx77_], Sx64_)) rfl ?_
          refine sm_T_br (a := 0) (z := 26) rfl (fun cx78_ => ?_) (fun cx78_ => ?_)
          · have cx78_ : vx77_ = 257 := of_decide_eq_true cx78_
            refine sm_T_go 0 (c1 := (89, [some (.inr (.inr (some (13, 0)))), some (.inl a_), some (.inl vx20_)], [], Sx64_)) rfl ?_
            refine sm_T_wk [some (.inr (.inr (some (13, 0)))), some (.inl a_), none] (by exact ⟨rfl, rfl, trivial⟩) ?_
            refine (vl_320g a_ b_ n_ T_ F_ I_ A_ X_ M_ s0_ pr_ p_ o_ g_ c_ res_ S0_ ha_ ht_ hpr_ hz_ hst_ _)  Sx64_ hIx65_ hFx68_ ⟨?_, trivial⟩ (Nat.lt_succ_self _)
            · first | (exact ⟨s4_, e44_.1, by rw [es4_]; exact hB_⟩) | (exfalso; omega) | (refine ⟨s4_, e44_.1, ?_⟩; rcases B1_r hB1_ l1_ with z_ | z_; (exfalso; have z1_ := z_.1; have z3_ := (wl_tp wl4_ ok4_.1).2.2.1.mp (by omega); omega); (exact z_.2))
          · have cx78_ : ¬ (vx77_ = 257) := of_decide_eq_false cx78_
            have bx79_ : 0 ≤ Sx64_.1 13 0 9 ∧ Sx64_.1 13 0 9 ≤ 1280 := hIx65_.1 13 0 9 rfl
            refine sm_T_go 5 (c1 := (75, [some (.inr (.inr (some (13, 0)))), some (.inl a_), some (.inl vx20_)], [.inl (Sx64_.1 13 0 9), .inr (.inr (some (121, 0))), .inr (.inr (some (13, 0)))], Sx64_)) rfl ?_
            refine sm_T_iald (n := 65537) rfl rfl (by omega) (by omega) ?_
            have bx80_ : (-2147483648) ≤ Sx64_.2.2.1 121 0 (Sx64_.1 13 0 9).toNat ∧ Sx64_.2.2.1 121 0 (Sx64_.1 13 0 9).toNat ≤ 2147483647 := hIx65_.2 121 0 _
            refine sm_T_go 2 (c1 := (80, [some (.inr (.inr (some (13, 0)))), some (.inl a_), some (.inl vx20_)], [.inl (Sx64_.1 13 0 9), .inl (Sx64_.2.2.1 121 0 (Sx64_.1 13 0 9).toNat), .inr (.inr (some (13, 0)))], Sx64_)) rfl ?_
            refine sm_T_cal (d1 := 0) (Q1 := vq_311 (Sx64_.2.2.1 121 0 (Sx64_.1 13 0 9).toNat) (Sx64_.1 13 0 9) w4_ Sx64_) rfl rfl (by decide) (vc_311 (Sx64_.2.2.1 121 0 (Sx64_.1 13 0 9).toNat) (Sx64_.1 13 0 9) w4_ Sx64_ hIx65_ (by exact ws4_) (by omega) (by omega) (by omega)) (fun u_ Sx81_ px84_ => ?_)
            obtain ⟨rfl, hIx82_, hFx83_, px84_⟩ := px84_
            have hFx85_ : ai_fr (sx_W vw_320g) S0_ Sx81_ := ai_fr_tr hFx68_ (fr_le hFx83_ rfl)
            have ex86_ : Sx81_.1 13 0 9 = Sx64_.1 13 0 9 := hFx83_.1 13 0 9 rfl
            have ws80_ := px84_
            have g80_ := rg_fr g4_ hFx83_ rfl rfl rfl
            have t80_ := rtab_fr t44_ hFx83_ rfl rfl rfl rfl rfl
            rw [nb44_, at44_, n16_, hi1_] at ws80_
            have x80_ := xg_fr e44_.1.2.1 hFx83_ rfl rfl rfl rfl rfl rfl rfl rfl
            have v80_ := vs_fr vs4_ hFx83_ rfl rfl rfl
            have o80_ := (hFx83_.1 13 0 33 rfl).trans op4_
            have m80_ := (hFx83_.1 13 0 27 rfl).trans m4_
            refine sm_T_go 1 (c1 := (84, [some (.inr (.inr (some (13, 0)))), some (.inl a_), some (.inl vx20_)], [.inr (.inr (some (13, 0)))], Sx81_)) rfl ?_
            refine sm_T_cal (d1 := 2) (Q1 := vq_297 b_ n_ T_ (.inr p_) Sx81_) rfl rfl (by decide) (vc_297 b_ n_ T_ (.inr p_) Sx81_ hIx82_ (by exact t80_) (by exact g80_) (by (intro q_ e_; cases e_; omega))) (fun u_ Sx87_ px90_ => ?_)
            obtain ⟨rfl, hIx88_, hFx89_, px90_⟩ := px90_
            have hFx91_ : ai_fr (sx_W vw_320g) S0_ Sx87_ := ai_fr_tr hFx85_ (fr_le hFx89_ rfl)
            have g84_ := px90_.1
            have ws84_ := ws_fr ws80_ hFx89_ rfl rfl rfl
            have x84_ := xg_fr x80_ hFx89_ rfl rfl rfl rfl rfl rfl rfl rfl
            have v84_ := vs_fr v80_ hFx89_ rfl rfl rfl
            have o84_ := (hFx89_.1 13 0 33 rfl).trans o80_
            have m84_ := (hFx89_.1 13 0 27 rfl).trans m80_
            refine sm_T_go 1 (c1 := (88, [some (.inr (.inr (some (13, 0)))), some (.inl a_), some (.inl vx20_)], [.inl 0], Sx87_)) rfl ?_
            refine sm_T_ri rfl ⟨_, _, rfl, _, rfl, hIx88_, hFx91_, ?_⟩
            obtain ⟨q_, q1_, q2_⟩ : ∃ q_, p_ad b_ n_ p_ = .inr q_ ∧ res_ = .inl (0, false, q_, (p_lv false (lx_kd b_ n_ p_), p_) :: s4_.1, s4_.2.1, s4_.2.2) := by rcases B1_r hB1_ l1_ with z_ | z_; (exact z_.2); (exfalso; have z1_ := z_.1; first | omega | (have z2_ := (wl_tp wl4_ ok4_.1).2.2.1.mpr z1_.2; omega))
            rw [pb_r rfl, q1_] at g84_
            have xk_ : x_ok b_ n_ false (0, false, q_, (p_lv false (lx_kd b_ n_ p_), p_) :: s4_.1, s4_.2.1, s4_.2.2) := x_st ht_.1 hpr_ hz_.2.1 (by rw [hst_, q2_])
            rw [q2_]
            refine ⟨⟨⟨g84_, ⟨_, ws84_, Or.inl ⟨rfl, Or.inl ⟨rfl, ⟨(i_ : Int), w4_, by rw [l3_.1], rp_rtp ht_ hi2_ (by omega), Or.inl ⟨by omega, wl4_⟩⟩⟩⟩⟩, ?_, v84_, m84_⟩, xk_, x84_, ?_⟩, rfl⟩
            · rw [o84_]; show _ = (((if p_lv false (lx_kd b_ n_ p_) < 0 then 1 else 0) + o_mk s4_.1 : Nat) : Int); rw [if_neg (by omega)]; simp
            · show o_wd ((p_lv false (lx_kd b_ n_ p_), p_) :: s4_.1) s4_.2.1; obtain ⟨a9_, g9_, hg9_⟩ := s_ok_1 ok4_; have q9_ := e44_.1.2.2; rw [hg9_] at q9_ ⊢; unfold o_wd; rw [if_neg (by show ¬ p_lv false (lx_kd b_ n_ p_) = -3; omega), if_neg (by show ¬ p_lv false (lx_kd b_ n_ p_) = -4; omega), if_neg (by show ¬ p_lv false (lx_kd b_ n_ p_) < 0; omega)]; exact q9_
end
/-! 99.zc9b -/
section
/-! M_.expression -/
def vw_321g : sx_Wl := ([(13, 9), (13, 10), (13, 11), (13, 32), (13, 33), (13, 34), (13, 37)], [136, 137, 138, 139, 140, 141, 142, 143], [])
def vq_321g (b_ : Nat → Int) (n_ : Nat) (T_ : Nat) (F_ : Nat) (I_ : Nat) (A_ : pA) (X_ : Nat → gQ → gE → Option (gQ × gE)) (M_ : Nat) (s0_ : gS) (pr_ : pPr) (K_ : Nat) (fr_ : Nat) (p_ : Nat) (r_ : pR) (S0_ : sm_S) (u_ : Option sm_V) (S1_ : sm_S) : Prop := u_ = none ∧ gi S1_ ∧ ai_fr (sx_W vw_321g) S0_ S1_ ∧ (rg b_ n_ T_ (.inr r_.1) S1_ ∧ ∃ G_ v9_, ev F_ I_ A_ X_ M_ s0_ r_.2.2 = some ((G_, s0_.1.2), s0_.2.1, s0_.2.2.1, [v9_]) ∧ h_tp r_.2.1 = (v9_.length : Int) ∧ (1 ≤ v9_.length ∧ v9_.length ≤ 8) ∧ S1_.2.2.1 138 0 0 = (v9_.length : Int) ∧ rgl F_ G_ S1_ ∧ (imq (G_.length ≤ 1001) (rwv (S1_.2.2.1 139 0) 0 v9_)))
set_option maxHeartbeats 3000000 in
theorem vl_321g {sc_ : Nat × (Nat → Int)} (b_ : Nat → Int) (n_ : Nat) (T_ : Nat) (F_ : Nat) (I_ : Nat) (A_ : pA) (X_ : Nat → gQ → gE → Option (gQ × gE)) (M_ : Nat) (s0_ : gS) (pr_ : pPr) (K_ : Nat) (fr_ : Nat) (p_ : Nat) (r_ : pR) (S0_ : sm_S) (ht_ : rtab b_ n_ T_ S0_) (hpr_ : pr_ok b_ n_ pr_) (hmon : ∀ p_ r_, pr_ p_ = .inr r_ → p_pd b_ n_ A_ M_ p_ = .inr r_ ∧ (lx_kd b_ n_ p_ = 1 → p_fn b_ n_ A_ M_ p_ < (K_ : Int))) (hX_ : ∀ d_ q_ e_ z_, X_ d_ q_ e_ = some z_ → q_.1.length ≤ z_.1.1.length) (hen_ : r_e1 b_ n_ T_ A_ M_ fr_ S0_) (hte_ : ten A_ M_ K_ s0_.2.1 s0_.2.2.1) (hev_ : rev fr_ K_ s0_.2.1 s0_.2.2.1 (s0_.1.1.length ≤ 1001) S0_) (hx_ : rg b_ n_ T_ (.inr p_) S0_) (hm1_ : (S0_.1 13 0 27) = 1) (hs0_ : s0_.2.2.2 = [] ∧ rgl F_ s0_.1.1 S0_) (hr_ : p_ex b_ n_ false pr_ [] p_ = .inr r_) : ∀ nn_ : Nat, (∀ (k_ : Int) (S_ : sm_S), gi S_ → ai_fr (sx_W vw_321g) S0_ S_ → (((∃ x_, k_ = (x_.1 : Int) ∧ rzx b_ n_ T_ F_ I_ A_ X_ M_ s0_ x_ S_ ∧ p_xx b_ n_ false pr_ x_ (.inr r_) ∧ (x_.1 = 1 → x_.2.1 = false)) ∨ (k_ = 2 ∧ rz b_ n_ T_ r_.1 F_ I_ A_ X_ M_ s0_ ([], r_.2.1, r_.2.2) S_)) ∧ True) → (r_ms k_ S_) < nn_ → sm_T (mt_P sc_) 8 321 (17, [some (.inr (.inr (some (13, 0)))), some (.inl k_)], [], S_) (fun ro9_ => ∃ u_ S1_, ro9_ = (.inl u_, S1_, 0) ∧ vq_321g b_ n_ T_ F_ I_ A_ X_ M_ s0_ pr_ K_ fr_ p_ r_ S0_ u_ S1_)) := by
  intro nn_
  induction nn_ with
  | zero => exact fun _ _ _ _ _ h_ => absurd h_ (Nat.not_lt_zero _)
  | succ nn_ ih_ =>
    rintro k_ S_ hI_ hF_ ⟨h1_, -⟩ hm_
    have ht1_ := rtab_fr ht_ hF_ rfl rfl rfl rfl rfl
    have hn1_ := ht_.1
    have en1_ : r_e1 b_ n_ T_ A_ M_ fr_ S_ := ⟨hen_.1, (hF_.1 13 0 28 rfl).trans hen_.2.1, ⟨(hF_.1 13 0 29 rfl).trans hen_.2.2.1.1, hen_.2.2.1.2⟩, fun m_ hm_ => re1_fr (hen_.2.2.2 m_ hm_) hF_ rfl rfl rfl rfl rfl rfl⟩
    have hev1_ := rev_fr hev_ hF_ rfl rfl
    have f0_ : S_.1 13 0 10 = 0 := by rcases h1_ with ⟨x_, _, z_, _⟩ | z_; exact z_.1.1.1; exact rz_f z_.2
    refine sm_T_go 1 (c1 := (18, [some (.inr (.inr (some (13, 0)))), some (.inl k_)], [.inr (.inr (some (13, 0)))], S_)) rfl ?_
    refine sm_T_cal (d1 := 0) (Q1 := vq_292  S_) rfl rfl (by decide) (vc_292  S_ hI_ ) (fun u_ Sx1_ px4_ => ?_)
    obtain ⟨rfl, vx6_, rfl, px4_⟩ := px4_
    have e18_ := px4_
    refine sm_T_b0 (a := 0) (z := 36) rfl (fun cx7_ => ?_) (fun cx7_ => ?_)
    · have cx7_ : vx6_ = 0 := of_decide_eq_true cx7_
      exfalso; (rw [if_pos f0_] at e18_; omega)
    · have cx7_ : ¬ (vx6_ = 0) := of_decide_eq_false cx7_
      refine sm_T_go 2 (c1 := (26, [some (.inr (.inr (some (13, 0)))), some (.inl k_)], [.inl 2, .inl k_], S_)) rfl ?_
      refine sm_T_br (a := 3) (z := 31) rfl (fun cx8_ => ?_) (fun cx8_ => ?_)
      · have cx8_ : 2 ≤ k_ := of_decide_eq_true cx8_
        have hf_ : rz b_ n_ T_ r_.1 F_ I_ A_ X_ M_ s0_ ([], r_.2.1, r_.2.2) S_ := by rcases h1_ with ⟨x_, z1_, z2_, z3_⟩ | z_; (exfalso; have z4_ := z2_.2.1.1; omega); exact z_.2
        refine sm_T_rv rfl ⟨_, _, rfl, rfl, hI_, hF_, ?_⟩
        obtain ⟨Gr_, V_, xe_, xm_, xr, xv_⟩ := hf_.2.1
        have q1_ : r_.2.1.length = 0 + 1 := hf_.1.2.2.2.1
        obtain ⟨a9_, g9_, hg9_⟩ := s_ok_1 hf_.1.2
        have hg9_ : r_.2.1 = a9_ :: g9_ := hg9_
        have g0_ : g9_ = [] := List.eq_nil_of_length_eq_zero (by rw [hg9_, List.length_cons] at q1_; omega)
        rw [g0_] at hg9_
        have xm_ : V_.map (fun v_ => (v_.length : Int)) = r_.2.1 := xm_
        rw [hg9_] at xm_
        obtain ⟨v9_, W9_, rfl, lv_, xw_⟩ := mp_c xm_
        have w0_ : W9_ = [] := List.eq_nil_of_length_eq_zero (by have q9_ := congrArg List.length xw_; rw [List.length_map] at q9_; exact q9_)
        subst w0_
        exact ⟨hf_.1.1.1, Gr_, v9_, xe_, by rw [hg9_]; exact lv_.symm, xv_.2.1, xv_.1, xr, xv_.2.2.1⟩
      · have cx8_ : ¬ (2 ≤ k_) := of_decide_eq_false cx8_
        obtain ⟨x_, kx_, xz_, xx_, xt_⟩ : ∃ x_, k_ = (x_.1 : Int) ∧ rzx b_ n_ T_ F_ I_ A_ X_ M_ s0_ x_ S_ ∧ p_xx b_ n_ false pr_ x_ (.inr r_) ∧ (x_.1 = 1 → x_.2.1 = false) := by rcases h1_ with z_ | z_; exact z_; (have z1_ := z_.1; omega)
        obtain ⟨ph_, t1_, p1_, o1_, g1_, c1_⟩ := x_
        have ph1_ : ph_ ≤ 1 := xz_.2.1.1
        refine sm_T_go 1 (c1 := (30, [some (.inr (.inr (some (13, 0)))), some (.inl k_)], [.inl k_], S_)) rfl ?_
        refine sm_T_b0 (a := 1) (z := 18) rfl (fun cx9_ => ?_) (fun cx9_ => ?_)
        · have cx9_ : k_ ≠ 0 := of_decide_eq_true cx9_
          have p1b : ph_ = 1 := by have z9_ : k_ = (ph_ : Int) := kx_; omega
          subst p1b
          have t1f : t1_ = false := xt_ rfl
          subst t1f
          obtain ⟨rs_, hrs_⟩ : ∃ rs_, p_st b_ n_ false pr_ (1, false, p1_, o1_, g1_, c1_) = .inr rs_ := by have z9_ := p_xy xx_; cases hq_ : p_st b_ n_ false pr_ (1, false, p1_, o1_, g1_, c1_) with | inl e_ => (rw [hq_] at z9_; cases z9_) | inr z_ => exact ⟨z_, rfl⟩
          refine sm_T_go 2 (c1 := (50, [some (.inr (.inr (some (13, 0)))), some (.inl k_)], [.inl 0, .inr (.inr (some (13, 0)))], S_)) rfl ?_
          refine sm_T_cal (d1 := 7) (Q1 := vq_320g 0 b_ n_ T_ F_ I_ A_ X_ M_ s0_ pr_ p1_ o1_ g1_ c1_ rs_ S_) rfl rfl (by decide) (vc_320g 0 b_ n_ T_ F_ I_ A_ X_ M_ s0_ pr_ p1_ o1_ g1_ c1_ rs_ S_ hI_ (by rfl) (by exact ht1_) (by exact hpr_) (by exact xz_) (by exact hrs_)) (fun u_ Sx10_ px13_ => ?_)
          obtain ⟨vx15_, rfl, hIx11_, hFx12_, px13_⟩ := px13_
          have hFx14_ : ai_fr (sx_W vw_321g) S0_ Sx10_ := ai_fr_tr hF_ (fr_le hFx12_ rfl)
          have e50_ := px13_
          have t50_ := rtab_fr ht1_ hFx12_ rfl rfl rfl rfl rfl
          have x50_ := p_xy xx_
          rw [hrs_] at x50_
          refine sm_T_go 2 (c1 := (17, [some (.inr (.inr (some (13, 0)))), some (.inl vx15_)], [], Sx10_)) rfl ?_
          refine ih_ vx15_ Sx10_ hIx11_ hFx14_ ⟨?_, trivial⟩ ?_
          · first | (cases rs_ with | inl y_ => (left; have z8_ := x_st hn1_ hpr_ xz_.2.1 hrs_; obtain ⟨a1_, a2_, a3_, a4_, a5_, a6_⟩ := y_; have z7_ : a1_ ≤ 1 := z8_.1; (by_cases z6_ : a1_ = 1); (subst z6_; obtain ⟨⟨q1_, ⟨w_, q2_, q3_⟩, q4_⟩, q5_, q6_⟩ := e50_.1; refine ⟨(1, false, a3_, a4_, a5_, a6_), e50_.2, ⟨⟨q1_, ⟨w_, q2_, ?_⟩, q4_⟩, xo_t q5_, q6_⟩, xx_t x50_, fun _ => rfl⟩; (rcases q3_ with q3_ | q3_; (exact absurd q3_.1 (show ¬ (1 : Nat) = 0 by decide)); (exact Or.inr q3_))); (exact ⟨_, e50_.2, e50_.1, x50_, fun z_ => absurd z_ z6_⟩)) | inr r9_ => (right; have z9_ : (.inr r_ : pE pR) = .inr r9_ := x50_; cases z9_; exact ⟨e50_.2, e50_.1⟩)) | (left; have z8_ := x_st hn1_ hpr_ xz_.2.1 hy1_; obtain ⟨a1_, a2_, a3_, a4_, a5_, a6_⟩ := y1_; have z7_ : a1_ ≤ 1 := z8_.1; have z5_ : _ = (a1_ : Int) := e34_.2; (by_cases z6_ : a1_ = 1); (subst z6_; obtain ⟨⟨q1_, ⟨w_, q2_, q3_⟩, q4_⟩, q5_, q6_⟩ := e34_.1; refine ⟨(1, false, a3_, a4_, a5_, a6_), by first | rfl | (exfalso; omega), ⟨⟨q1_, ⟨w_, q2_, ?_⟩, q4_⟩, xo_t q5_, q6_⟩, xx_t x34_, fun _ => rfl⟩; (rcases q3_ with q3_ | q3_; (exact absurd q3_.1 (show ¬ (1 : Nat) = 0 by decide)); (exact Or.inr q3_))); (exact ⟨_, (by show _ = (a1_ : Int); first | omega), e34_.1, x34_, fun z_ => absurd z_ z6_⟩))
          · first | (have q2_ := rms_x (k_ := k_) ht1_ xz_.1.1 (by omega); have q3_ : r_ms k_ S_ = 1301 - p1_ := q2_.1; have q4_ : p1_ ≤ 1280 := q2_.2; have k1_ := p_st_lt hpr_ xz_.2.1 hy1_; have k2_ := x_st hn1_ hpr_ xz_.2.1 hy1_; have k5_ : p1_ < y1_.2.2.1 := k1_; have k6_ := k2_.2.2.1; refine Nat.lt_of_le_of_lt (Nat.le_of_eq (rms_x t34_ e34_.1.1.1 (by first | decide | omega)).1) ?_; omega) | (have q2_ := rms_x (k_ := k_) ht1_ xz_.1.1 (by omega); have q3_ : r_ms k_ S_ = 1301 - p1_ := q2_.1; have q4_ : p1_ ≤ 1280 := q2_.2; cases rs_ with | inl y_ => (have k1_ := p_st_lt hpr_ xz_.2.1 hrs_; have k2_ := x_st hn1_ hpr_ xz_.2.1 hrs_; have z9_ := e50_.2; have k5_ : p1_ < y_.2.2.1 := k1_; have k6_ := k2_.2.2.1; have k7_ := k2_.1; refine Nat.lt_of_le_of_lt (Nat.le_of_eq (rms_x t50_ e50_.1.1.1 (by omega)).1) ?_; omega) | inr r9_ => (rw [rms_0 (Or.inr e50_.2)]; omega))
        · have cx9_ : ¬ (k_ ≠ 0) := of_decide_eq_false cx9_
          have p0_ : ph_ = 0 := by have z9_ : k_ = (ph_ : Int) := kx_; omega
          subst p0_
          obtain ⟨y1_, hy1_⟩ : ∃ y_, p_st b_ n_ false pr_ (0, t1_, p1_, o1_, g1_, c1_) = .inr (.inl y_) := by have z9_ := p_xy xx_; cases hq_ : p_st b_ n_ false pr_ (0, t1_, p1_, o1_, g1_, c1_) with | inl e_ => (rw [hq_] at z9_; cases z9_) | inr z_ => (cases z_ with | inl y_ => exact ⟨y_, rfl⟩ | inr r9_ => exact (dn_A (show p_sA b_ n_ false pr_ t1_ p1_ o1_ g1_ c1_ = .inr (.inr r9_) from hq_)).elim)
          refine sm_T_go 1 (c1 := (34, [some (.inr (.inr (some (13, 0)))), some (.inl k_)], [.inr (.inr (some (13, 0)))], S_)) rfl ?_
          refine sm_T_cal (d1 := 6) (Q1 := vq_319g b_ n_ T_ F_ I_ A_ X_ M_ s0_ pr_ K_ fr_ t1_ p1_ o1_ g1_ c1_ y1_ S_) rfl rfl (by decide) (vc_319g b_ n_ T_ F_ I_ A_ X_ M_ s0_ pr_ K_ fr_ t1_ p1_ o1_ g1_ c1_ y1_ S_ hI_ (by exact ht1_) (by exact hpr_) (by exact hmon) (by exact hX_) (by exact en1_) (by exact hte_) (by exact hev1_) (by exact xz_) (by exact hy1_)) (fun u_ Sx16_ px19_ => ?_)
          obtain ⟨vx21_, rfl, hIx17_, hFx18_, px19_⟩ := px19_
          have hFx20_ : ai_fr (sx_W vw_321g) S0_ Sx16_ := ai_fr_tr hF_ (fr_le hFx18_ rfl)
          have e34_ := px19_
          have t34_ := rtab_fr ht1_ hFx18_ rfl rfl rfl rfl rfl
          have x34_ : p_xx b_ n_ false pr_ y1_ (.inr r_) := by have z9_ := p_xy xx_; rw [hy1_] at z9_; exact z9_
          refine sm_T_b0 (a := 0) (z := 7) rfl (fun cx22_ => ?_) (fun cx22_ => ?_)
          · have cx22_ : vx21_ = 0 := of_decide_eq_true cx22_
            refine sm_T_go 4 (c1 := (17, [some (.inr (.inr (some (13, 0)))), some (.inl 0)], [], Sx16_)) rfl ?_
            refine ih_ 0 Sx16_ hIx17_ hFx20_ ⟨?_, trivial⟩ ?_
            · first | (cases rs_ with | inl y_ => (left; have z8_ := x_st hn1_ hpr_ xz_.2.1 hrs_; obtain ⟨a1_, a2_, a3_, a4_, a5_, a6_⟩ := y_; have z7_ : a1_ ≤ 1 := z8_.1; (by_cases z6_ : a1_ = 1); (subst z6_; obtain ⟨⟨q1_, ⟨w_, q2_, q3_⟩, q4_⟩, q5_, q6_⟩ := e50_.1; refine ⟨(1, false, a3_, a4_, a5_, a6_), e50_.2, ⟨⟨q1_, ⟨w_, q2_, ?_⟩, q4_⟩, xo_t q5_, q6_⟩, xx_t x50_, fun _ => rfl⟩; (rcases q3_ with q3_ | q3_; (exact absurd q3_.1 (show ¬ (1 : Nat) = 0 by decide)); (exact Or.inr q3_))); (exact ⟨_, e50_.2, e50_.1, x50_, fun z_ => absurd z_ z6_⟩)) | inr r9_ => (right; have z9_ : (.inr r_ : pE pR) = .inr r9_ := x50_; cases z9_; exact ⟨e50_.2, e50_.1⟩)) | (left; have z8_ := x_st hn1_ hpr_ xz_.2.1 hy1_; obtain ⟨a1_, a2_, a3_, a4_, a5_, a6_⟩ := y1_; have z7_ : a1_ ≤ 1 := z8_.1; have z5_ : _ = (a1_ : Int) := e34_.2; (by_cases z6_ : a1_ = 1); (subst z6_; obtain ⟨⟨q1_, ⟨w_, q2_, q3_⟩, q4_⟩, q5_, q6_⟩ := e34_.1; refine ⟨(1, false, a3_, a4_, a5_, a6_), by first | rfl | (exfalso; omega), ⟨⟨q1_, ⟨w_, q2_, ?_⟩, q4_⟩, xo_t q5_, q6_⟩, xx_t x34_, fun _ => rfl⟩; (rcases q3_ with q3_ | q3_; (exact absurd q3_.1 (show ¬ (1 : Nat) = 0 by decide)); (exact Or.inr q3_))); (exact ⟨_, (by show _ = (a1_ : Int); first | omega), e34_.1, x34_, fun z_ => absurd z_ z6_⟩))
            · first | (have q2_ := rms_x (k_ := k_) ht1_ xz_.1.1 (by omega); have q3_ : r_ms k_ S_ = 1301 - p1_ := q2_.1; have q4_ : p1_ ≤ 1280 := q2_.2; have k1_ := p_st_lt hpr_ xz_.2.1 hy1_; have k2_ := x_st hn1_ hpr_ xz_.2.1 hy1_; have k5_ : p1_ < y1_.2.2.1 := k1_; have k6_ := k2_.2.2.1; refine Nat.lt_of_le_of_lt (Nat.le_of_eq (rms_x t34_ e34_.1.1.1 (by first | decide | omega)).1) ?_; omega) | (have q2_ := rms_x (k_ := k_) ht1_ xz_.1.1 (by omega); have q3_ : r_ms k_ S_ = 1301 - p1_ := q2_.1; have q4_ : p1_ ≤ 1280 := q2_.2; cases rs_ with | inl y_ => (have k1_ := p_st_lt hpr_ xz_.2.1 hrs_; have k2_ := x_st hn1_ hpr_ xz_.2.1 hrs_; have z9_ := e50_.2; have k5_ : p1_ < y_.2.2.1 := k1_; have k6_ := k2_.2.2.1; have k7_ := k2_.1; refine Nat.lt_of_le_of_lt (Nat.le_of_eq (rms_x t50_ e50_.1.1.1 (by omega)).1) ?_; omega) | inr r9_ => (rw [rms_0 (Or.inr e50_.2)]; omega))
          · have cx22_ : ¬ (vx21_ = 0) := of_decide_eq_false cx22_
            refine sm_T_go 4 (c1 := (17, [some (.inr (.inr (some (13, 0)))), some (.inl 1)], [], Sx16_)) rfl ?_
            refine ih_ 1 Sx16_ hIx17_ hFx20_ ⟨?_, trivial⟩ ?_
            · first | (cases rs_ with | inl y_ => (left; have z8_ := x_st hn1_ hpr_ xz_.2.1 hrs_; obtain ⟨a1_, a2_, a3_, a4_, a5_, a6_⟩ := y_; have z7_ : a1_ ≤ 1 := z8_.1; (by_cases z6_ : a1_ = 1); (subst z6_; obtain ⟨⟨q1_, ⟨w_, q2_, q3_⟩, q4_⟩, q5_, q6_⟩ := e50_.1; refine ⟨(1, false, a3_, a4_, a5_, a6_), e50_.2, ⟨⟨q1_, ⟨w_, q2_, ?_⟩, q4_⟩, xo_t q5_, q6_⟩, xx_t x50_, fun _ => rfl⟩; (rcases q3_ with q3_ | q3_; (exact absurd q3_.1 (show ¬ (1 : Nat) = 0 by decide)); (exact Or.inr q3_))); (exact ⟨_, e50_.2, e50_.1, x50_, fun z_ => absurd z_ z6_⟩)) | inr r9_ => (right; have z9_ : (.inr r_ : pE pR) = .inr r9_ := x50_; cases z9_; exact ⟨e50_.2, e50_.1⟩)) | (left; have z8_ := x_st hn1_ hpr_ xz_.2.1 hy1_; obtain ⟨a1_, a2_, a3_, a4_, a5_, a6_⟩ := y1_; have z7_ : a1_ ≤ 1 := z8_.1; have z5_ : _ = (a1_ : Int) := e34_.2; (by_cases z6_ : a1_ = 1); (subst z6_; obtain ⟨⟨q1_, ⟨w_, q2_, q3_⟩, q4_⟩, q5_, q6_⟩ := e34_.1; refine ⟨(1, false, a3_, a4_, a5_, a6_), by first | rfl | (exfalso; omega), ⟨⟨q1_, ⟨w_, q2_, ?_⟩, q4_⟩, xo_t q5_, q6_⟩, xx_t x34_, fun _ => rfl⟩; (rcases q3_ with q3_ | q3_; (exact absurd q3_.1 (show ¬ (1 : Nat) = 0 by decide)); (exact Or.inr q3_))); (exact ⟨_, (by show _ = (a1_ : Int); first | omega), e34_.1, x34_, fun z_ => absurd z_ z6_⟩))
            · first | (have q2_ := rms_x (k_ := k_) ht1_ xz_.1.1 (by omega); have q3_ : r_ms k_ S_ = 1301 - p1_ := q2_.1; have q4_ : p1_ ≤ 1280 := q2_.2; have k1_ := p_st_lt hpr_ xz_.2.1 hy1_; have k2_ := x_st hn1_ hpr_ xz_.2.1 hy1_; have k5_ : p1_ < y1_.2.2.1 := k1_; have k6_ := k2_.2.2.1; refine Nat.lt_of_le_of_lt (Nat.le_of_eq (rms_x t34_ e34_.1.1.1 (by first | decide | omega)).1) ?_; omega) | (have q2_ := rms_x (k_ := k_) ht1_ xz_.1.1 (by omega); have q3_ : r_ms k_ S_ = 1301 - p1_ := q2_.1; have q4_ : p1_ ≤ 1280 := q2_.2; cases rs_ with | inl y_ => (have k1_ := p_st_lt hpr_ xz_.2.1 hrs_; have k2_ := x_st hn1_ hpr_ xz_.2.1 hrs_; have z9_ := e50_.2; have k5_ : p1_ < y_.2.2.1 := k1_; have k6_ := k2_.2.2.1; have k7_ := k2_.1; refine Nat.lt_of_le_of_lt (Nat.le_of_eq (rms_x t50_ e50_.1.1.1 (by omega)).1) ?_; omega) | inr r9_ => (rw [rms_0 (Or.inr e50_.2)]; omega))
set_option maxHeartbeats 3000000 in
theorem vc_321g {sc_ : Nat × (Nat → Int)} (b_ : Nat → Int) (n_ : Nat) (T_ : Nat) (F_ : Nat) (I_ : Nat) (A_ : pA) (X_ : Nat → gQ → gE → Option (gQ × gE)) (M_ : Nat) (s0_ : gS) (pr_ : pPr) (K_ : Nat) (fr_ : Nat) (p_ : Nat) (r_ : pR) (S0_ : sm_S) (hI_ : gi S0_) (ht_ : rtab b_ n_ T_ S0_) (hpr_ : pr_ok b_ n_ pr_) (hmon : ∀ p_ r_, pr_ p_ = .inr r_ → p_pd b_ n_ A_ M_ p_ = .inr r_ ∧ (lx_kd b_ n_ p_ = 1 → p_fn b_ n_ A_ M_ p_ < (K_ : Int))) (hX_ : ∀ d_ q_ e_ z_, X_ d_ q_ e_ = some z_ → q_.1.length ≤ z_.1.1.length) (hen_ : r_e1 b_ n_ T_ A_ M_ fr_ S0_) (hte_ : ten A_ M_ K_ s0_.2.1 s0_.2.2.1) (hev_ : rev fr_ K_ s0_.2.1 s0_.2.2.1 (s0_.1.1.length ≤ 1001) S0_) (hx_ : rg b_ n_ T_ (.inr p_) S0_) (hm1_ : (S0_.1 13 0 27) = 1) (hs0_ : s0_.2.2.2 = [] ∧ rgl F_ s0_.1.1 S0_) (hr_ : p_ex b_ n_ false pr_ [] p_ = .inr r_) : sm_T (mt_P sc_) 8 321 (0, [some (.inr (.inr (some (13, 0)))), none], [], S0_) (fun ro9_ => ∃ u_ S1_, ro9_ = (.inl u_, S1_, 0) ∧ vq_321g b_ n_ T_ F_ I_ A_ X_ M_ s0_ pr_ K_ fr_ p_ r_ S0_ u_ S1_) := by
  have hF_ : ai_fr (sx_W vw_321g) S0_ S0_ := ai_fr_rf
  have hIx1_ : gi (sm_pI S0_ 13 0 32 0) := gi_pI hI_ (show 0 ≤ 0 ∧ 0 ≤ 1023 from ⟨by omega, by omega⟩)
  have hFx2_ : ai_fr (sx_W vw_321g) S0_ (sm_pI S0_ 13 0 32 0) := ai_fr_tr hF_ (ai_fr_pI rfl)
  have hIx3_ : gi (sm_pI (sm_pI S0_ 13 0 32 0) 13 0 33 0) := gi_pI hIx1_ (show 0 ≤ 0 ∧ 0 ≤ 60 from ⟨by omega, by omega⟩)
  have hFx4_ : ai_fr (sx_W vw_321g) S0_ (sm_pI (sm_pI S0_ 13 0 32 0) 13 0 33 0) := ai_fr_tr hFx2_ (ai_fr_pI rfl)
  have hIx5_ : gi (sm_pI (sm_pI (sm_pI S0_ 13 0 32 0) 13 0 33 0) 13 0 34 0) := gi_pI hIx3_ (show 0 ≤ 0 ∧ 0 ≤ 1023 from ⟨by omega, by omega⟩)
  have hFx6_ : ai_fr (sx_W vw_321g) S0_ (sm_pI (sm_pI (sm_pI S0_ 13 0 32 0) 13 0 33 0) 13 0 34 0) := ai_fr_tr hFx4_ (ai_fr_pI rfl)
  refine sm_T_go 11 (c1 := (17, [some (.inr (.inr (some (13, 0)))), some (.inl 0)], [], sm_pI (sm_pI (sm_pI S0_ 13 0 32 0) 13 0 33 0) 13 0 34 0)) rfl ?_
  refine (vl_321g b_ n_ T_ F_ I_ A_ X_ M_ s0_ pr_ K_ fr_ p_ r_ S0_ ht_ hpr_ hmon hX_ hen_ hte_ hev_ hx_ hm1_ hs0_ hr_ _) 0 (sm_pI (sm_pI (sm_pI S0_ 13 0 32 0) 13 0 33 0) 13 0 34 0) hIx5_ hFx6_ ⟨?_, trivial⟩ (Nat.lt_succ_self _)
  · left
    obtain ⟨i9_, z1_, z2_⟩ := id hx_.2
    have z4_ := (rp_at ht_ z2_).2.2.2.1
    refine ⟨(0, false, p_, [], [], []), rfl, ⟨⟨hx_, ⟨[], ⟨rfl, trivial, trivial⟩, Or.inl ⟨rfl, Or.inl ⟨rfl, rfl⟩⟩⟩, rfl, ⟨rfl, fun _ => trivial, fun _ => trivial⟩, hm1_⟩, x_ok_0 z4_ z2_.2.2.1 (Nat.zero_le _), ⟨s0_.1.1, [], ?_, rfl, ?_, trivial⟩, trivial⟩, ?_, fun z_ => absurd z_ (show ¬ (0 : Nat) = 1 by decide)⟩
    · rw [ev_n]; have q9_ := hs0_.1; obtain ⟨⟨q1_, q2_⟩, q3_, q4_, q5_⟩ := s0_; have q9_ : q5_ = [] := q9_; subst q9_; rfl
    · exact rgl_fr (w_ := ([(13, 32), (13, 33), (13, 34)], [], [])) hs0_.2 (ai_fr_tr (ai_fr_tr (ai_fr_pI rfl) (ai_fr_pI rfl)) (ai_fr_pI rfl)) rfl rfl rfl rfl rfl rfl
    · rw [← hr_]; exact p_ex_x ht_.1 hpr_ z4_ z2_.2.2.1 (Nat.zero_le _)
end
/-! 99.zd1 -/
section
/-! tables that grow; code on top; written by wip/p55/gen/vg -/

/-! a_ table and what it_ grows to_ -/
def a_ex (A_ B_ : pA) (M_ : Nat) : Prop := A_.1 M_ ≤ B_.1 M_ ∧ (∀ m_, m_ < M_ → A_.1 m_ = B_.1 m_) ∧ ∀ m_ s_, m_ ≤ M_ → s_ < A_.1 m_ → A_.2.1 (40 * m_ + s_) = B_.2.1 (40 * m_ + s_) ∧ A_.2.2.2.1 (40 * m_ + s_) = B_.2.2.2.1 (40 * m_ + s_) ∧ A_.2.2.2.2 (40 * m_ + s_) = B_.2.2.2.2 (40 * m_ + s_) ∧ (A_.2.2.1 (40 * m_ + s_) = B_.2.2.1 (40 * m_ + s_) ∨ (A_.2.2.1 (40 * m_ + s_) = 3 ∧ B_.2.2.1 (40 * m_ + s_) = 4))
theorem fn_ex {b_ : Nat → Int} {n_ M_ m_ p_ s_ : Nat} {A_ B_ : pA} (h_ : a_ex A_ B_ M_) (hm_ : m_ ≤ M_) (e_ : p_fn b_ n_ A_ m_ p_ = (s_ : Int)) : p_fn b_ n_ B_ m_ p_ = (s_ : Int) ∧ s_ < A_.1 m_ := by
  have e0_ : p_fd (fun s_ => nm_q b_ n_ (A_.2.1 (40 * m_ + s_)) p_) (A_.1 m_) = (s_ : Int) := e_
  have e1_ : p_fd (fun s_ => nm_q b_ n_ (B_.2.1 (40 * m_ + s_)) p_) (A_.1 m_) = (s_ : Int) := by
    rw [← e0_]
    refine p_fd_cg (fun j_ hj_ => ?_)
    show nm_q b_ n_ (B_.2.1 (40 * m_ + j_)) p_ = nm_q b_ n_ (A_.2.1 (40 * m_ + j_)) p_
    rw [(h_.2.2 m_ j_ hm_ hj_).1]
  have le_ : A_.1 m_ ≤ B_.1 m_ := by
    by_cases z_ : m_ = M_
    · rw [z_]; exact h_.1
    · rw [h_.2.1 m_ (by omega)]
      exact Nat.le_refl _
  have e2_ := p_fd_st (f_ := fun s_ => nm_q b_ n_ (B_.2.1 (40 * m_ + s_)) p_) (k_ := A_.1 m_) (by rw [e1_]; omega) (B_.1 m_ - A_.1 m_)
  rw [show A_.1 m_ + (B_.1 m_ - A_.1 m_) = B_.1 m_ by omega, e1_] at e2_
  exact ⟨e2_, (p_fd_f e0_).2⟩
theorem pa_ex {b_ : Nat → Int} {n_ M_ d_ p_ : Nat} {A_ B_ : pA} {s_ : Int} {r_ : Nat × Int × List Int} (h_ : a_ex A_ B_ M_) (hd_ : d_ ≤ M_) (e_ : p_pa b_ n_ A_ s_ d_ p_ = .inr r_) : p_pa b_ n_ B_ s_ d_ p_ = .inr r_ := by
  obtain ⟨o9_, q_, q1_, q2_, q3_, q4_, q5_⟩ := pa_r e_
  have f1_ := (fn_ex (p_ := p_) h_ hd_ q1_).1
  have x_ := h_.2.2 d_ o9_ hd_ q2_
  have s1_ : B_.2.2.1 (40 * d_ + o9_) = 1 := by
    rcases x_.2.2.2 with z_ | z_
    · rw [← z_]; exact q3_
    · omega
  have f2_ : (p_fn b_ n_ B_ d_ p_).toNat = o9_ := by rw [f1_]; rfl
  unfold p_pa
  rw [f2_, if_neg (by rw [f1_, s1_]; rintro (z_ | z_); omega; exact z_ rfl), pb_r q4_, f1_]
  rcases q5_ with ⟨z1_, z2_⟩ | ⟨z1_, u_, v_, z2_, z3_, z4_⟩
  · rw [if_neg z1_, ← x_.2.1, z2_]
  · rw [if_pos z1_, pb_r z2_, bp_bi, ← x_.2.1, pb_r z3_, z4_]
theorem na_ex {b_ : Nat → Int} {n_ M_ p_ : Nat} {A_ B_ : pA} {r_ : Nat × Int × List Int} (hA_ : a_ok b_ n_ A_ M_) (h_ : a_ex A_ B_ M_) (e_ : p_na b_ n_ A_ M_ p_ = .inr r_) : p_na b_ n_ B_ M_ p_ = .inr r_ ∧ p_fn b_ n_ B_ M_ p_ < (A_.1 M_ : Int) := by
  obtain ⟨s9_, q_, q1_, q2_, q3_, q4_⟩ := na_r e_
  have f1_ := fn_ex (p_ := p_) h_ (Nat.le_refl M_) q1_
  have x_ := h_.2.2 M_ s9_ (Nat.le_refl M_) q2_
  have s5_ : B_.2.2.1 (40 * M_ + s9_) = 5 ↔ A_.2.2.1 (40 * M_ + s9_) = 5 := by
    rcases x_.2.2.2 with z_ | z_ <;> omega
  refine ⟨?_, by rw [f1_.1]; omega⟩
  rcases q4_ with ⟨z1_, z2_, z3_⟩ | ⟨z1_, u_, z2_, z3_⟩
  · rw [na_2 f1_.1 q3_ z1_, if_neg (fun w_ => z2_ (s5_.mp w_)), ← x_.2.1, z3_]
  · rcases z3_ with ⟨z3_, z4_, z5_⟩ | ⟨z3_, z4_, v_, z5_, z6_⟩
    · have d5_ := ((hA_.2 M_ (Nat.le_refl _)).2 s9_ q2_).2.2.2.2.1 z4_
      rw [na_4 f1_.1 q3_ z1_ z2_ z3_, if_pos (s5_.mpr z4_), ← x_.2.2.1]
      exact pa_ex h_ (by omega) z5_
    · rw [na_5 f1_.1 q3_ z1_ z2_ z3_, if_neg (fun w_ => z4_ (s5_.mp w_)), bp_bi, ← x_.2.1, pb_r z5_, z6_]
theorem pd_ex {b_ : Nat → Int} {n_ M_ p_ : Nat} {A_ B_ : pA} {r_ : Nat × Int × List Int} (hA_ : a_ok b_ n_ A_ M_) (h_ : a_ex A_ B_ M_) (e_ : p_pd b_ n_ A_ M_ p_ = .inr r_) : p_pd b_ n_ B_ M_ p_ = .inr r_ ∧ (lx_kd b_ n_ p_ = 1 → p_fn b_ n_ B_ M_ p_ < (A_.1 M_ : Int)) := by
  unfold p_pd at e_ ⊢
  by_cases k2_ : lx_kd b_ n_ p_ = 2
  · rw [if_pos k2_] at e_ ⊢
    exact ⟨e_, fun z_ => by omega⟩
  · rw [if_neg k2_] at e_ ⊢
    by_cases k1_ : lx_kd b_ n_ p_ = 1
    · rw [if_pos k1_] at e_ ⊢
      have q_ := na_ex hA_ h_ e_
      exact ⟨q_.1, fun _ => q_.2⟩
    · rw [if_neg k1_] at e_
      cases e_
/-! the_ code comes on_ top_ of_ what is_ there -/
def pm {α β : Type} (f_ : α → β) (x_ : pE α) : pE β := pb x_ fun a_ => .inr (f_ a_)
def aO (c_ : List Int) (s_ : pO) : pO := (s_.1, s_.2.1, s_.2.2 ++ c_)
def aX (c_ : List Int) (x_ : pX) : pX := (x_.1, x_.2.1, x_.2.2.1, x_.2.2.2.1, x_.2.2.2.2.1, x_.2.2.2.2.2 ++ c_)
def aR (c_ : List Int) (r_ : pR) : pR := (r_.1, r_.2.1, r_.2.2 ++ c_)
def aS (c_ : List Int) (z_ : pX ⊕ pR) : pX ⊕ pR := match z_ with
  | .inl x_ => .inl (aX c_ x_)
  | .inr r_ => .inr (aR c_ r_)
theorem pm_b {α β γ : Type} {f_ : β → γ} {x_ : pE α} {g_ : α → pE β} : pm f_ (pb x_ g_) = pb x_ fun a_ => pm f_ (g_ a_) := by
  cases x_ <;> rfl
theorem ap_f {k_ : Int} {q_ : Nat} {a_ d_ : Int} {c_ : List Int} : p_ap false k_ q_ a_ d_ c_ = if a_ = d_ then .inr (if k_ = 4 then 1 else a_, k_ :: c_) else .inl (13, q_) := by
  unfold p_ap
  rw [if_neg (by decide)]
theorem se_ac {ls_ : Int} {c_ : List Int} : ∀ (o_ : List (Int × Nat)) (h_ l_ : List Int), p_se false ls_ o_ h_ (l_ ++ c_) = pm (aO c_) (p_se false ls_ o_ h_ l_)
  | [], h_, l_ => by rw [p_se, p_se] <;> first | rfl | (intros; simp_all)
  | (k_, q_) :: o_, [], l_ => by rw [p_se, p_se] <;> first | rfl | (intros; simp_all)
  | (k_, q_) :: o_, [x_], l_ => by rw [p_se, p_se] <;> first | rfl | (intros; simp_all)
  | (k_, q_) :: o_, y_ :: x_ :: h_, l_ => by
    rw [p_se, p_se]
    by_cases g_ : ls_ ≤ k_
    · rw [if_pos g_, if_pos g_]
      rw [ap_f, ap_f]
      by_cases e_ : x_ = y_
      · rw [if_pos e_, if_pos e_]
        exact se_ac o_ _ (k_ :: l_)
      · rw [if_neg e_, if_neg e_]
        rfl
    · rw [if_neg g_, if_neg g_]
      rfl
theorem sa_ac {c_ : List Int} : ∀ (o_ : List (Int × Nat)) (h_ l_ : List Int), p_sa false o_ h_ (l_ ++ c_) = pm (aO c_) (p_sa false o_ h_ l_)
  | [], h_, l_ => by rw [p_sa, p_sa]; rfl
  | (k_, q_) :: o_, h_, l_ => by
    have key_ : ∀ c1_ : List Int, p_sa false ((k_, q_) :: o_) h_ c1_ = if k_ = -4 then pb (p_ch q_ h_ c1_) fun r_ => p_sa false o_ r_.1 r_.2 else if 1 ≤ k_ then (match h_ with
      | y_ :: x_ :: h_ => pb (p_ap false k_ q_ x_ y_ c1_) fun r_ => p_sa false o_ (r_.1 :: h_) r_.2
      | h_ => .inr ((k_, q_) :: o_, h_, c1_)) else .inr ((k_, q_) :: o_, h_, c1_) := fun c1_ => by
      conv => lhs; unfold p_sa
      cases h_ with
      | nil => rfl
      | cons y_ h_ =>
        cases h_ with
        | nil => rfl
        | cons x_ h_ => rfl
    rw [key_, key_]
    by_cases g4_ : k_ = -4
    · rw [if_pos g4_, if_pos g4_]
      match h_ with
      | [] => rfl
      | [_] => rfl
      | [_, _] => rfl
      | x_ :: y_ :: z_ :: h_ =>
        by_cases e_ : y_ = x_
        · rw [show p_ch q_ (x_ :: y_ :: z_ :: h_) (l_ ++ c_) = .inr (y_ :: h_, 7 :: (l_ ++ c_)) from if_pos e_, show p_ch q_ (x_ :: y_ :: z_ :: h_) l_ = .inr (y_ :: h_, 7 :: l_) from if_pos e_]
          exact sa_ac o_ _ (7 :: l_)
        · rw [show p_ch q_ (x_ :: y_ :: z_ :: h_) (l_ ++ c_) = .inl (13, q_) from if_neg e_, show p_ch q_ (x_ :: y_ :: z_ :: h_) l_ = .inl (13, q_) from if_neg e_]
          rfl
    · rw [if_neg g4_, if_neg g4_]
      by_cases g1_ : 1 ≤ k_
      · rw [if_pos g1_, if_pos g1_]
        match h_ with
        | [] => rfl
        | [_] => rfl
        | y_ :: x_ :: h_ =>
          show pb (p_ap false k_ q_ x_ y_ (l_ ++ c_)) (fun r_ => p_sa false o_ (r_.1 :: h_) r_.2) = pm (aO c_) (pb (p_ap false k_ q_ x_ y_ l_) (fun r_ => p_sa false o_ (r_.1 :: h_) r_.2))
          rw [ap_f, ap_f]
          by_cases e_ : x_ = y_
          · rw [if_pos e_, if_pos e_]
            exact sa_ac o_ _ (k_ :: l_)
          · rw [if_neg e_, if_neg e_]
            rfl
      · rw [if_neg g1_, if_neg g1_]
        rfl
theorem ti_ac {t_ : Bool} {h_ l_ c_ : List Int} : p_ti false t_ h_ (l_ ++ c_) = ((p_ti false t_ h_ l_).1, (p_ti false t_ h_ l_).2 ++ c_) := by
  cases t_ <;> rfl
theorem B3_ac {b_ : Nat → Int} {n_ p_ : Nat} {c_ : List Int} {s_ : pO} : p_B3 b_ n_ false p_ (aO c_ s_) = pm (aS c_) (p_B3 b_ n_ false p_ s_) := by
  obtain ⟨o_, h_, l_⟩ := s_
  cases o_ with
  | nil => rfl
  | cons x_ o_ =>
    obtain ⟨k_, q_⟩ := x_
    by_cases k3_ : k_ = -3
    · subst k3_
      show p_B3 b_ n_ false p_ ((-3, q_) :: o_, h_, l_ ++ c_) = pm (aS c_) (p_B3 b_ n_ false p_ ((-3, q_) :: o_, h_, l_))
      rw [b3_q, b3_q, pm_b]
      rfl
    · show p_B3 b_ n_ false p_ ((k_, q_) :: o_, h_, l_ ++ c_) = pm (aS c_) (p_B3 b_ n_ false p_ ((k_, q_) :: o_, h_, l_))
      rw [b3_c k3_, b3_c k3_, pm_b, ti_ac]
      rfl
theorem B2_ac {b_ : Nat → Int} {n_ p_ : Nat} {c_ : List Int} {s_ : pO} : p_B2 b_ n_ false p_ (aO c_ s_) = pm (aS c_) (p_B2 b_ n_ false p_ s_) := by
  obtain ⟨o_, h_, l_⟩ := s_
  unfold p_B2
  by_cases k_ : lx_kd b_ n_ p_ = 63
  · rw [if_pos ⟨rfl, k_⟩, if_pos ⟨rfl, k_⟩]
    show pb (p_se false 1 o_ h_ (l_ ++ c_)) _ = pm (aS c_) (pb (p_se false 1 o_ h_ l_) _)
    rw [se_ac]
    cases p_se false 1 o_ h_ l_ with
    | inl e_ => rfl
    | inr s_ =>
      show (if o_mk s_.1 = 60 then (.inl (3, p_) : pE (pX ⊕ pR)) else _) = pm (aS c_) (if o_mk s_.1 = 60 then .inl (3, p_) else _)
      by_cases z1_ : o_mk s_.1 = 60
      · rw [if_pos z1_, if_pos z1_]; rfl
      · rw [if_neg z1_, if_neg z1_]
        show (if h_tp s_.2.1 ≠ 1 then (.inl (13, p_) : pE (pX ⊕ pR)) else _) = pm (aS c_) (if h_tp s_.2.1 ≠ 1 then .inl (13, p_) else _)
        by_cases z2_ : h_tp s_.2.1 ≠ 1
        · rw [if_pos z2_, if_pos z2_]; rfl
        · rw [if_neg z2_, if_neg z2_, pm_b]; rfl
  · rw [if_neg (fun z_ => k_ z_.2), if_neg (fun z_ => k_ z_.2)]
    show pb (p_sa false o_ h_ (l_ ++ c_)) _ = pm (aS c_) (pb (p_sa false o_ h_ l_) _)
    rw [sa_ac]
    cases p_sa false o_ h_ l_ with
    | inl e_ => rfl
    | inr s_ => exact B3_ac
theorem B1_ac {b_ : Nat → Int} {n_ p_ : Nat} {L_ : Int} {c_ : List Int} {s_ : pO} : p_B1 b_ n_ false p_ L_ (aO c_ s_) = pm (aS c_) (p_B1 b_ n_ false p_ L_ s_) := by
  unfold p_B1
  show (if 0 < L_ ∧ (L_ ≠ 4 ∨ o_tp s_.1 ≠ 4) then _ else _) = pm (aS c_) (if 0 < L_ ∧ (L_ ≠ 4 ∨ o_tp s_.1 ≠ 4) then _ else _)
  by_cases g_ : 0 < L_ ∧ (L_ ≠ 4 ∨ o_tp s_.1 ≠ 4)
  · rw [if_pos g_, if_pos g_, pm_b]; rfl
  · rw [if_neg g_, if_neg g_]; exact B2_ac
theorem st_ac {b_ : Nat → Int} {n_ : Nat} {pr_ : pPr} {c_ : List Int} {x_ : pX} : p_st b_ n_ false pr_ (aX c_ x_) = pm (aS c_) (p_st b_ n_ false pr_ x_) := by
  obtain ⟨ph_, t_, p_, o_, h_, l_⟩ := x_
  unfold p_st
  show (if ph_ = 0 then p_sA b_ n_ false pr_ t_ p_ o_ h_ (l_ ++ c_) else p_sB b_ n_ false p_ o_ h_ (l_ ++ c_)) = pm (aS c_) (if ph_ = 0 then p_sA b_ n_ false pr_ t_ p_ o_ h_ l_ else p_sB b_ n_ false p_ o_ h_ l_)
  by_cases z_ : ph_ = 0
  · rw [if_pos z_, if_pos z_]
    unfold p_sA
    by_cases k1_ : lx_kd b_ n_ p_ = 33
    · rw [if_pos k1_, if_pos k1_, pm_b]; rfl
    · rw [if_neg k1_, if_neg k1_]
      by_cases k2_ : lx_kd b_ n_ p_ = 40
      · rw [if_pos k2_, if_pos k2_]
        by_cases k3_ : o_mk o_ = 60
        · rw [if_pos k3_, if_pos k3_]; rfl
        · rw [if_neg k3_, if_neg k3_, pm_b]; rfl
      · rw [if_neg k2_, if_neg k2_, pm_b]
        cases pr_ p_ with
        | inl e_ => rfl
        | inr r_ =>
          show (.inr (.inl (1, false, r_.1, o_, (p_ti false t_ (r_.2.1 :: h_) (r_.2.2 ++ (l_ ++ c_))).1, (p_ti false t_ (r_.2.1 :: h_) (r_.2.2 ++ (l_ ++ c_))).2)) : pE (pX ⊕ pR)) = _
          rw [← List.append_assoc, ti_ac]
          rfl
  · rw [if_neg z_, if_neg z_]
    unfold p_sB
    by_cases k1_ : 0 < p_lv false (lx_kd b_ n_ p_)
    · rw [if_pos k1_, if_pos k1_, se_ac]
      cases p_se false (if p_lv false (lx_kd b_ n_ p_) = 4 then 5 else p_lv false (lx_kd b_ n_ p_)) o_ h_ l_ with
      | inl e_ => rfl
      | inr s_ => exact B1_ac
    · rw [if_neg k1_, if_neg k1_]
      exact B2_ac (s_ := (o_, h_, l_))
theorem xr_ac {b_ : Nat → Int} {n_ : Nat} {pr_ : pPr} {c_ : List Int} : ∀ (f_ : Nat) (x_ : pX), p_xr b_ n_ false pr_ f_ (aX c_ x_) = (p_xr b_ n_ false pr_ f_ x_).map (pm (aR c_))
  | 0, x_ => rfl
  | f_ + 1, x_ => by
    rw [p_xr, p_xr, st_ac]
    cases p_st b_ n_ false pr_ x_ with
    | inl e_ => rfl
    | inr z_ =>
      cases z_ with
      | inl y_ => exact xr_ac f_ y_
      | inr r_ => rfl
theorem ex_ac {b_ : Nat → Int} {n_ p_ : Nat} {pr_ : pPr} {c_ : List Int} {r_ : pR} (h_ : p_ex b_ n_ false pr_ c_ p_ = .inr r_) : ∃ k_, p_ex b_ n_ false pr_ [] p_ = .inr (r_.1, r_.2.1, k_) ∧ r_.2.2 = k_ ++ c_ := by
  unfold p_ex at h_ ⊢
  have q_ := xr_ac (b_ := b_) (n_ := n_) (pr_ := pr_) (c_ := c_) (n_ + 1) (0, false, p_, [], [], [])
  rw [show aX c_ (0, false, p_, [], [], []) = (0, false, p_, [], [], c_) from rfl] at q_
  rw [q_] at h_
  cases e_ : p_xr b_ n_ false pr_ (n_ + 1) (0, false, p_, [], [], []) with
  | none => rw [e_] at h_; cases h_
  | some y_ =>
    rw [e_] at h_
    cases y_ with
    | inl z_ => cases h_
    | inr s_ =>
      have h_ : (.inr (aR c_ s_) : pE pR) = .inr r_ := h_
      cases h_
      exact ⟨s_.2.2, rfl, rfl⟩
end
/-! 99.zd2a -/
section
/-! the reference: items, small steps; written by wip/p55/gen/vg -/

/-! items, second pass: small steps -/
/-- the_ beginning and the_ next values fit_ the_ registers made and the_ graph -/
def rnS (S_ : sm_S) : Prop := (0 ≤ S_.1 13 0 52 ∧ S_.1 13 0 52 < 2 ^ (S_.1 13 0 53).toNat) ∧ ∀ k_ : Nat, (k_ : Int) < S_.1 13 0 53 → 0 ≤ S_.2.2.1 151 0 k_ ∧ S_.2.2.1 151 0 k_ < 2 * S_.1 13 0 37
theorem rnS_up {S_ S'_ : sm_S} (h_ : rnS S_) (e1_ : S'_.1 13 0 52 = S_.1 13 0 52) (e2_ : S'_.1 13 0 53 = S_.1 13 0 53) (e3_ : S'_.2.2.1 151 0 = S_.2.2.1 151 0) (e4_ : S_.1 13 0 37 ≤ S'_.1 13 0 37) : rnS S'_ := by
  unfold rnS
  rw [e1_, e2_, e3_]
  refine ⟨h_.1, fun k_ hk_ => ?_⟩
  have := h_.2 k_ hk_
  omega
theorem rnS_fr {w_ : sx_Wl} {S_ S'_ : sm_S} (h_ : rnS S_) (g_ : ai_fr (sx_W w_) S_ S'_) (h1_ : (sx_W w_).1 13 52 = false) (h2_ : (sx_W w_).1 13 53 = false) (h3_ : (sx_W w_).1 13 37 = false) (h4_ : (sx_W w_).2.1 151 = false) : rnS S'_ := rnS_up h_ (g_.1 13 0 52 h1_) (g_.1 13 0 53 h2_) (fr_arr g_ h4_) (by rw [g_.1 13 0 37 h3_]; exact Int.le_refl _)
theorem rgl_n {F_ : Nat} {G_ : pGr} {S_ : sm_S} (h_ : rgl F_ G_ S_) (hl_ : G_.length ≤ 1001) : S_.1 13 0 37 = ((F_ + G_.length : Nat) : Int) := by
  obtain ⟨G1_, x_, y_⟩ := h_
  rcases y_ with y_ | y_
  · rw [← y_.2]; exact x_.2.2.1
  · omega
theorem ev_w {F_ I_ : Nat} {A_ : pA} {X_ : Nat → gQ → gE → Option (gQ × gE)} {m_ : Nat} {s_ r_ : gS} {c_ : List Int} (hX_ : lwX F_ I_ X_) (h_ : ev F_ I_ A_ X_ m_ s_ c_ = some r_) (hl_ : F_ + r_.1.1.length ≤ 1023) (hR_ : 1 + I_ + r_.1.2.1 ≤ F_) (hs_ : lwS F_ s_) : lwS F_ r_ := ec_w hX_ _ _ _ h_ hl_ hR_ hs_
theorem ev_R {F_ I_ : Nat} {A_ : pA} {X_ : Nat → gQ → gE → Option (gQ × gE)} {m_ : Nat} {s_ r_ : gS} {c_ : List Int} (hX_ : lwX F_ I_ X_) (h_ : ev F_ I_ A_ X_ m_ s_ c_ = some r_) : s_.1.2.1 ≤ r_.1.2.1 := ec_R hX_ _ _ _ h_
def nxs (b_ : Nat → Int) (n_ : Nat) (s_ : Int) : Nat → Nat → Nat → Prop
  | 0, p_, u_ => p_ = u_ ∧ lx_kd b_ n_ p_ = s_
  | f_ + 1, p_, u_ => lx_kd b_ n_ p_ ≠ s_ ∧ lx_kd b_ n_ p_ ≠ 0 ∧ ∃ q_, p_ad b_ n_ p_ = .inr q_ ∧ nxs b_ n_ s_ f_ q_ u_
theorem ad_r {b_ : Nat → Int} {n_ p_ q_ : Nat} (h_ : p_ad b_ n_ p_ = .inr q_) : q_ = lx_nx b_ n_ p_ ∧ lx_kd b_ n_ q_ ≠ -1 := by
  unfold p_ad at h_
  split at h_
  · cases h_
  · rename_i g_
    cases h_
    exact ⟨rfl, g_⟩
theorem rg_pp {b_ : Nat → Int} {n_ T_ p_ q_ : Nat} {S_ : sm_S} {x_ : Int} (ht_ : rtab b_ n_ T_ S_) (hg_ : rg b_ n_ T_ (.inr p_) S_) (hk_ : lx_kd b_ n_ p_ ≠ 0) (ha_ : p_ad b_ n_ p_ = .inr q_) (hx_ : x_ = S_.1 13 0 9 + 1) : rg b_ n_ T_ (.inr q_) (sm_pI S_ 13 0 9 x_) ∧ S_.1 13 0 9 + 1 ≤ (T_ : Int) := by
  obtain ⟨hf_, i_, h1_, h2_⟩ := hg_
  obtain ⟨a1_, a2_⟩ := ad_r ha_
  obtain ⟨r1_, r2_, r3_, r4_⟩ := rp_nx ht_ h2_ hk_
  rw [← a1_] at r4_
  refine ⟨⟨hf_, i_ + 1, ?_, r4_ a2_⟩, by omega⟩
  rw [rf_eq, hx_, h1_]
  push_cast
  rfl
/-! M_.behindSign -/
def vw_343 : sx_Wl := ([(13, 9)], [], [])
def vq_343 (s_ : Int) (b_ : Nat → Int) (n_ : Nat) (T_ : Nat) (p_ : Nat) (uu_ : Nat) (f_ : Nat) (q_ : Nat) (S0_ : sm_S) (u_ : Option sm_V) (S1_ : sm_S) : Prop := u_ = none ∧ gi S1_ ∧ ai_fr (sx_W vw_343) S0_ S1_ ∧ (rg b_ n_ T_ (.inr q_) S1_)
set_option maxHeartbeats 400000 in
theorem vl_343 {sc_ : Nat × (Nat → Int)} (s_ : Int) (b_ : Nat → Int) (n_ : Nat) (T_ : Nat) (p_ : Nat) (uu_ : Nat) (f_ : Nat) (q_ : Nat) (S0_ : sm_S) (ht_ : rtab b_ n_ T_ S0_) (hx_ : rg b_ n_ T_ (.inr p_) S0_) (hn_ : nxs b_ n_ s_ f_ p_ uu_) (hq_ : p_ad b_ n_ uu_ = .inr q_) (hs_ : 33 ≤ s_ ∧ s_ ≤ 300) : ∀ nn_ : Nat, (∀  (S_ : sm_S), gi S_ → ai_fr (sx_W vw_343) S0_ S_ → ((∃ p1_ f1_, rg b_ n_ T_ (.inr p1_) S_ ∧ nxs b_ n_ s_ f1_ p1_ uu_) ∧ True) → (((T_ : Int) - (S_.1 13 0 9)).toNat) < nn_ → sm_T (mt_P sc_) 1 343 (0, [some (.inr (.inr (some (13, 0)))), some (.inl s_)], [], S_) (fun ro9_ => ∃ u_ S1_, ro9_ = (.inl u_, S1_, 0) ∧ vq_343 s_ b_ n_ T_ p_ uu_ f_ q_ S0_ u_ S1_)) := by
  intro nn_
  induction nn_ with
  | zero => exact fun  _ _ _ _ h_ => absurd h_ (Nat.not_lt_zero _)
  | succ nn_ ih_ =>
    rintro  S_ hI_ hF_ ⟨h1_, -⟩ hm_
    obtain ⟨p1_, f1_, z1_, z2_⟩ := h1_
    have ht1_ := rtab_fr ht_ hF_ rfl rfl rfl rfl rfl
    have hT_ := ht_.2.1
    refine sm_T_go 2 (c1 := (2, [some (.inr (.inr (some (13, 0)))), some (.inl s_)], [.inl s_, .inr (.inr (some (13, 0)))], S_)) rfl ?_
    refine sm_T_cal (d1 := 0) (Q1 := vq_295 s_ b_ n_ T_ (.inr p1_) S_) rfl rfl (by decide) (vc_295 s_ b_ n_ T_ (.inr p1_) S_ hI_ (by exact ht1_) (by exact z1_) (by omega)) (fun u_ Sx1_ px4_ => ?_)
    obtain ⟨rfl, vx6_, rfl, px4_⟩ := px4_
    have e2_ := px4_.2 p1_ rfl
    have r2_ := px4_.1.1
    refine sm_T_b0 (a := 1) (z := 16) rfl (fun cx7_ => ?_) (fun cx7_ => ?_)
    · have cx7_ : vx6_ ≠ 0 := of_decide_eq_true cx7_
      have k1_ : lx_kd b_ n_ p1_ = s_ := e2_.mp (by omega)
      have pu_ : p1_ = uu_ := by cases f1_ with | zero => exact z2_.1 | succ f1_ => exact absurd k1_ z2_.1
      subst pu_
      have rp := rg_pp (x_ := S_.1 13 0 9 + 1) ht1_ z1_ (by omega) hq_ rfl
      have rp2_ := rp.2
      have bx8_ : 0 ≤ S_.1 13 0 9 ∧ S_.1 13 0 9 ≤ 1280 := hI_.1 13 0 9 rfl
      refine sm_T_go 4 (c1 := (27, [some (.inr (.inr (some (13, 0)))), some (.inl s_)], [.inl 1, .inl (S_.1 13 0 9), .inr (.inr (some (13, 0)))], S_)) rfl ?_
      refine sm_T_bin (w := (S_.1 13 0 9) + 1) rfl (bi_add (by omega) (by omega) (by omega)) ?_
      have hIx9_ : gi (sm_pI S_ 13 0 9 ((S_.1 13 0 9) + 1)) := gi_pI hI_ (show 0 ≤ (S_.1 13 0 9) + 1 ∧ (S_.1 13 0 9) + 1 ≤ 1280 from ⟨by omega, by omega⟩)
      have hFx10_ : ai_fr (sx_W vw_343) S0_ (sm_pI S_ 13 0 9 ((S_.1 13 0 9) + 1)) := ai_fr_tr hF_ (ai_fr_pI rfl)
      refine sm_T_go 1 (c1 := (31, [some (.inr (.inr (some (13, 0)))), some (.inl s_)], [], sm_pI S_ 13 0 9 ((S_.1 13 0 9) + 1))) rfl ?_
      refine sm_T_rv rfl ⟨_, _, rfl, rfl, hIx9_, hFx10_, ?_⟩
      exact rp.1
    · have cx7_ : ¬ (vx6_ ≠ 0) := of_decide_eq_false cx7_
      have k1_ : lx_kd b_ n_ p1_ ≠ s_ := fun z_ => by have := e2_.mpr z_; omega
      obtain ⟨f2_, q2_, k2_, k3_, k4_⟩ : ∃ f2_ q2_, lx_kd b_ n_ p1_ ≠ 0 ∧ p_ad b_ n_ p1_ = .inr q2_ ∧ nxs b_ n_ s_ f2_ q2_ uu_ := by cases f1_ with | zero => exact absurd z2_.2 k1_ | succ f1_ => (obtain ⟨w1_, w2_, q9_, w3_, w4_⟩ := z2_; exact ⟨f1_, q9_, w2_, w3_, w4_⟩)
      have rp := rg_pp (x_ := S_.1 13 0 9 + 1) ht1_ z1_ k2_ k3_ rfl
      have rp2_ := rp.2
      have bx11_ : 0 ≤ S_.1 13 0 9 ∧ S_.1 13 0 9 ≤ 1280 := hI_.1 13 0 9 rfl
      refine sm_T_go 4 (c1 := (14, [some (.inr (.inr (some (13, 0)))), some (.inl s_)], [.inl 1, .inl (S_.1 13 0 9), .inr (.inr (some (13, 0)))], S_)) rfl ?_
      refine sm_T_bin (w := (S_.1 13 0 9) + 1) rfl (bi_add (by omega) (by omega) (by omega)) ?_
      have hIx12_ : gi (sm_pI S_ 13 0 9 ((S_.1 13 0 9) + 1)) := gi_pI hI_ (show 0 ≤ (S_.1 13 0 9) + 1 ∧ (S_.1 13 0 9) + 1 ≤ 1280 from ⟨by omega, by omega⟩)
      have hFx13_ : ai_fr (sx_W vw_343) S0_ (sm_pI S_ 13 0 9 ((S_.1 13 0 9) + 1)) := ai_fr_tr hF_ (ai_fr_pI rfl)
      refine sm_T_go 2 (c1 := (0, [some (.inr (.inr (some (13, 0)))), some (.inl s_)], [], sm_pI S_ 13 0 9 ((S_.1 13 0 9) + 1))) rfl ?_
      refine ih_  (sm_pI S_ 13 0 9 ((S_.1 13 0 9) + 1)) hIx12_ hFx13_ ⟨?_, trivial⟩ ?_
      · exact ⟨q2_, f2_, rp.1, k4_⟩
      · (try simp only [rd_eq, rd_ne, rf_eq, rf_nk, rf_nt, rd_fa, rd_af, rd_fl, rd_al, rd_lf, rd_la, rd_leq, rd_lne, rd_fr, rd_ar, ne_eq, Nat.reduceEqDiff, not_false_eq_true]); omega
set_option maxHeartbeats 400000 in
theorem vc_343 {sc_ : Nat × (Nat → Int)} (s_ : Int) (b_ : Nat → Int) (n_ : Nat) (T_ : Nat) (p_ : Nat) (uu_ : Nat) (f_ : Nat) (q_ : Nat) (S0_ : sm_S) (hI_ : gi S0_) (ht_ : rtab b_ n_ T_ S0_) (hx_ : rg b_ n_ T_ (.inr p_) S0_) (hn_ : nxs b_ n_ s_ f_ p_ uu_) (hq_ : p_ad b_ n_ uu_ = .inr q_) (hs_ : 33 ≤ s_ ∧ s_ ≤ 300) : sm_T (mt_P sc_) 1 343 (0, [some (.inr (.inr (some (13, 0)))), some (.inl s_)], [], S0_) (fun ro9_ => ∃ u_ S1_, ro9_ = (.inl u_, S1_, 0) ∧ vq_343 s_ b_ n_ T_ p_ uu_ f_ q_ S0_ u_ S1_) := by
  have hF_ : ai_fr (sx_W vw_343) S0_ S0_ := ai_fr_rf
  refine (vl_343 s_ b_ n_ T_ p_ uu_ f_ q_ S0_ ht_ hx_ hn_ hq_ hs_ _)  S0_ hI_ hF_ ⟨?_, trivial⟩ (Nat.lt_succ_self _)
  · exact ⟨p_, f_, hx_, hn_⟩
end
/-! 99.zd2b -/
section
/-! M_.enter -/
def vw_341 : sx_Wl := ([(13, 9), (13, 28)], [146, 147, 148, 149], [])
def vq_341 (m_ : Int) (t_ : Int) (nm_ : Int) (fr_ : Nat) (S0_ : sm_S) (u_ : Option sm_V) (S1_ : sm_S) : Prop := u_ = none ∧ gi S1_ ∧ ai_fr (sx_W vw_341) S0_ S1_ ∧ ((∀ j_, S1_.2.2.1 146 0 j_ = if j_ = fr_ then m_ else S0_.2.2.1 146 0 j_) ∧ (∀ j_, S1_.2.2.1 147 0 j_ = if j_ = fr_ then t_ else S0_.2.2.1 147 0 j_) ∧ (∀ j_, S1_.2.2.1 148 0 j_ = if j_ = fr_ then nm_ else S0_.2.2.1 148 0 j_) ∧ (∀ j_, S1_.2.2.1 149 0 j_ = if j_ = fr_ then 0 else S0_.2.2.1 149 0 j_) ∧ (S1_.1 13 0 28) = m_ ∧ (S1_.1 13 0 9) = S0_.2.2.1 125 0 m_.toNat)
set_option maxHeartbeats 400000 in
theorem vc_341 {sc_ : Nat × (Nat → Int)} (m_ : Int) (t_ : Int) (nm_ : Int) (fr_ : Nat) (S0_ : sm_S) (hI_ : gi S0_) (hf_ : (S0_.1 13 0 29) = (fr_ : Int) ∧ fr_ ≤ 15) (hm1_ : 0 ≤ m_ ∧ m_ ≤ 15) (ht1_ : 0 ≤ t_ ∧ t_ ≤ 1280) (hn1_ : 0 ≤ nm_ ∧ nm_ ≤ 39) : sm_T (mt_P sc_) 0 341 (0, [some (.inr (.inr (some (13, 0)))), some (.inl m_), some (.inl t_), some (.inl nm_)], [], S0_) (fun ro9_ => ∃ u_ S1_, ro9_ = (.inl u_, S1_, 0) ∧ vq_341 m_ t_ nm_ fr_ S0_ u_ S1_) := by
  have hF_ : ai_fr (sx_W vw_341) S0_ S0_ := ai_fr_rf
  have bx1_ : 0 ≤ S0_.1 13 0 29 ∧ S0_.1 13 0 29 ≤ 16 := hI_.1 13 0 29 rfl
  refine sm_T_go 5 (c1 := (9, [some (.inr (.inr (some (13, 0)))), some (.inl m_), some (.inl t_), some (.inl nm_)], [.inl m_, .inl (S0_.1 13 0 29), .inr (.inr (some (146, 0)))], S0_)) rfl ?_
  refine sm_T_iast (n := 16) rfl rfl (by omega) (by omega) ?_
  have hIx2_ : gi (sm_aI S0_ 146 0 (S0_.1 13 0 29).toNat m_) := gi_aI hI_ (show 0 ≤ m_ ∧ m_ ≤ 15 from ⟨by omega, by omega⟩)
  have hFx3_ : ai_fr (sx_W vw_341) S0_ (sm_aI S0_ 146 0 (S0_.1 13 0 29).toNat m_) := ai_fr_tr hF_ (ai_fr_aI rfl)
  refine sm_T_go 5 (c1 := (19, [some (.inr (.inr (some (13, 0)))), some (.inl m_), some (.inl t_), some (.inl nm_)], [.inl t_, .inl (S0_.1 13 0 29), .inr (.inr (some (147, 0)))], sm_aI S0_ 146 0 (S0_.1 13 0 29).toNat m_)) rfl ?_
  refine sm_T_iast (n := 16) rfl rfl (by omega) (by omega) ?_
  have hIx4_ : gi (sm_aI (sm_aI S0_ 146 0 (S0_.1 13 0 29).toNat m_) 147 0 (S0_.1 13 0 29).toNat t_) := gi_aI hIx2_ (show 0 ≤ t_ ∧ t_ ≤ 1280 from ⟨by omega, by omega⟩)
  have hFx5_ : ai_fr (sx_W vw_341) S0_ (sm_aI (sm_aI S0_ 146 0 (S0_.1 13 0 29).toNat m_) 147 0 (S0_.1 13 0 29).toNat t_) := ai_fr_tr hFx3_ (ai_fr_aI rfl)
  refine sm_T_go 5 (c1 := (29, [some (.inr (.inr (some (13, 0)))), some (.inl m_), some (.inl t_), some (.inl nm_)], [.inl nm_, .inl (S0_.1 13 0 29), .inr (.inr (some (148, 0)))], sm_aI (sm_aI S0_ 146 0 (S0_.1 13 0 29).toNat m_) 147 0 (S0_.1 13 0 29).toNat t_)) rfl ?_
  refine sm_T_iast (n := 16) rfl rfl (by omega) (by omega) ?_
  have hIx6_ : gi (sm_aI (sm_aI (sm_aI S0_ 146 0 (S0_.1 13 0 29).toNat m_) 147 0 (S0_.1 13 0 29).toNat t_) 148 0 (S0_.1 13 0 29).toNat nm_) := gi_aI hIx4_ (show 0 ≤ nm_ ∧ nm_ ≤ 639 from ⟨by omega, by omega⟩)
  have hFx7_ : ai_fr (sx_W vw_341) S0_ (sm_aI (sm_aI (sm_aI S0_ 146 0 (S0_.1 13 0 29).toNat m_) 147 0 (S0_.1 13 0 29).toNat t_) 148 0 (S0_.1 13 0 29).toNat nm_) := ai_fr_tr hFx5_ (ai_fr_aI rfl)
  refine sm_T_go 5 (c1 := (39, [some (.inr (.inr (some (13, 0)))), some (.inl m_), some (.inl t_), some (.inl nm_)], [.inl 0, .inl (S0_.1 13 0 29), .inr (.inr (some (149, 0)))], sm_aI (sm_aI (sm_aI S0_ 146 0 (S0_.1 13 0 29).toNat m_) 147 0 (S0_.1 13 0 29).toNat t_) 148 0 (S0_.1 13 0 29).toNat nm_)) rfl ?_
  refine sm_T_iast (n := 16) rfl rfl (by omega) (by omega) ?_
  have hIx8_ : gi (sm_aI (sm_aI (sm_aI (sm_aI S0_ 146 0 (S0_.1 13 0 29).toNat m_) 147 0 (S0_.1 13 0 29).toNat t_) 148 0 (S0_.1 13 0 29).toNat nm_) 149 0 (S0_.1 13 0 29).toNat 0) := gi_aI hIx6_ (show 0 ≤ 0 ∧ 0 ≤ 40 from ⟨by omega, by omega⟩)
  have hFx9_ : ai_fr (sx_W vw_341) S0_ (sm_aI (sm_aI (sm_aI (sm_aI S0_ 146 0 (S0_.1 13 0 29).toNat m_) 147 0 (S0_.1 13 0 29).toNat t_) 148 0 (S0_.1 13 0 29).toNat nm_) 149 0 (S0_.1 13 0 29).toNat 0) := ai_fr_tr hFx7_ (ai_fr_aI rfl)
  have hIx10_ : gi (sm_pI (sm_aI (sm_aI (sm_aI (sm_aI S0_ 146 0 (S0_.1 13 0 29).toNat m_) 147 0 (S0_.1 13 0 29).toNat t_) 148 0 (S0_.1 13 0 29).toNat nm_) 149 0 (S0_.1 13 0 29).toNat 0) 13 0 28 m_) := gi_pI hIx8_ (show 0 ≤ m_ ∧ m_ ≤ 15 from ⟨by omega, by omega⟩)
  have hFx11_ : ai_fr (sx_W vw_341) S0_ (sm_pI (sm_aI (sm_aI (sm_aI (sm_aI S0_ 146 0 (S0_.1 13 0 29).toNat m_) 147 0 (S0_.1 13 0 29).toNat t_) 148 0 (S0_.1 13 0 29).toNat nm_) 149 0 (S0_.1 13 0 29).toNat 0) 13 0 28 m_) := ai_fr_tr hFx9_ (ai_fr_pI rfl)
  refine sm_T_go 7 (c1 := (51, [some (.inr (.inr (some (13, 0)))), some (.inl m_), some (.inl t_), some (.inl nm_)], [.inl m_, .inr (.inr (some (125, 0))), .inr (.inr (some (13, 0)))], sm_pI (sm_aI (sm_aI (sm_aI (sm_aI S0_ 146 0 (S0_.1 13 0 29).toNat m_) 147 0 (S0_.1 13 0 29).toNat t_) 148 0 (S0_.1 13 0 29).toNat nm_) 149 0 (S0_.1 13 0 29).toNat 0) 13 0 28 m_)) rfl ?_
  refine sm_T_iald (n := 16) rfl rfl (by omega) (by omega) ?_
  have bx12_ : 0 ≤ S0_.2.2.1 125 0 m_.toNat ∧ S0_.2.2.1 125 0 m_.toNat ≤ 1280 := hI_.2 125 0 _
  have hIx13_ : gi (sm_pI (sm_pI (sm_aI (sm_aI (sm_aI (sm_aI S0_ 146 0 (S0_.1 13 0 29).toNat m_) 147 0 (S0_.1 13 0 29).toNat t_) 148 0 (S0_.1 13 0 29).toNat nm_) 149 0 (S0_.1 13 0 29).toNat 0) 13 0 28 m_) 13 0 9 (S0_.2.2.1 125 0 m_.toNat)) := gi_pI hIx10_ (show 0 ≤ (S0_.2.2.1 125 0 m_.toNat) ∧ (S0_.2.2.1 125 0 m_.toNat) ≤ 1280 from ⟨by omega, by omega⟩)
  have hFx14_ : ai_fr (sx_W vw_341) S0_ (sm_pI (sm_pI (sm_aI (sm_aI (sm_aI (sm_aI S0_ 146 0 (S0_.1 13 0 29).toNat m_) 147 0 (S0_.1 13 0 29).toNat t_) 148 0 (S0_.1 13 0 29).toNat nm_) 149 0 (S0_.1 13 0 29).toNat 0) 13 0 28 m_) 13 0 9 (S0_.2.2.1 125 0 m_.toNat)) := ai_fr_tr hFx11_ (ai_fr_pI rfl)
  refine sm_T_go 1 (c1 := (55, [some (.inr (.inr (some (13, 0)))), some (.inl m_), some (.inl t_), some (.inl nm_)], [], sm_pI (sm_pI (sm_aI (sm_aI (sm_aI (sm_aI S0_ 146 0 (S0_.1 13 0 29).toNat m_) 147 0 (S0_.1 13 0 29).toNat t_) 148 0 (S0_.1 13 0 29).toNat nm_) 149 0 (S0_.1 13 0 29).toNat 0) 13 0 28 m_) 13 0 9 (S0_.2.2.1 125 0 m_.toNat))) rfl ?_
  refine sm_T_rv rfl ⟨_, _, rfl, rfl, hIx13_, hFx14_, ?_⟩
  have e9_ : (S0_.1 13 0 29).toNat = fr_ := by omega
  refine ⟨fun j_ => ?_, fun j_ => ?_, fun j_ => ?_, fun j_ => ?_, ?_, ?_⟩
  · (try simp only [rd_eq, rd_ne, rf_eq, rf_nk, rf_nt, rd_fa, rd_af, rd_fl, rd_al, rd_lf, rd_la, rd_leq, rd_lne, rd_fr, rd_ar, ne_eq, Nat.reduceEqDiff, not_false_eq_true]); rw [e9_]
  · (try simp only [rd_eq, rd_ne, rf_eq, rf_nk, rf_nt, rd_fa, rd_af, rd_fl, rd_al, rd_lf, rd_la, rd_leq, rd_lne, rd_fr, rd_ar, ne_eq, Nat.reduceEqDiff, not_false_eq_true]); rw [e9_]
  · (try simp only [rd_eq, rd_ne, rf_eq, rf_nk, rf_nt, rd_fa, rd_af, rd_fl, rd_al, rd_lf, rd_la, rd_leq, rd_lne, rd_fr, rd_ar, ne_eq, Nat.reduceEqDiff, not_false_eq_true]); rw [e9_]
  · (try simp only [rd_eq, rd_ne, rf_eq, rf_nk, rf_nt, rd_fa, rd_af, rd_fl, rd_al, rd_lf, rd_la, rd_leq, rd_lne, rd_fr, rd_ar, ne_eq, Nat.reduceEqDiff, not_false_eq_true]); rw [e9_]
  · (try simp only [rd_eq, rd_ne, rf_eq, rf_nk, rf_nt, rd_fa, rd_af, rd_fl, rd_al, rd_lf, rd_la, rd_leq, rd_lne, rd_fr, rd_ar, ne_eq, Nat.reduceEqDiff, not_false_eq_true])
  · (try simp only [rd_eq, rd_ne, rf_eq, rf_nk, rf_nt, rd_fa, rd_af, rd_fl, rd_al, rd_lf, rd_la, rd_leq, rd_lne, rd_fr, rd_ar, ne_eq, Nat.reduceEqDiff, not_false_eq_true])
end
/-! 99.zd2c -/
section
/-! M_.keepValue -/
def vw_342 : sx_Wl := ([], [144], [])
def vq_342 (nm_ : Int) (fr_ : Nat) (S0_ : sm_S) (u_ : Option sm_V) (S1_ : sm_S) : Prop := u_ = none ∧ gi S1_ ∧ ai_fr (sx_W vw_342) S0_ S1_ ∧ ((∀ j_, j_ < 8 → S1_.2.2.1 144 0 (8 * (40 * fr_ + nm_.toNat) + j_) = S0_.2.2.1 139 0 j_) ∧ ∀ j_, j_ < 8 * (40 * fr_ + nm_.toNat) ∨ 8 * (40 * fr_ + nm_.toNat) + 8 ≤ j_ → S1_.2.2.1 144 0 j_ = S0_.2.2.1 144 0 j_)
set_option maxHeartbeats 400000 in
theorem vl_342 {sc_ : Nat × (Nat → Int)} (nm_ : Int) (fr_ : Nat) (S0_ : sm_S) (hf_ : (S0_.1 13 0 29) = (fr_ : Int) ∧ fr_ ≤ 15) (hn1_ : 0 ≤ nm_ ∧ nm_ ≤ 39) : ∀ nn_ : Nat, (∀ (k_ : Int) (S_ : sm_S), gi S_ → ai_fr (sx_W vw_342) S0_ S_ → ((0 ≤ k_ ∧ k_ ≤ 8) ∧ (∀ j_, j_ < k_.toNat → S_.2.2.1 144 0 (8 * (40 * fr_ + nm_.toNat) + j_) = S0_.2.2.1 139 0 j_) ∧ (∀ j_, j_ < 8 * (40 * fr_ + nm_.toNat) ∨ 8 * (40 * fr_ + nm_.toNat) + 8 ≤ j_ → S_.2.2.1 144 0 j_ = S0_.2.2.1 144 0 j_) ∧ True) → ((8 - k_).toNat) < nn_ → sm_T (mt_P sc_) 0 342 (2, [some (.inr (.inr (some (13, 0)))), some (.inl nm_), some (.inl k_)], [], S_) (fun ro9_ => ∃ u_ S1_, ro9_ = (.inl u_, S1_, 0) ∧ vq_342 nm_ fr_ S0_ u_ S1_)) := by
  intro nn_
  induction nn_ with
  | zero => exact fun _ _ _ _ _ h_ => absurd h_ (Nat.not_lt_zero _)
  | succ nn_ ih_ =>
    rintro k_ S_ hI_ hF_ ⟨h0_, h1_, h2_, -⟩ hm_
    have f1_ : S_.1 13 0 29 = (fr_ : Int) := (hF_.1 13 0 29 rfl).trans hf_.1
    have l1_ := fr_arr (t := 139) (i := 0) hF_ rfl
    refine sm_T_go 2 (c1 := (5, [some (.inr (.inr (some (13, 0)))), some (.inl nm_), some (.inl k_)], [.inl 8, .inl k_], S_)) rfl ?_
    refine sm_T_br (a := 3) (z := 34) rfl (fun cx1_ => ?_) (fun cx1_ => ?_)
    · have cx1_ : 8 ≤ k_ := of_decide_eq_true cx1_
      refine sm_T_rv rfl ⟨_, _, rfl, rfl, hI_, hF_, ?_⟩
      exact ⟨fun j_ hj_ => h1_ j_ (by omega), h2_⟩
    · have cx1_ : ¬ (8 ≤ k_) := of_decide_eq_false cx1_
      have bx2_ : 0 ≤ S_.1 13 0 29 ∧ S_.1 13 0 29 ≤ 16 := hI_.1 13 0 29 rfl
      refine sm_T_go 6 (c1 := (20, [some (.inr (.inr (some (13, 0)))), some (.inl nm_), some (.inl k_)], [.inl (S_.1 13 0 29), .inl 40, .inl 8, .inr (.inr (some (144, 0)))], S_)) rfl ?_
      refine sm_T_bin (w := 40 * (S_.1 13 0 29)) rfl (bi_mul (by omega) (by omega) (by omega)) ?_
      refine sm_T_go 1 (c1 := (22, [some (.inr (.inr (some (13, 0)))), some (.inl nm_), some (.inl k_)], [.inl nm_, .inl (40 * (S_.1 13 0 29)), .inl 8, .inr (.inr (some (144, 0)))], S_)) rfl ?_
      refine sm_T_bin (w := 40 * (S_.1 13 0 29) + nm_) rfl (bi_add (by omega) (by omega) (by omega)) ?_
      refine sm_T_bin (w := 320 * (S_.1 13 0 29) + 8 * nm_) rfl (bi_mul (by omega) (by omega) (by omega)) ?_
      refine sm_T_go 1 (c1 := (25, [some (.inr (.inr (some (13, 0)))), some (.inl nm_), some (.inl k_)], [.inl k_, .inl (320 * (S_.1 13 0 29) + 8 * nm_), .inr (.inr (some (144, 0)))], S_)) rfl ?_
      refine sm_T_bin (w := 320 * (S_.1 13 0 29) + 8 * nm_ + k_) rfl (bi_add (by omega) (by omega) (by omega)) ?_
      refine sm_T_go 3 (c1 := (31, [some (.inr (.inr (some (13, 0)))), some (.inl nm_), some (.inl k_)], [.inl k_, .inr (.inr (some (139, 0))), .inl (320 * (S_.1 13 0 29) + 8 * nm_ + k_), .inr (.inr (some (144, 0)))], S_)) rfl ?_
      refine sm_T_iald (n := 8192) rfl rfl (by omega) (by omega) ?_
      have bx3_ : 0 ≤ S_.2.2.1 139 0 k_.toNat ∧ S_.2.2.1 139 0 k_.toNat ≤ 2047 := hI_.2 139 0 _
      refine sm_T_iast (n := 5120) rfl rfl (by omega) (by omega) ?_
      have hIx4_ : gi (sm_aI S_ 144 0 (320 * (S_.1 13 0 29) + 8 * nm_ + k_).toNat (S_.2.2.1 139 0 k_.toNat)) := gi_aI hI_ (show 0 ≤ (S_.2.2.1 139 0 k_.toNat) ∧ (S_.2.2.1 139 0 k_.toNat) ≤ 2047 from ⟨by omega, by omega⟩)
      have hFx5_ : ai_fr (sx_W vw_342) S0_ (sm_aI S_ 144 0 (320 * (S_.1 13 0 29) + 8 * nm_ + k_).toNat (S_.2.2.1 139 0 k_.toNat)) := ai_fr_tr hF_ (ai_fr_aI rfl)
      refine sm_T_inc (a := 2) (z := 1) (v := k_) (w := k_ + 1) rfl rfl (by omega) (by omega) (by omega) ?_
      refine sm_T_go 1 (c1 := (2, [some (.inr (.inr (some (13, 0)))), some (.inl nm_), some (.inl (k_ + 1))], [], sm_aI S_ 144 0 (320 * (S_.1 13 0 29) + 8 * nm_ + k_).toNat (S_.2.2.1 139 0 k_.toNat))) rfl ?_
      refine ih_ (k_ + 1) (sm_aI S_ 144 0 (320 * (S_.1 13 0 29) + 8 * nm_ + k_).toNat (S_.2.2.1 139 0 k_.toNat)) hIx4_ hFx5_ ⟨?_, ?_, ?_, trivial⟩ ?_
      · omega
      · intro j_ hj_
        by_cases z_ : j_ < k_.toNat
        · rw [rd_eq, if_neg (by omega)]; exact h1_ j_ z_
        · have zj_ : j_ = k_.toNat := by omega
          rw [rd_eq, if_pos (by omega), zj_, l1_]
      · (intro j_ hj_; rw [rd_eq, if_neg (by omega)]; exact h2_ j_ hj_)
      · omega
set_option maxHeartbeats 400000 in
theorem vc_342 {sc_ : Nat × (Nat → Int)} (nm_ : Int) (fr_ : Nat) (S0_ : sm_S) (hI_ : gi S0_) (hf_ : (S0_.1 13 0 29) = (fr_ : Int) ∧ fr_ ≤ 15) (hn1_ : 0 ≤ nm_ ∧ nm_ ≤ 39) : sm_T (mt_P sc_) 0 342 (0, [some (.inr (.inr (some (13, 0)))), some (.inl nm_), none], [], S0_) (fun ro9_ => ∃ u_ S1_, ro9_ = (.inl u_, S1_, 0) ∧ vq_342 nm_ fr_ S0_ u_ S1_) := by
  have hF_ : ai_fr (sx_W vw_342) S0_ S0_ := ai_fr_rf
  refine sm_T_go 2 (c1 := (2, [some (.inr (.inr (some (13, 0)))), some (.inl nm_), some (.inl 0)], [], S0_)) rfl ?_
  refine (vl_342 nm_ fr_ S0_ hf_ hn1_ _) 0 S0_ hI_ hF_ ⟨?_, ?_, ?_, trivial⟩ (Nat.lt_succ_self _)
  · omega
  · (intro j_ hj_; exact absurd hj_ (Nat.not_lt_zero _))
  · (intro j_ hj_; rfl)
end
/-! 99.zd2e -/
section
/-! M_.leave -/
def vw_346 : sx_Wl := ([(13, 9), (13, 28), (13, 29)], [145], [])
def vq_346 (fr_ : Nat) (M_ : Nat) (s_ : Nat) (cnt_ : Nat) (S0_ : sm_S) (u_ : Option sm_V) (S1_ : sm_S) : Prop := u_ = none ∧ gi S1_ ∧ ai_fr (sx_W vw_346) S0_ S1_ ∧ ((S1_.1 13 0 29) = (fr_ : Int) ∧ (∀ o1_ k1_ : Nat, o1_ < cnt_ → k1_ < 8 → S1_.2.2.1 145 0 (8 * (40 * (40 * fr_ + s_) + o1_) + k1_) = S0_.2.2.1 144 0 (8 * (40 * (fr_ + 1) + o1_) + k1_)) ∧ (∀ j_, j_ < 8 * (40 * (40 * fr_ + s_)) ∨ 8 * (40 * (40 * fr_ + s_)) + 320 ≤ j_ → S1_.2.2.1 145 0 j_ = S0_.2.2.1 145 0 j_) ∧ (S1_.1 13 0 9) = S0_.2.2.1 147 0 (fr_ + 1) ∧ (S1_.1 13 0 28) = S0_.2.2.1 146 0 fr_)
set_option maxHeartbeats 1500000 in
theorem vl_346 {sc_ : Nat × (Nat → Int)} (fr_ : Nat) (M_ : Nat) (s_ : Nat) (cnt_ : Nat) (S0_ : sm_S) (hf_ : (S0_.1 13 0 29) = (fr_ : Int) + 1 ∧ fr_ ≤ 14) (hmd_ : (S0_.1 13 0 28) = (M_ : Int) ∧ M_ ≤ 15) (hn1_ : S0_.2.2.1 148 0 (fr_ + 1) = (s_ : Int) ∧ s_ ≤ 39) (hc_ : S0_.2.2.1 126 0 M_ = (cnt_ : Int) ∧ cnt_ ≤ 40) : ∀ nn_ : Nat, (∀ (inr : Int) (mo_ : Int) (nm_ : Int) (o_ : Int) (S_ : sm_S), gi S_ → ai_fr (sx_W vw_346) S0_ S_ → ((0 ≤ o_ ∧ o_ ≤ (cnt_ : Int) ∧ inr = (fr_ : Int) + 1 ∧ mo_ = (M_ : Int) ∧ nm_ = (s_ : Int)) ∧ ((S_.1 13 0 29) = (fr_ : Int)) ∧ (∀ o1_ k1_ : Nat, o1_ < o_.toNat → k1_ < 8 → S_.2.2.1 145 0 (8 * (40 * (40 * fr_ + s_) + o1_) + k1_) = S0_.2.2.1 144 0 (8 * (40 * (fr_ + 1) + o1_) + k1_)) ∧ (∀ j_, j_ < 8 * (40 * (40 * fr_ + s_)) ∨ 8 * (40 * (40 * fr_ + s_)) + 320 ≤ j_ → S_.2.2.1 145 0 j_ = S0_.2.2.1 145 0 j_) ∧ True) → ((20 * (50 - o_) + 10).toNat) < nn_ → sm_T (mt_P sc_) 0 346 (30, [some (.inr (.inr (some (13, 0)))), some (.inl inr), some (.inl mo_), some (.inl nm_), some (.inl o_), none], [], S_) (fun ro9_ => ∃ u_ S1_, ro9_ = (.inl u_, S1_, 0) ∧ vq_346 fr_ M_ s_ cnt_ S0_ u_ S1_)) ∧ (∀ (inr : Int) (mo_ : Int) (nm_ : Int) (o_ : Int) (k_ : Int) (S_ : sm_S), gi S_ → ai_fr (sx_W vw_346) S0_ S_ → ((0 ≤ o_ ∧ o_ < (cnt_ : Int) ∧ inr = (fr_ : Int) + 1 ∧ mo_ = (M_ : Int) ∧ nm_ = (s_ : Int) ∧ 0 ≤ k_ ∧ k_ ≤ 8) ∧ ((S_.1 13 0 29) = (fr_ : Int)) ∧ (∀ o1_ k1_ : Nat, o1_ < o_.toNat → k1_ < 8 → S_.2.2.1 145 0 (8 * (40 * (40 * fr_ + s_) + o1_) + k1_) = S0_.2.2.1 144 0 (8 * (40 * (fr_ + 1) + o1_) + k1_)) ∧ (∀ j_ : Nat, j_ < k_.toNat → S_.2.2.1 145 0 (8 * (40 * (40 * fr_ + s_) + o_.toNat) + j_) = S0_.2.2.1 144 0 (8 * (40 * (fr_ + 1) + o_.toNat) + j_)) ∧ (∀ j_, j_ < 8 * (40 * (40 * fr_ + s_)) ∨ 8 * (40 * (40 * fr_ + s_)) + 320 ≤ j_ → S_.2.2.1 145 0 j_ = S0_.2.2.1 145 0 j_) ∧ True) → ((20 * (50 - o_) + 9 - k_).toNat) < nn_ → sm_T (mt_P sc_) 0 346 (44, [some (.inr (.inr (some (13, 0)))), some (.inl inr), some (.inl mo_), some (.inl nm_), some (.inl o_), some (.inl k_)], [], S_) (fun ro9_ => ∃ u_ S1_, ro9_ = (.inl u_, S1_, 0) ∧ vq_346 fr_ M_ s_ cnt_ S0_ u_ S1_)) := by
  intro nn_
  induction nn_ with
  | zero => exact ⟨fun _ _ _ _ _ _ _ _ h_ => absurd h_ (Nat.not_lt_zero _), fun _ _ _ _ _ _ _ _ _ h_ => absurd h_ (Nat.not_lt_zero _)⟩
  | succ nn_ ih_ =>
    refine ⟨?_, ?_⟩
    · rintro inr mo_ nm_ o_ S_ hI_ hF_ ⟨h0_, h4_, h1_, h2_, -⟩ hm_
      have f1_ : S_.1 13 0 29 = (fr_ : Int) := h4_
      have c1_ : S_.2.2.1 126 0 mo_.toNat = (cnt_ : Int) := by rw [fr_arr (t := 126) (i := 0) hF_ rfl, show mo_.toNat = M_ by omega]; exact hc_.1
      have v44_ := fr_arr (t := 144) (i := 0) hF_ rfl
      have cb_ := hc_.2
      refine sm_T_go 4 (c1 := (37, [some (.inr (.inr (some (13, 0)))), some (.inl inr), some (.inl mo_), some (.inl nm_), some (.inl o_), none], [.inl mo_, .inr (.inr (some (126, 0))), .inl o_], S_)) rfl ?_
      refine sm_T_iald (n := 16) rfl rfl (by omega) (by omega) ?_
      have bx1_ : 0 ≤ S_.2.2.1 126 0 mo_.toNat ∧ S_.2.2.1 126 0 mo_.toNat ≤ 40 := hI_.2 126 0 _
      refine sm_T_br (a := 3) (z := 69) rfl (fun cx2_ => ?_) (fun cx2_ => ?_)
      · have cx2_ : (S_.2.2.1 126 0 mo_.toNat) ≤ o_ := of_decide_eq_true cx2_
        refine sm_T_go 4 (c1 := (113, [some (.inr (.inr (some (13, 0)))), some (.inl inr), some (.inl mo_), some (.inl nm_), some (.inl o_), none], [.inl inr, .inr (.inr (some (147, 0))), .inr (.inr (some (13, 0)))], S_)) rfl ?_
        refine sm_T_iald (n := 16) rfl rfl (by omega) (by omega) ?_
        have bx3_ : 0 ≤ S_.2.2.1 147 0 inr.toNat ∧ S_.2.2.1 147 0 inr.toNat ≤ 1280 := hI_.2 147 0 _
        have hIx4_ : gi (sm_pI S_ 13 0 9 (S_.2.2.1 147 0 inr.toNat)) := gi_pI hI_ (show 0 ≤ (S_.2.2.1 147 0 inr.toNat) ∧ (S_.2.2.1 147 0 inr.toNat) ≤ 1280 from ⟨by omega, by omega⟩)
        have hFx5_ : ai_fr (sx_W vw_346) S0_ (sm_pI S_ 13 0 9 (S_.2.2.1 147 0 inr.toNat)) := ai_fr_tr hF_ (ai_fr_pI rfl)
        have bx6_ : 0 ≤ S_.1 13 0 29 ∧ S_.1 13 0 29 ≤ 16 := hI_.1 13 0 29 rfl
        refine sm_T_go 6 (c1 := (126, [some (.inr (.inr (some (13, 0)))), some (.inl inr), some (.inl mo_), some (.inl nm_), some (.inl o_), none], [.inl (S_.1 13 0 29), .inr (.inr (some (146, 0))), .inr (.inr (some (13, 0)))], sm_pI S_ 13 0 9 (S_.2.2.1 147 0 inr.toNat))) rfl ?_
        refine sm_T_iald (n := 16) rfl rfl (by omega) (by omega) ?_
        have bx7_ : 0 ≤ S_.2.2.1 146 0 (S_.1 13 0 29).toNat ∧ S_.2.2.1 146 0 (S_.1 13 0 29).toNat ≤ 15 := hI_.2 146 0 _
        have hIx8_ : gi (sm_pI (sm_pI S_ 13 0 9 (S_.2.2.1 147 0 inr.toNat)) 13 0 28 (S_.2.2.1 146 0 (S_.1 13 0 29).toNat)) := gi_pI hIx4_ (show 0 ≤ (S_.2.2.1 146 0 (S_.1 13 0 29).toNat) ∧ (S_.2.2.1 146 0 (S_.1 13 0 29).toNat) ≤ 15 from ⟨by omega, by omega⟩)
        have hFx9_ : ai_fr (sx_W vw_346) S0_ (sm_pI (sm_pI S_ 13 0 9 (S_.2.2.1 147 0 inr.toNat)) 13 0 28 (S_.2.2.1 146 0 (S_.1 13 0 29).toNat)) := ai_fr_tr hFx5_ (ai_fr_pI rfl)
        refine sm_T_go 1 (c1 := (130, [some (.inr (.inr (some (13, 0)))), some (.inl inr), some (.inl mo_), some (.inl nm_), some (.inl o_), none], [], sm_pI (sm_pI S_ 13 0 9 (S_.2.2.1 147 0 inr.toNat)) 13 0 28 (S_.2.2.1 146 0 (S_.1 13 0 29).toNat))) rfl ?_
        refine sm_T_rv rfl ⟨_, _, rfl, rfl, hIx8_, hFx9_, ?_⟩
        have e1_ : inr.toNat = fr_ + 1 := by omega
        have e2_ : (S_.1 13 0 29).toNat = fr_ := by omega
        have t47_ := fr_arr (t := 147) (i := 0) hF_ rfl
        have t46_ := fr_arr (t := 146) (i := 0) hF_ rfl
        refine ⟨h4_, fun o9_ k9_ ho_ hk_ => h1_ o9_ k9_ (by omega) hk_, h2_, ?_, ?_⟩
        · (try simp only [rd_eq, rd_ne, rf_eq, rf_nk, rf_nt, rd_fa, rd_af, rd_fl, rd_al, rd_lf, rd_la, rd_leq, rd_lne, rd_fr, rd_ar, ne_eq, Nat.reduceEqDiff, not_false_eq_true]); rw [e1_, t47_]
        · (try simp only [rd_eq, rd_ne, rf_eq, rf_nk, rf_nt, rd_fa, rd_af, rd_fl, rd_al, rd_lf, rd_la, rd_leq, rd_lne, rd_fr, rd_ar, ne_eq, Nat.reduceEqDiff, not_false_eq_true]); rw [e2_, t46_]
      · have cx2_ : ¬ ((S_.2.2.1 126 0 mo_.toNat) ≤ o_) := of_decide_eq_false cx2_
        refine sm_T_go 2 (c1 := (44, [some (.inr (.inr (some (13, 0)))), some (.inl inr), some (.inl mo_), some (.inl nm_), some (.inl o_), some (.inl 0)], [], S_)) rfl ?_
        refine ih_.2 inr mo_ nm_ o_ 0 S_ hI_ hF_ ⟨?_, ?_, ?_, ?_, ?_, trivial⟩ ?_
        · omega
        · exact h4_
        · exact h1_
        · (intro j_ hj_; exact absurd hj_ (Nat.not_lt_zero _))
        · exact h2_
        · omega
    · rintro inr mo_ nm_ o_ k_ S_ hI_ hF_ ⟨h0_, h4_, h1_, h3_, h2_, -⟩ hm_
      have f1_ : S_.1 13 0 29 = (fr_ : Int) := h4_
      have c1_ : S_.2.2.1 126 0 mo_.toNat = (cnt_ : Int) := by rw [fr_arr (t := 126) (i := 0) hF_ rfl, show mo_.toNat = M_ by omega]; exact hc_.1
      have v44_ := fr_arr (t := 144) (i := 0) hF_ rfl
      have cb_ := hc_.2
      refine sm_T_go 2 (c1 := (48, [some (.inr (.inr (some (13, 0)))), some (.inl inr), some (.inl mo_), some (.inl nm_), some (.inl o_), some (.inl k_)], [.inl 8, .inl k_], S_)) rfl ?_
      refine sm_T_br (a := 3) (z := 53) rfl (fun cx1_ => ?_) (fun cx1_ => ?_)
      · have cx1_ : 8 ≤ k_ := of_decide_eq_true cx1_
        refine sm_T_inc (a := 4) (z := 1) (v := o_) (w := o_ + 1) rfl rfl (by omega) (by omega) (by omega) ?_
        refine sm_T_go 1 (c1 := (30, [some (.inr (.inr (some (13, 0)))), some (.inl inr), some (.inl mo_), some (.inl nm_), some (.inl (o_ + 1)), some (.inl k_)], [], S_)) rfl ?_
        refine sm_T_wk [some (.inr (.inr (some (13, 0)))), some (.inl inr), some (.inl mo_), some (.inl nm_), some (.inl (o_ + 1)), none] (by exact ⟨rfl, rfl, rfl, rfl, rfl, trivial⟩) ?_
        refine ih_.1 inr mo_ nm_ (o_ + 1) S_ hI_ hF_ ⟨?_, ?_, ?_, ?_, trivial⟩ ?_
        · omega
        · exact h4_
        · intro o9_ k9_ ho_ hk_
          by_cases z_ : o9_ < o_.toNat
          · exact h1_ o9_ k9_ z_ hk_
          · have zo_ : o9_ = o_.toNat := by omega
            rw [zo_]
            exact h3_ k9_ (by omega)
        · exact h2_
        · omega
      · have cx1_ : ¬ (8 ≤ k_) := of_decide_eq_false cx1_
        have bx2_ : 0 ≤ S_.1 13 0 29 ∧ S_.1 13 0 29 ≤ 16 := hI_.1 13 0 29 rfl
        refine sm_T_go 7 (c1 := (65, [some (.inr (.inr (some (13, 0)))), some (.inl inr), some (.inl mo_), some (.inl nm_), some (.inl o_), some (.inl k_)], [.inl (S_.1 13 0 29), .inl 40, .inl 40, .inl 8, .inr (.inr (some (145, 0)))], S_)) rfl ?_
        refine sm_T_bin (w := 40 * (S_.1 13 0 29)) rfl (bi_mul (by omega) (by omega) (by omega)) ?_
        refine sm_T_go 1 (c1 := (67, [some (.inr (.inr (some (13, 0)))), some (.inl inr), some (.inl mo_), some (.inl nm_), some (.inl o_), some (.inl k_)], [.inl nm_, .inl (40 * (S_.1 13 0 29)), .inl 40, .inl 8, .inr (.inr (some (145, 0)))], S_)) rfl ?_
        refine sm_T_bin (w := 40 * (S_.1 13 0 29) + nm_) rfl (bi_add (by omega) (by omega) (by omega)) ?_
        refine sm_T_bin (w := 1600 * (S_.1 13 0 29) + 40 * nm_) rfl (bi_mul (by omega) (by omega) (by omega)) ?_
        refine sm_T_go 1 (c1 := (71, [some (.inr (.inr (some (13, 0)))), some (.inl inr), some (.inl mo_), some (.inl nm_), some (.inl o_), some (.inl k_)], [.inl o_, .inl (1600 * (S_.1 13 0 29) + 40 * nm_), .inl 8, .inr (.inr (some (145, 0)))], S_)) rfl ?_
        refine sm_T_bin (w := 1600 * (S_.1 13 0 29) + 40 * nm_ + o_) rfl (bi_add (by omega) (by omega) (by omega)) ?_
        refine sm_T_bin (w := 12800 * (S_.1 13 0 29) + 320 * nm_ + 8 * o_) rfl (bi_mul (by omega) (by omega) (by omega)) ?_
        refine sm_T_go 1 (c1 := (75, [some (.inr (.inr (some (13, 0)))), some (.inl inr), some (.inl mo_), some (.inl nm_), some (.inl o_), some (.inl k_)], [.inl k_, .inl (12800 * (S_.1 13 0 29) + 320 * nm_ + 8 * o_), .inr (.inr (some (145, 0)))], S_)) rfl ?_
        refine sm_T_bin (w := 12800 * (S_.1 13 0 29) + 320 * nm_ + 8 * o_ + k_) rfl (bi_add (by omega) (by omega) (by omega)) ?_
        refine sm_T_go 5 (c1 := (85, [some (.inr (.inr (some (13, 0)))), some (.inl inr), some (.inl mo_), some (.inl nm_), some (.inl o_), some (.inl k_)], [.inl inr, .inl 40, .inl 8, .inr (.inr (some (144, 0))), .inl (12800 * (S_.1 13 0 29) + 320 * nm_ + 8 * o_ + k_), .inr (.inr (some (145, 0)))], S_)) rfl ?_
        refine sm_T_bin (w := 40 * inr) rfl (bi_mul (by omega) (by omega) (by omega)) ?_
        refine sm_T_go 1 (c1 := (88, [some (.inr (.inr (some (13, 0)))), some (.inl inr), some (.inl mo_), some (.inl nm_), some (.inl o_), some (.inl k_)], [.inl o_, .inl (40 * inr), .inl 8, .inr (.inr (some (144, 0))), .inl (12800 * (S_.1 13 0 29) + 320 * nm_ + 8 * o_ + k_), .inr (.inr (some (145, 0)))], S_)) rfl ?_
        refine sm_T_bin (w := 40 * inr + o_) rfl (bi_add (by omega) (by omega) (by omega)) ?_
        refine sm_T_bin (w := 320 * inr + 8 * o_) rfl (bi_mul (by omega) (by omega) (by omega)) ?_
        refine sm_T_go 1 (c1 := (92, [some (.inr (.inr (some (13, 0)))), some (.inl inr), some (.inl mo_), some (.inl nm_), some (.inl o_), some (.inl k_)], [.inl k_, .inl (320 * inr + 8 * o_), .inr (.inr (some (144, 0))), .inl (12800 * (S_.1 13 0 29) + 320 * nm_ + 8 * o_ + k_), .inr (.inr (some (145, 0)))], S_)) rfl ?_
        refine sm_T_bin (w := 320 * inr + 8 * o_ + k_) rfl (bi_add (by omega) (by omega) (by omega)) ?_
        refine sm_T_iald (n := 5120) rfl rfl (by omega) (by omega) ?_
        have bx3_ : 0 ≤ S_.2.2.1 144 0 (320 * inr + 8 * o_ + k_).toNat ∧ S_.2.2.1 144 0 (320 * inr + 8 * o_ + k_).toNat ≤ 2047 := hI_.2 144 0 _
        refine sm_T_iast (n := 204800) rfl rfl (by omega) (by omega) ?_
        have hIx4_ : gi (sm_aI S_ 145 0 (12800 * (S_.1 13 0 29) + 320 * nm_ + 8 * o_ + k_).toNat (S_.2.2.1 144 0 (320 * inr + 8 * o_ + k_).toNat)) := gi_aI hI_ (show 0 ≤ (S_.2.2.1 144 0 (320 * inr + 8 * o_ + k_).toNat) ∧ (S_.2.2.1 144 0 (320 * inr + 8 * o_ + k_).toNat) ≤ 2047 from ⟨by omega, by omega⟩)
        have hFx5_ : ai_fr (sx_W vw_346) S0_ (sm_aI S_ 145 0 (12800 * (S_.1 13 0 29) + 320 * nm_ + 8 * o_ + k_).toNat (S_.2.2.1 144 0 (320 * inr + 8 * o_ + k_).toNat)) := ai_fr_tr hF_ (ai_fr_aI rfl)
        refine sm_T_inc (a := 5) (z := 1) (v := k_) (w := k_ + 1) rfl rfl (by omega) (by omega) (by omega) ?_
        refine sm_T_go 1 (c1 := (44, [some (.inr (.inr (some (13, 0)))), some (.inl inr), some (.inl mo_), some (.inl nm_), some (.inl o_), some (.inl (k_ + 1))], [], sm_aI S_ 145 0 (12800 * (S_.1 13 0 29) + 320 * nm_ + 8 * o_ + k_).toNat (S_.2.2.1 144 0 (320 * inr + 8 * o_ + k_).toNat))) rfl ?_
        refine ih_.2 inr mo_ nm_ o_ (k_ + 1) (sm_aI S_ 145 0 (12800 * (S_.1 13 0 29) + 320 * nm_ + 8 * o_ + k_).toNat (S_.2.2.1 144 0 (320 * inr + 8 * o_ + k_).toNat)) hIx4_ hFx5_ ⟨?_, ?_, ?_, ?_, ?_, trivial⟩ ?_
        · omega
        · exact h4_
        · intro o9_ k9_ ho_ hk_
          rw [rd_eq, if_neg (by omega)]
          exact h1_ o9_ k9_ ho_ hk_
        · intro j_ hj_
          by_cases z_ : j_ < k_.toNat
          · rw [rd_eq, if_neg (by omega)]; exact h3_ j_ z_
          · have zj_ : j_ = k_.toNat := by omega
            rw [rd_eq, if_pos (by omega), zj_, v44_]
            exact congrArg (S0_.2.2.1 144 0) (by omega)
        · intro j_ hj_
          rw [rd_eq, if_neg (by omega)]
          exact h2_ j_ hj_
        · omega
set_option maxHeartbeats 1500000 in
theorem vc_346 {sc_ : Nat × (Nat → Int)} (fr_ : Nat) (M_ : Nat) (s_ : Nat) (cnt_ : Nat) (S0_ : sm_S) (hI_ : gi S0_) (hf_ : (S0_.1 13 0 29) = (fr_ : Int) + 1 ∧ fr_ ≤ 14) (hmd_ : (S0_.1 13 0 28) = (M_ : Int) ∧ M_ ≤ 15) (hn1_ : S0_.2.2.1 148 0 (fr_ + 1) = (s_ : Int) ∧ s_ ≤ 39) (hc_ : S0_.2.2.1 126 0 M_ = (cnt_ : Int) ∧ cnt_ ≤ 40) : sm_T (mt_P sc_) 0 346 (0, [some (.inr (.inr (some (13, 0)))), none, none, none, none, none], [], S0_) (fun ro9_ => ∃ u_ S1_, ro9_ = (.inl u_, S1_, 0) ∧ vq_346 fr_ M_ s_ cnt_ S0_ u_ S1_) := by
  have hF_ : ai_fr (sx_W vw_346) S0_ S0_ := ai_fr_rf
  have bx1_ : 0 ≤ S0_.1 13 0 29 ∧ S0_.1 13 0 29 ≤ 16 := hI_.1 13 0 29 rfl
  have bx2_ : 0 ≤ S0_.1 13 0 28 ∧ S0_.1 13 0 28 ≤ 15 := hI_.1 13 0 28 rfl
  refine sm_T_go 10 (c1 := (16, [some (.inr (.inr (some (13, 0)))), some (.inl (S0_.1 13 0 29)), some (.inl (S0_.1 13 0 28)), none, none, none], [.inl 1, .inl (S0_.1 13 0 29), .inr (.inr (some (13, 0)))], S0_)) rfl ?_
  refine sm_T_bin (w := (S0_.1 13 0 29) - 1) rfl (bi_sub (by omega) (by omega) (by omega)) ?_
  have hIx3_ : gi (sm_pI S0_ 13 0 29 ((S0_.1 13 0 29) - 1)) := gi_pI hI_ (show 0 ≤ (S0_.1 13 0 29) - 1 ∧ (S0_.1 13 0 29) - 1 ≤ 16 from ⟨by omega, by omega⟩)
  have hFx4_ : ai_fr (sx_W vw_346) S0_ (sm_pI S0_ 13 0 29 ((S0_.1 13 0 29) - 1)) := ai_fr_tr hF_ (ai_fr_pI rfl)
  refine sm_T_go 4 (c1 := (25, [some (.inr (.inr (some (13, 0)))), some (.inl (S0_.1 13 0 29)), some (.inl (S0_.1 13 0 28)), none, none, none], [.inl (S0_.1 13 0 29), .inr (.inr (some (148, 0)))], sm_pI S0_ 13 0 29 ((S0_.1 13 0 29) - 1))) rfl ?_
  refine sm_T_iald (n := 16) rfl rfl (by omega) (by omega) ?_
  have bx5_ : 0 ≤ S0_.2.2.1 148 0 (S0_.1 13 0 29).toNat ∧ S0_.2.2.1 148 0 (S0_.1 13 0 29).toNat ≤ 639 := hI_.2 148 0 _
  refine sm_T_go 3 (c1 := (30, [some (.inr (.inr (some (13, 0)))), some (.inl (S0_.1 13 0 29)), some (.inl (S0_.1 13 0 28)), some (.inl (S0_.2.2.1 148 0 (S0_.1 13 0 29).toNat)), some (.inl 0), none], [], sm_pI S0_ 13 0 29 ((S0_.1 13 0 29) - 1))) rfl ?_
  refine (vl_346 fr_ M_ s_ cnt_ S0_ hf_ hmd_ hn1_ hc_ _).1 (S0_.1 13 0 29) (S0_.1 13 0 28) (S0_.2.2.1 148 0 (S0_.1 13 0 29).toNat) 0 (sm_pI S0_ 13 0 29 ((S0_.1 13 0 29) - 1)) hIx3_ hFx4_ ⟨?_, ?_, ?_, ?_, trivial⟩ (Nat.lt_succ_self _)
  · (have e9_ : (S0_.1 13 0 29).toNat = fr_ + 1 := by omega); rw [e9_]; omega
  · (try simp only [rd_eq, rd_ne, rf_eq, rf_nk, rf_nt, rd_fa, rd_af, rd_fl, rd_al, rd_lf, rd_la, rd_leq, rd_lne, rd_fr, rd_ar, ne_eq, Nat.reduceEqDiff, not_false_eq_true]); omega
  · (intro o9_ k9_ ho_; exact absurd ho_ (Nat.not_lt_zero _))
  · (intro j_ hj_; rfl)
end
/-! 99.zd3 -/
section
/-! every right expression can be worked out; written by wip/p55/gen/vg -/

/-! every right expression can_ be_ worked out_ -/
section TOT_
variable {b_ : Nat → Int} {n_ F_ I_ m_ K_ : Nat} {A_ : pA} {X_ : Nat → gQ → gE → Option (gQ × gE)} {s0_ : gS} {pr_ : pPr}
def xt1 (F_ I_ : Nat) (A_ : pA) (X_ : Nat → gQ → gE → Option (gQ × gE)) (m_ : Nat) (s0_ : gS) (h_ c_ : List Int) : Prop := ∃ G_ V_, ev F_ I_ A_ X_ m_ s0_ c_ = some ((G_, s0_.1.2), s0_.2.1, s0_.2.2.1, V_) ∧ V_.map (fun v_ => (v_.length : Int)) = h_ ∧ ∀ v_, v_ ∈ V_ → 1 ≤ v_.length ∧ v_.length ≤ 8
def xto (F_ I_ : Nat) (A_ : pA) (X_ : Nat → gQ → gE → Option (gQ × gE)) (m_ : Nat) (s0_ : gS) (s_ : pO) : Prop := s_ok false 1 s_ ∧ xt1 F_ I_ A_ X_ m_ s0_ s_.2.1 s_.2.2 ∧ o_wd s_.1 s_.2.1.tail
def xtx (b_ : Nat → Int) (n_ F_ I_ : Nat) (A_ : pA) (X_ : Nat → gQ → gE → Option (gQ × gE)) (m_ : Nat) (s0_ : gS) (x_ : pX) : Prop := x_ok b_ n_ false x_ ∧ xt1 F_ I_ A_ X_ m_ s0_ x_.2.2.2.2.1 x_.2.2.2.2.2 ∧ o_wd x_.2.2.2.1 (if x_.1 = 0 then x_.2.2.2.2.1 else x_.2.2.2.2.1.tail)
theorem xto_ap {k_ x_ y_ : Int} {q_ : Nat} {o_ : List (Int × Nat)} {g_ c_ : List Int} (h_ : xto F_ I_ A_ X_ m_ s0_ ((k_, q_) :: o_, y_ :: x_ :: g_, c_)) (hk_ : 1 ≤ k_) (hxy_ : x_ = y_) : xto F_ I_ A_ X_ m_ s0_ (o_, (if k_ = 4 then 1 else x_) :: g_, k_ :: c_) := by
  obtain ⟨hs_, ⟨G_, V_, h1_, h2_, h3_⟩, h4_⟩ := h_
  have h2_ : V_.map (fun v_ => (v_.length : Int)) = y_ :: x_ :: g_ := h2_
  obtain ⟨vy_, V1_, rfl, ly_, xm1_⟩ := mp_c h2_
  obtain ⟨vx_, V2_, rfl, lx_, xm2_⟩ := mp_c xm1_
  have k5_ : k_ ≤ 5 := (o_ok_lt hs_.1 hk_).2
  have bx_ := h3_ vx_ (by simp)
  have lxy_ : vx_.length = vy_.length := by omega
  have h1_ : ev F_ I_ A_ X_ m_ s0_ c_ = some ((G_, s0_.1.2), s0_.2.1, s0_.2.2.1, vy_ :: vx_ :: V2_) := h1_
  have evn_ := ev_op h1_ ⟨hk_, k5_⟩ lxy_ bx_.1
  have oln_ := g_op_ln (F_ := F_) (k_ := k_) (x_ := vx_) (y_ := vy_) (G_ := G_) lxy_ bx_.1
  have nw_ : (if k_ = 4 then (1 : Int) else x_) = ((g_op F_ k_ G_ vx_ vy_).1.length : Int) := by
    rw [oln_]
    by_cases z_ : k_ = 4
    · rw [if_pos z_, if_pos z_]; rfl
    · rw [if_neg z_, if_neg z_]; omega
  refine ⟨s_ok_ap hk_ (by have xb_ := (h_ok_c.mp (h_ok_c.mp hs_.2.2.2).2).1; split; decide; exact xb_) hs_, ⟨(g_op F_ k_ G_ vx_ vy_).2, (g_op F_ k_ G_ vx_ vy_).1 :: V2_, evn_, ?_, fun v_ hv_ => ?_⟩, o_wd_b h4_ hk_⟩
  · rw [List.map_cons, xm2_, nw_]
  · rcases List.mem_cons.mp hv_ with z_ | z_
    · rw [z_, oln_]
      split <;> omega
    · exact h3_ v_ (by simp [z_])
theorem xto_ch {x_ y_ z_ : Int} {q_ : Nat} {o_ : List (Int × Nat)} {g_ c_ : List Int} (h_ : xto F_ I_ A_ X_ m_ s0_ ((-4, q_) :: o_, x_ :: y_ :: z_ :: g_, c_)) (hxy_ : x_ = y_) : xto F_ I_ A_ X_ m_ s0_ (o_, y_ :: g_, 7 :: c_) := by
  obtain ⟨hs_, ⟨G_, V_, h1_, h2_, h3_⟩, h4_⟩ := h_
  have h2_ : V_.map (fun v_ => (v_.length : Int)) = x_ :: y_ :: z_ :: g_ := h2_
  obtain ⟨vx_, V1_, rfl, lx_, xm1_⟩ := mp_c h2_
  obtain ⟨vy_, V2_, rfl, ly_, xm2_⟩ := mp_c xm1_
  obtain ⟨vz_, V3_, rfl, lz_, xm3_⟩ := mp_c xm2_
  have ow_ := o_wd_4 (y_ := y_) (z_ := z_) (g_ := g_) h4_
  obtain ⟨cc_, rfl⟩ : ∃ cc_, vz_ = [cc_] := by
    cases vz_ with
    | nil => simp only [List.length_nil] at lz_; omega
    | cons a1_ a2_ =>
      cases a2_ with
      | nil => exact ⟨a1_, rfl⟩
      | cons a3_ a4_ => simp only [List.length_cons] at lz_; push_cast at lz_; omega
  have by1_ := h3_ vy_ (by simp)
  have lxy_ : vy_.length = vx_.length := by omega
  have oln_ : (g_ch F_ cc_ G_ vy_ vx_).1.length = vy_.length := g_z2_ln _ _ _ lxy_
  have h1_ : ev F_ I_ A_ X_ m_ s0_ c_ = some ((G_, s0_.1.2), s0_.2.1, s0_.2.2.1, vx_ :: vy_ :: [cc_] :: V3_) := h1_
  have evn_ := ev_ch h1_ lxy_ by1_.1
  obtain ⟨t1_, t2_, t3_, t4_⟩ := hs_
  refine ⟨⟨t1_.2.2, ?_, ?_, ?_⟩, ⟨(g_ch F_ cc_ G_ vy_ vx_).2, (g_ch F_ cc_ G_ vy_ vx_).1 :: V3_, evn_, ?_, fun v_ hv_ => ?_⟩, ow_.2⟩
  · have t2_ : 1 + o_mk o_ ≤ 60 := t2_
    show o_mk o_ ≤ 60
    omega
  · show (y_ :: g_).length = o_hl o_ + 1
    have t3_ : (x_ :: y_ :: z_ :: g_).length = (2 + o_hl o_) + 1 := t3_
    simp only [List.length_cons] at t3_ ⊢
    omega
  · exact h_ok_c.mpr ⟨(h_ok_c.mp (h_ok_c.mp t4_).2).1, (h_ok_c.mp (h_ok_c.mp (h_ok_c.mp t4_).2).2).2⟩
  · rw [List.map_cons, xm3_, oln_, ly_]
  · rcases List.mem_cons.mp hv_ with w_ | w_
    · rw [w_, oln_]; exact by1_
    · exact h3_ v_ (by simp [w_])
theorem xto_se {ls_ : Int} (h1_ : 1 ≤ ls_) : ∀ (o_ : List (Int × Nat)) (h_ c_ : List Int) (s_ : pO), xto F_ I_ A_ X_ m_ s0_ (o_, h_, c_) → p_se2 1 ls_ (o_, h_, c_) = .inr s_ → xto F_ I_ A_ X_ m_ s0_ s_
  | [], h_, c_, s_, x_, e_ => by
    have q_ : p_se2 1 ls_ ([], h_, c_) = .inr ([], h_, c_) := p_se_st (show (0 : Int) < ls_ by omega)
    rw [q_] at e_
    cases e_
    exact x_
  | (k_, q_) :: o_, h_, c_, s_, x_, e_ => by
    by_cases g_ : ls_ ≤ k_
    · obtain ⟨y_, z_, l_, hl_⟩ := s_ok_2 (show 1 ≤ k_ by omega) x_.1
      subst hl_
      have w_ := se1_ap g_ e_
      exact xto_se h1_ o_ _ _ s_ (xto_ap x_ (by omega) w_.1) w_.2
    · have q_ : p_se2 1 ls_ ((k_, q_) :: o_, h_, c_) = .inr ((k_, q_) :: o_, h_, c_) := p_se_st (show k_ < ls_ by omega)
      rw [q_] at e_
      cases e_
      exact x_
theorem xto_sa : ∀ (o_ : List (Int × Nat)) (h_ c_ : List Int) (s_ : pO), xto F_ I_ A_ X_ m_ s0_ (o_, h_, c_) → p_sa2 1 (o_, h_, c_) = .inr s_ → xto F_ I_ A_ X_ m_ s0_ s_
  | [], h_, c_, s_, x_, e_ => by
    have q_ : p_sa2 1 ([], h_, c_) = .inr ([], h_, c_) := p_sa_st (show (0 : Int) < 1 by decide) (show (0 : Int) ≠ -4 by decide)
    rw [q_] at e_
    cases e_
    exact x_
  | (k_, q_) :: o_, h_, c_, s_, x_, e_ => by
    by_cases g4_ : k_ = -4
    · subst g4_
      obtain ⟨y_, z_, w_, l_, hl_⟩ := s_ok_3 x_.1
      subst hl_
      have w_ := sa1_ch e_
      exact xto_sa o_ _ _ s_ (xto_ch x_ w_.1) w_.2
    · by_cases g1_ : 1 ≤ k_
      · obtain ⟨y_, z_, l_, hl_⟩ := s_ok_2 g1_ x_.1
        subst hl_
        have e2_ : p_sa false ((k_, q_) :: o_) (y_ :: z_ :: l_) c_ = .inr s_ := e_
        rw [p_sa, if_neg g4_, if_pos g1_] at e2_
        have e2_ : pb (p_ap false k_ q_ z_ y_ c_) (fun r_ => p_sa false o_ (r_.1 :: l_) r_.2) = .inr s_ := e2_
        rw [ap_f] at e2_
        by_cases w_ : z_ = y_
        · rw [if_pos w_] at e2_
          exact xto_sa o_ _ _ s_ (xto_ap x_ g1_ w_) e2_
        · rw [if_neg w_] at e2_
          cases e2_
      · have q_ : p_sa2 1 ((k_, q_) :: o_, h_, c_) = .inr ((k_, q_) :: o_, h_, c_) := p_sa_st (show k_ < 1 by omega) g4_
        rw [q_] at e_
        cases e_
        exact x_
/-- what stands between operators is_ pushed -/
def pr_ev (F_ I_ : Nat) (A_ : pA) (X_ : Nat → gQ → gE → Option (gQ × gE)) (m_ : Nat) (s0_ : gS) (pr_ : pPr) : Prop := ∀ p_ r_, pr_ p_ = .inr r_ → ∃ v_, ev1 F_ I_ A_ X_ m_ s0_.2.1 s0_.2.2.1 r_.2.2 v_ ∧ (v_.length : Int) = r_.2.1 ∧ (1 ≤ v_.length ∧ v_.length ≤ 8)
theorem xt1_ti {t_ : Bool} {h_ c_ : List Int} {x_ : Int} (w_ : xt1 F_ I_ A_ X_ m_ s0_ (x_ :: h_) c_) : xt1 F_ I_ A_ X_ m_ s0_ (p_ti false t_ (x_ :: h_) c_).1 (p_ti false t_ (x_ :: h_) c_).2 := by
  rw [ti2]
  cases t_ with
  | false => exact w_
  | true =>
    obtain ⟨G_, V_, h1_, h2_, h3_⟩ := w_
    obtain ⟨v_, V1_, rfl, lv_, xm_⟩ := mp_c h2_
    refine ⟨G_, _, ev_no h1_, ?_, fun u_ hu_ => ?_⟩
    · rw [List.map_cons, List.length_map, ← h2_, List.map_cons]
    · rcases List.mem_cons.mp hu_ with z_ | z_
      · rw [z_, List.length_map]
        exact h3_ v_ (by simp)
      · exact h3_ u_ (by simp [z_])
theorem xtx_st (hn_ : n_ ≤ 1280) (hpr_ : pr_ok b_ n_ pr_) (hev_ : pr_ev F_ I_ A_ X_ m_ s0_ pr_) {x_ : pX} {z_ : pX ⊕ pR} (h_ : xtx b_ n_ F_ I_ A_ X_ m_ s0_ x_) (e_ : p_st b_ n_ false pr_ x_ = .inr z_) : (∀ y_, z_ = .inl y_ → xtx b_ n_ F_ I_ A_ X_ m_ s0_ y_) ∧ ∀ r_, z_ = .inr r_ → xto F_ I_ A_ X_ m_ s0_ ([], r_.2.1, r_.2.2) := by
  obtain ⟨ph_, t_, p_, o_, g_, c_⟩ := x_
  obtain ⟨hx_, ht_, ho_⟩ := h_
  have hph_ : ph_ ≤ 1 := hx_.1
  have lim_ := o_lim hx_.2.1.1 hx_.2.1.2.1
  by_cases p0_ : ph_ = 0
  · subst p0_
    have ho_ : o_wd o_ g_ := ho_
    by_cases k33_ : lx_kd b_ n_ p_ = 33
    · have e1_ := e_
      rw [pA_b k33_] at e1_
      obtain ⟨q_, q1_, q2_⟩ := pb_inr e1_
      cases q2_
      exact ⟨fun y_ hy_ => (by cases hy_; exact ⟨x_st hn_ hpr_ hx_ e_, ht_, ho_⟩), fun r_ hr_ => (by cases hr_)⟩
    · by_cases k40_ : lx_kd b_ n_ p_ = 40
      · by_cases k60_ : o_mk o_ = 60
        · rw [pA_x k40_ k60_] at e_; cases e_
        · have e1_ := e_
          rw [pA_o k40_ k60_] at e1_
          obtain ⟨q_, q1_, q2_⟩ := pb_inr e1_
          cases q2_
          refine ⟨fun y_ hy_ => ?_, fun r_ hr_ => by cases hr_⟩
          cases hy_
          refine ⟨x_st hn_ hpr_ hx_ e_, ht_, ?_⟩
          show o_wd ((if t_ = true then -2 else -1, p_) :: o_) g_
          have q8_ : (if t_ = true then (-2 : Int) else -1) = -2 ∨ (if t_ = true then (-2 : Int) else -1) = -1 := by cases t_; right; rfl; left; rfl
          unfold o_wd
          rw [if_neg (by show ¬ (if t_ = true then (-2 : Int) else -1) = -3; omega), if_neg (by show ¬ (if t_ = true then (-2 : Int) else -1) = -4; omega), if_pos (by show (if t_ = true then (-2 : Int) else -1) < 0; omega)]
          exact ho_
      · have e1_ := e_
        rw [pA_p k33_ k40_] at e1_
        obtain ⟨r1_, q1_, q2_⟩ := pb_inr e1_
        cases q2_
        refine ⟨fun y_ hy_ => ?_, fun r_ hr_ => by cases hr_⟩
        cases hy_
        obtain ⟨v_, v1_, v2_, v3_⟩ := hev_ p_ r1_ q1_
        obtain ⟨G_, V_, h1_, h2_, h3_⟩ := ht_
        have h2_ : V_.map (fun v_ => (v_.length : Int)) = g_ := h2_
        have gl1_ : g_.length = o_hl o_ + 0 := hx_.2.1.2.2.1
        have gl2_ : o_hl o_ ≤ 425 := lim_.2
        have Vl_ : V_.length = g_.length := by rw [← h2_, List.length_map]
        have w_ : xt1 F_ I_ A_ X_ m_ s0_ (r1_.2.1 :: g_) (r1_.2.2 ++ c_) := ⟨G_, v_ :: V_, v1_ _ V_ c_ s0_ (by omega) h1_, by rw [List.map_cons, h2_, v2_], fun u_ hu_ => by
          rcases List.mem_cons.mp hu_ with z_ | z_
          · rw [z_]; exact v3_
          · exact h3_ u_ z_⟩
        refine ⟨x_st hn_ hpr_ hx_ e_, xt1_ti w_, ?_⟩
        show o_wd o_ (p_ti false t_ (r1_.2.1 :: g_) (r1_.2.2 ++ c_)).1.tail
        rw [ti2]
        exact ho_
  · have p1_ : ph_ = 1 := by omega
    subst p1_
    have ho_ : o_wd o_ g_.tail := ho_
    have hxo_ : xto F_ I_ A_ X_ m_ s0_ (o_, g_, c_) := ⟨hx_.2.1, ht_, ho_⟩
    have B2_ : ∀ s_, xto F_ I_ A_ X_ m_ s0_ s_ → p_B2 b_ n_ false p_ s_ = .inr z_ → (∀ y_, z_ = .inl y_ → xtx b_ n_ F_ I_ A_ X_ m_ s0_ y_) ∧ ∀ r_, z_ = .inr r_ → xto F_ I_ A_ X_ m_ s0_ ([], r_.2.1, r_.2.2) := by
      intro s_ hs_ e2_
      by_cases k63_ : lx_kd b_ n_ p_ = 63
      · obtain ⟨s1_, q_, h1_, h2_, h3_, h4_, h5_⟩ := B2_q e2_ k63_
        have w_ := xto_se (by decide) s_.1 s_.2.1 s_.2.2 s1_ hs_ h1_
        refine ⟨fun y_ hy_ => ?_, fun r_ hr_ => by rw [h5_] at hr_; cases hr_⟩
        rw [h5_] at hy_
        cases hy_
        refine ⟨x_st hn_ hpr_ hx_ (by rw [e_, h5_]), w_.2.1, ?_⟩
        show o_wd ((-3, p_) :: s1_.1) s1_.2.1
        obtain ⟨a9_, g9_, hg9_⟩ := s_ok_1 w_.1
        have q9_ := w_.2.2
        rw [hg9_] at q9_ h3_ ⊢
        unfold o_wd
        rw [if_pos rfl]
        exact ⟨h3_, q9_⟩
      · obtain ⟨s1_, h1_, h2_⟩ := B2_n e2_ k63_
        have w_ := xto_sa s_.1 s_.2.1 s_.2.2 s1_ hs_ h1_
        have lt6_ := p_sa_ok s_.1 s_.2.1 s_.2.2 s1_ hs_.1 h1_
        obtain ⟨so_, sg_, sc_⟩ := s1_
        cases so_ with
        | nil =>
          have q9_ : z_ = .inr (p_, sg_, sc_) := (Sum.inr.inj h2_).symm
          exact ⟨fun y_ hy_ => (by rw [q9_] at hy_; cases hy_), fun r_ hr_ => (by rw [q9_] at hr_; cases hr_; exact w_)⟩
        | cons kq_ o8_ =>
          obtain ⟨k8_, q8_⟩ := kq_
          by_cases k3_ : k8_ = -3
          · subst k3_
            rw [b3_q] at h2_
            obtain ⟨q7_, q71_, q72_⟩ := pb_inr h2_
            have q72_ := Sum.inr.inj q72_
            refine ⟨fun y_ hy_ => ?_, fun r_ hr_ => by rw [← q72_] at hr_; cases hr_⟩
            rw [← q72_] at hy_
            cases hy_
            refine ⟨x_st hn_ hpr_ hx_ (by rw [e_, ← q72_]), w_.2.1, ?_⟩
            show o_wd ((-4, q8_) :: o8_) sg_
            obtain ⟨a9_, g9_, hg9_⟩ := s_ok_1 w_.1
            have hg9_ : sg_ = a9_ :: g9_ := hg9_
            have q9_ : o_wd ((-3, q8_) :: o8_) sg_.tail := w_.2.2
            rw [hg9_] at q9_ ⊢
            have q9_ : o_wd ((-3, q8_) :: o8_) g9_ := q9_
            unfold o_wd at q9_ ⊢
            rw [if_pos rfl] at q9_
            rw [if_neg (by show ¬ (-4 : Int) = -3; decide), if_pos rfl]
            cases g9_ with
            | nil => exact q9_.elim
            | cons c9_ l9_ => exact q9_
          · rw [b3_c k3_] at h2_
            obtain ⟨q7_, q71_, q72_⟩ := pb_inr h2_
            have q72_ := Sum.inr.inj q72_
            refine ⟨fun y_ hy_ => ?_, fun r_ hr_ => by rw [← q72_] at hr_; cases hr_⟩
            rw [← q72_] at hy_
            cases hy_
            obtain ⟨a9_, g9_, hg9_⟩ := s_ok_1 w_.1
            have hg9_ : sg_ = a9_ :: g9_ := hg9_
            subst hg9_
            refine ⟨x_st hn_ hpr_ hx_ (by rw [e_, ← q72_]), xt1_ti w_.2.1, ?_⟩
            show o_wd o8_ (p_ti false (decide (k8_ = -2)) (a9_ :: g9_) sc_).1.tail
            rw [ti2]
            have q9_ : o_wd ((k8_, q8_) :: o8_) g9_ := w_.2.2
            have k8c := o_ok3 w_.1.1 lt6_.2.2.1 lt6_.2.2.2
            unfold o_wd at q9_
            rw [if_neg (by show ¬ k8_ = -3; exact k3_), if_neg (by show ¬ k8_ = -4; omega), if_pos (by show k8_ < 0; omega)] at q9_
            exact q9_
    by_cases l1_ : 0 < p_lv false (lx_kd b_ n_ p_)
    · have e1_ := e_
      rw [pB_l l1_] at e1_
      obtain ⟨s1_, h1_, h2_⟩ := pb_inr e1_
      have w_ := xto_se (ls_ := if p_lv false (lx_kd b_ n_ p_) = 4 then 5 else p_lv false (lx_kd b_ n_ p_)) (by split <;> omega) o_ g_ c_ s1_ hxo_ h1_
      rcases B1_r h2_ l1_ with ⟨z1_, q_, z2_, z3_⟩ | ⟨z1_, z2_⟩
      · refine ⟨fun y_ hy_ => ?_, fun r_ hr_ => by rw [z3_] at hr_; cases hr_⟩
        rw [z3_] at hy_
        cases hy_
        refine ⟨x_st hn_ hpr_ hx_ (by rw [e_, z3_]), w_.2.1, ?_⟩
        show o_wd ((p_lv false (lx_kd b_ n_ p_), p_) :: s1_.1) s1_.2.1
        obtain ⟨a9_, g9_, hg9_⟩ := s_ok_1 w_.1
        have q9_ := w_.2.2
        rw [hg9_] at q9_ ⊢
        unfold o_wd
        rw [if_neg (by show ¬ p_lv false (lx_kd b_ n_ p_) = -3; omega), if_neg (by show ¬ p_lv false (lx_kd b_ n_ p_) = -4; omega), if_neg (by show ¬ p_lv false (lx_kd b_ n_ p_) < 0; omega)]
        exact q9_
      · exact B2_ s1_ w_ z2_
    · have e1_ := e_
      rw [pB_n l1_] at e1_
      exact B2_ (o_, g_, c_) hxo_ e1_
theorem xtx_xr (hn_ : n_ ≤ 1280) (hpr_ : pr_ok b_ n_ pr_) (hev_ : pr_ev F_ I_ A_ X_ m_ s0_ pr_) : ∀ (f_ : Nat) (x_ : pX) (r_ : pR), xtx b_ n_ F_ I_ A_ X_ m_ s0_ x_ → p_xr b_ n_ false pr_ f_ x_ = some (.inr r_) → xto F_ I_ A_ X_ m_ s0_ ([], r_.2.1, r_.2.2)
  | 0, _, _, _, e_ => by cases e_
  | f_ + 1, x_, r_, h_, e_ => by
    rw [p_xr] at e_
    cases hs_ : p_st b_ n_ false pr_ x_ with
    | inl z_ => rw [hs_] at e_; cases e_
    | inr z_ =>
      rw [hs_] at e_
      have w_ := xtx_st hn_ hpr_ hev_ h_ hs_
      cases z_ with
      | inl y_ => exact xtx_xr hn_ hpr_ hev_ f_ y_ r_ (w_.1 y_ rfl) e_
      | inr r9_ => cases e_; exact w_.2 r_ rfl
/-- the_ value of_ an_ expression -/
theorem ex_tot {p_ : Nat} {r_ : pR} (hn_ : n_ ≤ 1280) (hpr_ : pr_ok b_ n_ pr_) (hev_ : pr_ev F_ I_ A_ X_ m_ s0_ pr_) (hp_ : p_ ≤ n_) (hk_ : lx_kd b_ n_ p_ ≠ -1) (hV_ : s0_.2.2.2 = []) (e_ : p_ex b_ n_ false pr_ [] p_ = .inr r_) : ∃ G_ v_, ev F_ I_ A_ X_ m_ s0_ r_.2.2 = some ((G_, s0_.1.2), s0_.2.1, s0_.2.2.1, [v_]) ∧ h_tp r_.2.1 = (v_.length : Int) ∧ (1 ≤ v_.length ∧ v_.length ≤ 8) := by
  unfold p_ex at e_
  cases q_ : p_xr b_ n_ false pr_ (n_ + 1) (0, false, p_, [], [], []) with
  | none => rw [q_] at e_; cases e_
  | some y_ =>
    rw [q_] at e_
    have e_ : y_ = .inr r_ := e_
    subst e_
    have w_ := xtx_xr (F_ := F_) (I_ := I_) (A_ := A_) (X_ := X_) (m_ := m_) (s0_ := s0_) hn_ hpr_ hev_ (n_ + 1) _ r_ ⟨x_ok_0 hp_ hk_ (Nat.zero_le _), ⟨s0_.1.1, [], by
      rw [ev_n]
      obtain ⟨⟨q1_, q2_⟩, q3_, q4_, q5_⟩ := s0_
      have hV_ : q5_ = [] := hV_
      subst hV_
      rfl, rfl, fun v_ hv_ => by cases hv_⟩, trivial⟩ q_
    obtain ⟨ws, ⟨G_, V_, h1_, h2_, h3_⟩, -⟩ := w_
    have q1_ : r_.2.1.length = 0 + 1 := ws.2.2.1
    have Vl_ : V_.length = 1 := by
      have h2_ : V_.map (fun v_ => (v_.length : Int)) = r_.2.1 := h2_
      rw [← h2_, List.length_map] at q1_
      omega
    obtain ⟨v_, rfl⟩ : ∃ v_, V_ = [v_] := by
      cases V_ with
      | nil => cases Vl_
      | cons v_ V_ =>
        cases V_ with
        | nil => exact ⟨v_, rfl⟩
        | cons _ _ => simp at Vl_
    have h2_ : [(v_.length : Int)] = r_.2.1 := h2_
    exact ⟨G_, v_, h1_, by rw [← h2_]; rfl, h3_ v_ (by simp)⟩
end TOT_
end
