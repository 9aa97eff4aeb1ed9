/-! M_.choice -/
def vw_332 : sx_Wl := ([(13, 37)], [139, 140, 141, 142, 143], [])
def vq_332 (ci_ : Int) (F_ : Nat) (G_ : pGr) (c_ : Int) (va_ : List Int) (ve_ : List Int) (S0_ : sm_S) (u_ : Option sm_V) (S1_ : sm_S) : Prop := u_ = none ∧ gi S1_ ∧ ai_fr (sx_W vw_332) S0_ S1_ ∧ (rgl F_ (g_ch F_ c_ G_ va_ ve_).2 S1_ ∧ (imq ((g_ch F_ c_ G_ va_ ve_).2.length ≤ 1001) (rwv (S1_.2.2.1 139 0) (8 * ci_.toNat) (g_ch F_ c_ G_ va_ ve_).1)) ∧ ∀ j_ : Nat, j_ < 8 * ci_.toNat ∨ 8 * ci_.toNat + 8 ≤ j_ → S1_.2.2.1 139 0 j_ = S0_.2.2.1 139 0 j_)
set_option maxHeartbeats 1500000 in
theorem vl_332 {sc_ : Nat × (Nat → Int)} (ci_ : Int) (F_ : Nat) (G_ : pGr) (c_ : Int) (va_ : List Int) (ve_ : List Int) (S0_ : sm_S) (hg_ : rgl F_ G_ S0_) (ha_ : 0 ≤ ci_ ∧ ci_ ≤ 1021) (hw_ : S0_.2.2.1 138 0 (ci_.toNat + 1) = (va_.length : Int)) (hn_ : va_.length = ve_.length ∧ va_.length ≤ 8) (hr_ : imq (G_.length ≤ 1001) (rwv (S0_.2.2.1 139 0) (8 * ci_.toNat) [c_] ∧ rwv (S0_.2.2.1 139 0) (8 * (ci_.toNat + 1)) va_ ∧ rwv (S0_.2.2.1 139 0) (8 * (ci_.toNat + 2)) ve_)) : ∀ nn_ : Nat, (∀ (cb_ : Int) (k_ : Int) (S_ : sm_S), gi S_ → ai_fr (sx_W vw_332) S0_ S_ → ((0 ≤ k_ ∧ k_ ≤ (va_.length : Int) ∧ 0 ≤ cb_ ∧ cb_ ≤ 2047) ∧ (∃ (G1_ : pGr) (d_ r_ t_ e1_ e2_ : List Int), rgl F_ G1_ S_ ∧ (d_.length : Int) = k_ ∧ (e1_.length : Int) = k_ ∧ (e2_.length : Int) = k_ ∧ r_.length = t_.length ∧ k_ + r_.length = va_.length ∧ va_ = e1_ ++ r_ ∧ ve_ = e2_ ++ t_ ∧ (imq (G1_.length ≤ 1001) (cb_ = c_ ∧ rwv (S_.2.2.1 139 0) (8 * ci_.toNat) d_ ∧ rwv (S_.2.2.1 139 0) (8 * (ci_.toNat + 1)) va_ ∧ rwv (S_.2.2.1 139 0) (8 * (ci_.toNat + 2)) ve_)) ∧ G_.length ≤ G1_.length ∧ (g_ch F_ c_ G_ va_ ve_) = (d_ ++ (g_ch F_ c_ G1_ r_ t_).1, (g_ch F_ c_ G1_ r_ t_).2)) ∧ (∀ j_ : Nat, j_ < 8 * ci_.toNat ∨ 8 * ci_.toNat + 8 ≤ j_ → S_.2.2.1 139 0 j_ = S0_.2.2.1 139 0 j_) ∧ True) → (((va_.length : Int) - k_).toNat) < nn_ → sm_T (mt_P sc_) 3 332 (12, [some (.inr (.inr (some (13, 0)))), some (.inl ci_), some (.inl cb_), some (.inl k_), none, none], [], S_) (fun ro9_ => ∃ u_ S1_, ro9_ = (.inl u_, S1_, 0) ∧ vq_332 ci_ F_ G_ c_ va_ ve_ S0_ u_ S1_)) := by
  intro nn_
  induction nn_ with
  | zero => exact fun _ _ _ _ _ _ h_ => absurd h_ (Nat.not_lt_zero _)
  | succ nn_ ih_ =>
    rintro cb_ k_ S_ hI_ hF_ ⟨h0_, h1_, h2_, -⟩ hm_
    obtain ⟨G1_, d_, r_, t_, e1_, e2_, z1_, z2_, z2b, z2c, z3_, z4_, z5_, z5b, z6_, z7_, z8_⟩ := h1_
    have wt : S_.2.2.1 138 0 (ci_ + 1).toNat = (va_.length : Int) := by rw [show (ci_ + 1).toNat = ci_.toNat + 1 by omega, fr_arr (t := 138) (i := 0) hF_ rfl]; exact hw_
    refine sm_T_go 5 (c1 := (19, [some (.inr (.inr (some (13, 0)))), some (.inl ci_), some (.inl cb_), some (.inl k_), none, none], [.inl 1, .inl ci_, .inr (.inr (some (138, 0))), .inl k_], S_)) rfl ?_
    refine sm_T_bin (w := ci_ + 1) rfl (bi_add (by omega) (by omega) (by omega)) ?_
    refine sm_T_iald (n := 1024) rfl rfl (by omega) (by omega) ?_
    have bx1_ : (-2147483648) ≤ S_.2.2.1 138 0 (ci_ + 1).toNat ∧ S_.2.2.1 138 0 (ci_ + 1).toNat ≤ 2147483647 := hI_.2 138 0 _
    refine sm_T_br (a := 3) (z := 72) rfl (fun cx2_ => ?_) (fun cx2_ => ?_)
    · have cx2_ : (S_.2.2.1 138 0 (ci_ + 1).toNat) ≤ k_ := of_decide_eq_true cx2_
      refine sm_T_rv rfl ⟨_, _, rfl, rfl, hI_, hF_, ?_⟩
      have kr_ : r_ = [] := List.eq_nil_of_length_eq_zero (by omega)
      have ks_ : t_ = [] := List.eq_nil_of_length_eq_zero (by omega)
      rw [kr_, ks_] at z8_
      have q8_ : g_ch F_ c_ G1_ [] [] = ([], G1_) := rfl
      rw [q8_, List.append_nil] at z8_
      rw [z8_]
      exact ⟨z1_, fun z_ => (z6_ z_).2.1, h2_⟩
    · have cx2_ : ¬ ((S_.2.2.1 138 0 (ci_ + 1).toNat) ≤ k_) := of_decide_eq_false cx2_
      obtain ⟨r0_, r_, rfl⟩ : ∃ r0_ r1_, r_ = r0_ :: r1_ := by cases r_ with | nil => (simp only [List.length_nil] at z4_; omega) | cons p_ q_ => exact ⟨p_, q_, rfl⟩
      obtain ⟨s0_, t_, rfl⟩ : ∃ s0_ s1_, t_ = s0_ :: s1_ := by cases t_ with | nil => (simp only [List.length_nil, List.length_cons] at z3_ z4_; omega) | cons p_ q_ => exact ⟨p_, q_, rfl⟩
      have rx : imq (G1_.length ≤ 1001) (S_.2.2.1 139 0 (8 * ci_ + k_ + 8).toNat = r0_ ∧ S_.2.2.1 139 0 (8 * ci_ + k_ + 16).toNat = s0_) := fun z_ => by rw [show (8 * ci_ + k_ + 8).toNat = 8 * (ci_.toNat + 1) + e1_.length by omega, show (8 * ci_ + k_ + 16).toNat = 8 * (ci_.toNat + 2) + e2_.length by omega]; exact ⟨rwv_m (by rw [← z5_]; exact (z6_ z_).2.2.1), rwv_m (by rw [← z5b]; exact (z6_ z_).2.2.2)⟩
      have l1_ := (g_an_le (F_ := F_) (G_ := G1_) (a_ := c_) (b_ := r0_)).1
      have l2_ := (g_an_le (F_ := F_) (G_ := (g_an F_ G1_ c_ r0_).2) (a_ := i_xor c_ 1) (b_ := s0_)).1
      have l3_ := g_or_le (F_ := F_) (G_ := (g_an F_ (g_an F_ G1_ c_ r0_).2 (i_xor c_ 1) s0_).2) (a_ := (g_an F_ G1_ c_ r0_).1) (b_ := (g_an F_ (g_an F_ G1_ c_ r0_).2 (i_xor c_ 1) s0_).1)
      refine sm_T_go 6 (c1 := (33, [some (.inr (.inr (some (13, 0)))), some (.inl ci_), some (.inl cb_), some (.inl k_), none, none], [.inl ci_, .inl 8, .inr (.inr (some (139, 0))), .inl cb_, .inr (.inr (some (13, 0)))], S_)) rfl ?_
      refine sm_T_bin (w := 8 * ci_) rfl (bi_mul (by omega) (by omega) (by omega)) ?_
      refine sm_T_go 1 (c1 := (36, [some (.inr (.inr (some (13, 0)))), some (.inl ci_), some (.inl cb_), some (.inl k_), none, none], [.inl 8, .inl (8 * ci_), .inr (.inr (some (139, 0))), .inl cb_, .inr (.inr (some (13, 0)))], S_)) rfl ?_
      refine sm_T_bin (w := 8 * ci_ + 8) rfl (bi_add (by omega) (by omega) (by omega)) ?_
      refine sm_T_go 1 (c1 := (38, [some (.inr (.inr (some (13, 0)))), some (.inl ci_), some (.inl cb_), some (.inl k_), none, none], [.inl k_, .inl (8 * ci_ + 8), .inr (.inr (some (139, 0))), .inl cb_, .inr (.inr (some (13, 0)))], S_)) rfl ?_
      refine sm_T_bin (w := 8 * ci_ + k_ + 8) rfl (bi_add (by omega) (by omega) (by omega)) ?_
      refine sm_T_iald (n := 8192) rfl rfl (by omega) (by omega) ?_
      have bx3_ : 0 ≤ S_.2.2.1 139 0 (8 * ci_ + k_ + 8).toNat ∧ S_.2.2.1 139 0 (8 * ci_ + k_ + 8).toNat ≤ 2047 := hI_.2 139 0 _
      refine sm_T_cal (d1 := 0) (Q1 := vq_328 cb_ (S_.2.2.1 139 0 (8 * ci_ + k_ + 8).toNat) F_ G1_ c_ r0_ S_) rfl rfl (by decide) (vc_328 cb_ (S_.2.2.1 139 0 (8 * ci_ + k_ + 8).toNat) F_ G1_ c_ r0_ S_ hI_ (by exact z1_) (by omega) (by omega) (by (intro z_; exact ⟨(z6_ z_).1, (rx z_).1⟩))) (fun u_ Sx4_ px7_ => ?_)
      obtain ⟨vx9_, rfl, hIx5_, hFx6_, px7_⟩ := px7_
      have hFx8_ : ai_fr (sx_W vw_332) S0_ Sx4_ := ai_fr_tr hF_ (fr_le hFx6_ rfl)
      have e58_ := px7_
      have f40_ : Sx4_.2.2.1 139 0 = S_.2.2.1 139 0 := fr_arr hFx6_ rfl
      refine sm_T_go 4 (c1 := (48, [some (.inr (.inr (some (13, 0)))), some (.inl ci_), some (.inl cb_), some (.inl k_), some (.inl vx9_), none], [.inl 1, .inl cb_, .inr (.inr (some (13, 0)))], Sx4_)) rfl ?_
      refine sm_T_bin (w := (i_xor cb_ 1)) rfl rfl ?_
      have bx10_ := i_x1 (x_ := cb_) (by omega)
      refine sm_T_go 4 (c1 := (56, [some (.inr (.inr (some (13, 0)))), some (.inl ci_), some (.inl cb_), some (.inl k_), some (.inl vx9_), none], [.inl ci_, .inl 8, .inr (.inr (some (139, 0))), .inl (i_xor cb_ 1), .inr (.inr (some (13, 0)))], Sx4_)) rfl ?_
      refine sm_T_bin (w := 8 * ci_) rfl (bi_mul (by omega) (by omega) (by omega)) ?_
      refine sm_T_go 1 (c1 := (59, [some (.inr (.inr (some (13, 0)))), some (.inl ci_), some (.inl cb_), some (.inl k_), some (.inl vx9_), none], [.inl 16, .inl (8 * ci_), .inr (.inr (some (139, 0))), .inl (i_xor cb_ 1), .inr (.inr (some (13, 0)))], Sx4_)) rfl ?_
      refine sm_T_bin (w := 8 * ci_ + 16) rfl (bi_add (by omega) (by omega) (by omega)) ?_
      refine sm_T_go 1 (c1 := (61, [some (.inr (.inr (some (13, 0)))), some (.inl ci_), some (.inl cb_), some (.inl k_), some (.inl vx9_), none], [.inl k_, .inl (8 * ci_ + 16), .inr (.inr (some (139, 0))), .inl (i_xor cb_ 1), .inr (.inr (some (13, 0)))], Sx4_)) rfl ?_
      refine sm_T_bin (w := 8 * ci_ + k_ + 16) rfl (bi_add (by omega) (by omega) (by omega)) ?_
      refine sm_T_iald (n := 8192) rfl rfl (by omega) (by omega) ?_
      have bx11_ : 0 ≤ Sx4_.2.2.1 139 0 (8 * ci_ + k_ + 16).toNat ∧ Sx4_.2.2.1 139 0 (8 * ci_ + k_ + 16).toNat ≤ 2047 := hIx5_.2 139 0 _
      refine sm_T_cal (d1 := 0) (Q1 := vq_328 (i_xor cb_ 1) (Sx4_.2.2.1 139 0 (8 * ci_ + k_ + 16).toNat) F_ (g_an F_ G1_ c_ r0_).2 (i_xor c_ 1) s0_ Sx4_) rfl rfl (by decide) (vc_328 (i_xor cb_ 1) (Sx4_.2.2.1 139 0 (8 * ci_ + k_ + 16).toNat) F_ (g_an F_ G1_ c_ r0_).2 (i_xor c_ 1) s0_ Sx4_ hIx5_ (by exact e58_.1) (by omega) (by omega) (by (intro z_; refine ⟨by rw [(z6_ (by omega)).1], ?_⟩; rw [f40_]; exact (rx (by omega)).2))) (fun u_ Sx12_ px15_ => ?_)
      obtain ⟨vx17_, rfl, hIx13_, hFx14_, px15_⟩ := px15_
      have hFx16_ : ai_fr (sx_W vw_332) S0_ Sx12_ := ai_fr_tr hFx8_ (fr_le hFx14_ rfl)
      have e83_ := px15_
      have f63_ : Sx12_.2.2.1 139 0 = S_.2.2.1 139 0 := (fr_arr hFx14_ rfl).trans f40_
      refine sm_T_go 5 (c1 := (75, [some (.inr (.inr (some (13, 0)))), some (.inl ci_), some (.inl cb_), some (.inl k_), some (.inl vx9_), some (.inl vx17_)], [.inl ci_, .inl 8, .inr (.inr (some (139, 0)))], Sx12_)) rfl ?_
      refine sm_T_bin (w := 8 * ci_) rfl (bi_mul (by omega) (by omega) (by omega)) ?_
      refine sm_T_go 1 (c1 := (77, [some (.inr (.inr (some (13, 0)))), some (.inl ci_), some (.inl cb_), some (.inl k_), some (.inl vx9_), some (.inl vx17_)], [.inl k_, .inl (8 * ci_), .inr (.inr (some (139, 0)))], Sx12_)) rfl ?_
      refine sm_T_bin (w := 8 * ci_ + k_) rfl (bi_add (by omega) (by omega) (by omega)) ?_
      refine sm_T_go 3 (c1 := (83, [some (.inr (.inr (some (13, 0)))), some (.inl ci_), some (.inl cb_), some (.inl k_), some (.inl vx9_), some (.inl vx17_)], [.inl vx17_, .inl vx9_, .inr (.inr (some (13, 0))), .inl (8 * ci_ + k_), .inr (.inr (some (139, 0)))], Sx12_)) rfl ?_
      refine sm_T_cal (d1 := 1) (Q1 := vq_329 vx9_ vx17_ F_ (g_an F_ (g_an F_ G1_ c_ r0_).2 (i_xor c_ 1) s0_).2 (g_an F_ G1_ c_ r0_).1 (g_an F_ (g_an F_ G1_ c_ r0_).2 (i_xor c_ 1) s0_).1 Sx12_) rfl rfl (by decide) (vc_329 vx9_ vx17_ F_ (g_an F_ (g_an F_ G1_ c_ r0_).2 (i_xor c_ 1) s0_).2 (g_an F_ G1_ c_ r0_).1 (g_an F_ (g_an F_ G1_ c_ r0_).2 (i_xor c_ 1) s0_).1 Sx12_ hIx13_ (by exact e83_.1) (by omega) (by omega) (by (intro z_; exact ⟨e58_.2.1 (by omega), e83_.2.1 (by omega)⟩))) (fun u_ Sx18_ px21_ => ?_)
      obtain ⟨vx23_, rfl, hIx19_, hFx20_, px21_⟩ := px21_
      have hFx22_ : ai_fr (sx_W vw_332) S0_ Sx18_ := ai_fr_tr hFx16_ (fr_le hFx20_ rfl)
      have e100_ := px21_
      have f83_ : Sx18_.2.2.1 139 0 = S_.2.2.1 139 0 := (fr_arr hFx20_ rfl).trans f63_
      have g9_ : ∀ z9_ : Int, ∀ j9_ : Nat, (sm_aI Sx18_ 139 0 (8 * ci_ + k_).toNat z9_).2.2.1 139 0 j9_ = if j9_ = (8 * ci_ + k_).toNat then z9_ else S_.2.2.1 139 0 j9_ := fun z9_ j9_ => by rw [rd_eq, f83_]
      refine sm_T_iast (n := 8192) rfl rfl (by omega) (by omega) ?_
      have hIx24_ : gi (sm_aI Sx18_ 139 0 (8 * ci_ + k_).toNat vx23_) := gi_aI hIx19_ (show 0 ≤ vx23_ ∧ vx23_ ≤ 2047 from ⟨by omega, by omega⟩)
      have hFx25_ : ai_fr (sx_W vw_332) S0_ (sm_aI Sx18_ 139 0 (8 * ci_ + k_).toNat vx23_) := ai_fr_tr hFx22_ (ai_fr_aI rfl)
      refine sm_T_inc (a := 3) (z := 1) (v := k_) (w := k_ + 1) rfl rfl (by omega) (by omega) (by omega) ?_
      refine sm_T_go 1 (c1 := (12, [some (.inr (.inr (some (13, 0)))), some (.inl ci_), some (.inl cb_), some (.inl (k_ + 1)), some (.inl vx9_), some (.inl vx17_)], [], sm_aI Sx18_ 139 0 (8 * ci_ + k_).toNat vx23_)) rfl ?_
      refine sm_T_wk [some (.inr (.inr (some (13, 0)))), some (.inl ci_), some (.inl cb_), some (.inl (k_ + 1)), none, none] (by exact ⟨rfl, rfl, rfl, rfl, trivial⟩) ?_
      refine ih_ cb_ (k_ + 1) (sm_aI Sx18_ 139 0 (8 * ci_ + k_).toNat vx23_) hIx24_ hFx25_ ⟨?_, ?_, ?_, trivial⟩ ?_
      · omega
      · refine ⟨(g_c3 F_ G1_ c_ r0_ s0_).2, d_ ++ [(g_c3 F_ G1_ c_ r0_ s0_).1], r_, t_, e1_ ++ [r0_], e2_ ++ [s0_], rgl_st e100_.1, ?_, ?_, ?_, ?_, ?_, ?_, ?_, fun z_ => ?_, ?_, ?_⟩
        · simp only [List.length_append, List.length_cons, List.length_nil]; push_cast; omega
        · simp only [List.length_append, List.length_cons, List.length_nil]; push_cast; omega
        · simp only [List.length_append, List.length_cons, List.length_nil]; push_cast; omega
        · simp only [List.length_cons] at z3_; omega
        · simp only [List.length_cons] at z4_; push_cast at z4_; omega
        · rw [z5_, List.append_assoc]; rfl
        · rw [z5b, List.append_assoc]; rfl
        · have zz_ : (g_or F_ (g_an F_ (g_an F_ G1_ c_ r0_).2 (i_xor c_ 1) s0_).2 (g_an F_ G1_ c_ r0_).1 (g_an F_ (g_an F_ G1_ c_ r0_).2 (i_xor c_ 1) s0_).1).2.length ≤ 1001 := z_
          have q1_ := z6_ (by omega)
          refine ⟨q1_.1, ?_, ?_, ?_⟩
          · exact rwv_ap (q_ := (8 * ci_ + k_).toNat) q1_.2.1 (by omega) (fun j_ => by rw [g9_, e100_.2.1 z_]; rfl)
          · exact rwv_cg q1_.2.2.1 (fun j_ hj_ => by rw [g9_, if_neg (by omega)])
          · exact rwv_cg q1_.2.2.2 (fun j_ hj_ => by rw [g9_, if_neg (by omega)])
        · show _ ≤ (g_or F_ (g_an F_ (g_an F_ G1_ c_ r0_).2 (i_xor c_ 1) s0_).2 (g_an F_ G1_ c_ r0_).1 (g_an F_ (g_an F_ G1_ c_ r0_).2 (i_xor c_ 1) s0_).1).2.length; omega
        · rw [z8_]; exact g_z2_c
      · intro j_ hj_
        rw [g9_, if_neg (by omega)]
        exact h2_ j_ hj_
      · omega
set_option maxHeartbeats 1500000 in
theorem vc_332 {sc_ : Nat × (Nat → Int)} (ci_ : Int) (F_ : Nat) (G_ : pGr) (c_ : Int) (va_ : List Int) (ve_ : List Int) (S0_ : sm_S) (hI_ : gi S0_) (hg_ : rgl F_ G_ S0_) (ha_ : 0 ≤ ci_ ∧ ci_ ≤ 1021) (hw_ : S0_.2.2.1 138 0 (ci_.toNat + 1) = (va_.length : Int)) (hn_ : va_.length = ve_.length ∧ va_.length ≤ 8) (hr_ : imq (G_.length ≤ 1001) (rwv (S0_.2.2.1 139 0) (8 * ci_.toNat) [c_] ∧ rwv (S0_.2.2.1 139 0) (8 * (ci_.toNat + 1)) va_ ∧ rwv (S0_.2.2.1 139 0) (8 * (ci_.toNat + 2)) ve_)) : sm_T (mt_P sc_) 3 332 (0, [some (.inr (.inr (some (13, 0)))), some (.inl ci_), none, none, none, none], [], S0_) (fun ro9_ => ∃ u_ S1_, ro9_ = (.inl u_, S1_, 0) ∧ vq_332 ci_ F_ G_ c_ va_ ve_ S0_ u_ S1_) := by
  have hF_ : ai_fr (sx_W vw_332) S0_ S0_ := ai_fr_rf
  refine sm_T_go 4 (c1 := (7, [some (.inr (.inr (some (13, 0)))), some (.inl ci_), none, none, none, none], [.inl ci_, .inl 8, .inr (.inr (some (139, 0)))], S0_)) rfl ?_
  refine sm_T_bin (w := 8 * ci_) rfl (bi_mul (by omega) (by omega) (by omega)) ?_
  refine sm_T_iald (n := 8192) rfl rfl (by omega) (by omega) ?_
  have bx1_ : 0 ≤ S0_.2.2.1 139 0 (8 * ci_).toNat ∧ S0_.2.2.1 139 0 (8 * ci_).toNat ≤ 2047 := hI_.2 139 0 _
  refine sm_T_go 3 (c1 := (12, [some (.inr (.inr (some (13, 0)))), some (.inl ci_), some (.inl (S0_.2.2.1 139 0 (8 * ci_).toNat)), some (.inl 0), none, none], [], S0_)) rfl ?_
  refine (vl_332 ci_ F_ G_ c_ va_ ve_ S0_ hg_ ha_ hw_ hn_ hr_ _) (S0_.2.2.1 139 0 (8 * ci_).toNat) 0 S0_ hI_ hF_ ⟨?_, ?_, ?_, trivial⟩ (Nat.lt_succ_self _)
  · omega
  · refine ⟨G_, [], va_, ve_, [], [], hg_, rfl, rfl, rfl, hn_.1, by omega, rfl, rfl, fun z_ => ⟨?_, fun k9_ z9_ e9_ => by simp at e9_, (hr_ z_).2.1, (hr_ z_).2.2⟩, Nat.le_refl _, rfl⟩
    have q_ := (hr_ z_).1 0 c_ rfl
    rw [show (8 * ci_).toNat = 8 * ci_.toNat + 0 by omega]
    exact q_
  · (intro j_ hj_; rfl)
