/-! M_.join -/
def vw_331w : sx_Wl := ([(13, 37)], [139, 140, 141, 142, 143], [])
def vq_331w (s_ : Int) (a_ : Int) (b_ : Int) (F_ : Nat) (G_ : pGr) (x_ : List Int) (y_ : List Int) (kk_ : Int) (S0_ : sm_S) (u_ : Option sm_V) (S1_ : sm_S) : Prop := u_ = none ∧ gi S1_ ∧ ai_fr (sx_W vw_331w) S0_ S1_ ∧ (rgl F_ (g_op F_ kk_ G_ x_ y_).2 S1_ ∧ (imq ((g_op F_ kk_ G_ x_ y_).2.length ≤ 1001) (rwv (S1_.2.2.1 139 0) (8 * a_.toNat) (g_op F_ kk_ G_ x_ y_).1)) ∧ ∀ j_ : Nat, j_ < 8 * a_.toNat ∨ 8 * a_.toNat + 8 ≤ j_ → S1_.2.2.1 139 0 j_ = S0_.2.2.1 139 0 j_)
set_option maxHeartbeats 1500000 in
set_option maxRecDepth 20000 in
theorem vl_331w {sc_ : Nat × (Nat → Int)} (s_ : Int) (a_ : Int) (b_ : Int) (F_ : Nat) (G_ : pGr) (x_ : List Int) (y_ : List Int) (kk_ : Int) (S0_ : sm_S) (hg_ : rgl F_ G_ S0_) (ha_ : 0 ≤ a_ ∧ a_ + 1 ≤ b_ ∧ b_ ≤ 1023) (hw_ : S0_.2.2.1 138 0 a_.toNat = (x_.length : Int)) (hn_ : x_.length = y_.length ∧ 1 ≤ x_.length ∧ x_.length ≤ 8) (hr_ : imq (G_.length ≤ 1001) (rwv (S0_.2.2.1 139 0) (8 * a_.toNat) x_ ∧ rwv (S0_.2.2.1 139 0) (8 * b_.toNat) y_)) (hs_ : (s_ = 124 ∧ kk_ = 1) ∨ (s_ = 94 ∧ kk_ = 2) ∨ (s_ = 38 ∧ kk_ = 3)) : ∀ nn_ : Nat, (∀ (nb_ : Int) (cy_ : Int) (sa_ : Int) (k_ : Int) (S_ : sm_S), gi S_ → ai_fr (sx_W vw_331w) S0_ S_ → ((0 ≤ k_ ∧ k_ ≤ nb_ ∧ nb_ = (x_.length : Int)) ∧ ((0 ≤ cy_ ∧ cy_ ≤ 2047) ∧ (0 ≤ sa_ ∧ sa_ ≤ 2047)) ∧ (∃ (G1_ : pGr) (d_ r_ e_ t_ : List Int), rgl F_ G1_ S_ ∧ (d_.length : Int) = k_ ∧ (e_.length : Int) = k_ ∧ r_.length = t_.length ∧ k_ + r_.length = nb_ ∧ y_ = e_ ++ t_ ∧ (imq (G1_.length ≤ 1001) (rwv (S_.2.2.1 139 0) (8 * a_.toNat) (d_ ++ r_) ∧ rwv (S_.2.2.1 139 0) (8 * b_.toNat) y_)) ∧ G_.length ≤ G1_.length ∧ (g_z2 (g_bw F_ kk_) G_ x_ y_) = (d_ ++ (g_z2 (g_bw F_ kk_) G1_ r_ t_).1, (g_z2 (g_bw F_ kk_) G1_ r_ t_).2)) ∧ (∀ j_ : Nat, j_ < 8 * a_.toNat ∨ 8 * a_.toNat + 8 ≤ j_ → S_.2.2.1 139 0 j_ = S0_.2.2.1 139 0 j_) ∧ True) → ((nb_ - k_).toNat) < nn_ → sm_T (mt_P sc_) 3 331 (17, [some (.inr (.inr (some (13, 0)))), some (.inl s_), some (.inl a_), some (.inl b_), some (.inl nb_), some (.inl cy_), some (.inl sa_), some (.inl k_), none, none, none, none, none], [], S_) (fun ro9_ => ∃ u_ S1_, ro9_ = (.inl u_, S1_, 0) ∧ vq_331w s_ a_ b_ F_ G_ x_ y_ kk_ S0_ u_ S1_)) := by
  intro nn_
  induction nn_ with
  | zero => exact fun _ _ _ _ _ _ _ _ h_ => absurd h_ (Nat.not_lt_zero _)
  | succ nn_ ih_ =>
    rintro nb_ cy_ sa_ k_ S_ hI_ hF_ ⟨h0_, hb0_, h1_, h2_, -⟩ hm_
    obtain ⟨G1_, d_, r_, e_, t_, z1_, z2_, z2b, z3_, z4_, z5_, z6_, z7_, z8_⟩ := h1_
    refine sm_T_go 2 (c1 := (21, [some (.inr (.inr (some (13, 0)))), some (.inl s_), some (.inl a_), some (.inl b_), some (.inl nb_), some (.inl cy_), some (.inl sa_), some (.inl k_), none, none, none, none, none], [.inl nb_, .inl k_], S_)) rfl ?_
    refine sm_T_br (a := 3) (z := 198) rfl (fun cx1_ => ?_) (fun cx1_ => ?_)
    · have cx1_ : nb_ ≤ k_ := of_decide_eq_true cx1_
      refine sm_T_go 4 (c1 := (226, [some (.inr (.inr (some (13, 0)))), some (.inl s_), some (.inl a_), some (.inl b_), some (.inl nb_), some (.inl cy_), some (.inl sa_), some (.inl k_), none, none, none, none, none], [.inl a_, .inl 8, .inr (.inr (some (139, 0)))], S_)) rfl ?_
      refine sm_T_bin (w := 8 * a_) rfl (bi_mul (by omega) (by omega) (by omega)) ?_
      refine sm_T_go 2 (c1 := (231, [some (.inr (.inr (some (13, 0)))), some (.inl s_), some (.inl a_), some (.inl b_), some (.inl nb_), some (.inl cy_), some (.inl sa_), some (.inl k_), none, none, none, none, none], [.inl 257, .inl s_, .inl (8 * a_), .inr (.inr (some (139, 0)))], S_)) rfl ?_
      refine sm_T_br (a := 1) (z := 8) rfl (fun cx2_ => ?_) (fun cx2_ => ?_)
      · have cx2_ : s_ ≠ 257 := of_decide_eq_true cx2_
        refine sm_T_go 4 (c1 := (246, [some (.inr (.inr (some (13, 0)))), some (.inl s_), some (.inl a_), some (.inl b_), some (.inl nb_), some (.inl cy_), some (.inl sa_), some (.inl k_), none, none, none, none, none], [.inl a_, .inl 8, .inr (.inr (some (139, 0))), .inl (8 * a_), .inr (.inr (some (139, 0)))], S_)) rfl ?_
        refine sm_T_bin (w := 8 * a_) rfl (bi_mul (by omega) (by omega) (by omega)) ?_
        refine sm_T_iald (n := 8192) rfl rfl (by omega) (by omega) ?_
        have bx3_ : 0 ≤ S_.2.2.1 139 0 (8 * a_).toNat ∧ S_.2.2.1 139 0 (8 * a_).toNat ≤ 2047 := hI_.2 139 0 _
        refine sm_T_iast (n := 8192) rfl rfl (by omega) (by omega) ?_
        have hIx4_ : gi (sm_aI S_ 139 0 (8 * a_).toNat (S_.2.2.1 139 0 (8 * a_).toNat)) := gi_aI hI_ (show 0 ≤ (S_.2.2.1 139 0 (8 * a_).toNat) ∧ (S_.2.2.1 139 0 (8 * a_).toNat) ≤ 2047 from ⟨by omega, by omega⟩)
        have hFx5_ : ai_fr (sx_W vw_331w) S0_ (sm_aI S_ 139 0 (8 * a_).toNat (S_.2.2.1 139 0 (8 * a_).toNat)) := ai_fr_tr hF_ (ai_fr_aI rfl)
        refine sm_T_rv rfl ⟨_, _, rfl, rfl, hIx4_, hFx5_, ?_⟩
        have kr_ : r_ = [] := List.eq_nil_of_length_eq_zero (by omega)
        have ks_ : t_ = [] := List.eq_nil_of_length_eq_zero (by omega)
        rw [kr_, ks_] at z8_
        have q8_ : g_z2 (g_bw F_ kk_) G1_ [] [] = ([], G1_) := rfl
        rw [q8_, List.append_nil] at z8_
        rw [g_opw (by omega) (by omega), z8_]
        refine ⟨rgl_st z1_, fun z_ => ?_, fun j_ hj_ => ?_⟩
        · have q9_ := (z6_ z_).1; rw [kr_, List.append_nil] at q9_; exact rwv_cg q9_ (fun j9_ _ => rd_self)
        · rw [rd_self]; exact h2_ j_ hj_
      · have cx2_ : ¬ (s_ ≠ 257) := of_decide_eq_false cx2_
        exfalso; omega
    · have cx1_ : ¬ (nb_ ≤ k_) := of_decide_eq_false cx1_
      obtain ⟨r0_, r_, rfl⟩ : ∃ r0_ r1_, r_ = r0_ :: r1_ := by cases r_ with | nil => (simp only [List.length_nil] at z4_; omega) | cons p_ q_ => exact ⟨p_, q_, rfl⟩
      obtain ⟨s0_, t_, rfl⟩ : ∃ s0_ s1_, t_ = s0_ :: s1_ := by cases t_ with | nil => (simp only [List.length_nil, List.length_cons] at z3_ z4_; omega) | cons p_ q_ => exact ⟨p_, q_, rfl⟩
      have rx : imq (G1_.length ≤ 1001) (S_.2.2.1 139 0 (8 * a_ + k_).toNat = r0_ ∧ S_.2.2.1 139 0 (8 * b_ + k_).toNat = s0_) := fun z_ => by rw [show (8 * a_ + k_).toNat = 8 * a_.toNat + d_.length by omega, show (8 * b_ + k_).toNat = 8 * b_.toNat + e_.length by omega]; exact ⟨rwv_m (z6_ z_).1, rwv_m (by rw [← z5_]; exact (z6_ z_).2)⟩
      refine sm_T_go 4 (c1 := (31, [some (.inr (.inr (some (13, 0)))), some (.inl s_), some (.inl a_), some (.inl b_), some (.inl nb_), some (.inl cy_), some (.inl sa_), some (.inl k_), none, none, none, none, none], [.inl a_, .inl 8, .inr (.inr (some (139, 0)))], S_)) rfl ?_
      refine sm_T_bin (w := 8 * a_) rfl (bi_mul (by omega) (by omega) (by omega)) ?_
      refine sm_T_go 1 (c1 := (34, [some (.inr (.inr (some (13, 0)))), some (.inl s_), some (.inl a_), some (.inl b_), some (.inl nb_), some (.inl cy_), some (.inl sa_), some (.inl k_), none, none, none, none, none], [.inl k_, .inl (8 * a_), .inr (.inr (some (139, 0)))], S_)) rfl ?_
      refine sm_T_bin (w := 8 * a_ + k_) rfl (bi_add (by omega) (by omega) (by omega)) ?_
      refine sm_T_iald (n := 8192) rfl rfl (by omega) (by omega) ?_
      have bx6_ : 0 ≤ S_.2.2.1 139 0 (8 * a_ + k_).toNat ∧ S_.2.2.1 139 0 (8 * a_ + k_).toNat ≤ 2047 := hI_.2 139 0 _
      refine sm_T_go 5 (c1 := (45, [some (.inr (.inr (some (13, 0)))), some (.inl s_), some (.inl a_), some (.inl b_), some (.inl nb_), some (.inl cy_), some (.inl sa_), some (.inl k_), some (.inl (S_.2.2.1 139 0 (8 * a_ + k_).toNat)), none, none, none, none], [.inl b_, .inl 8, .inr (.inr (some (139, 0)))], S_)) rfl ?_
      refine sm_T_bin (w := 8 * b_) rfl (bi_mul (by omega) (by omega) (by omega)) ?_
      refine sm_T_go 1 (c1 := (48, [some (.inr (.inr (some (13, 0)))), some (.inl s_), some (.inl a_), some (.inl b_), some (.inl nb_), some (.inl cy_), some (.inl sa_), some (.inl k_), some (.inl (S_.2.2.1 139 0 (8 * a_ + k_).toNat)), none, none, none, none], [.inl k_, .inl (8 * b_), .inr (.inr (some (139, 0)))], S_)) rfl ?_
      refine sm_T_bin (w := 8 * b_ + k_) rfl (bi_add (by omega) (by omega) (by omega)) ?_
      refine sm_T_iald (n := 8192) rfl rfl (by omega) (by omega) ?_
      have bx7_ : 0 ≤ S_.2.2.1 139 0 (8 * b_ + k_).toNat ∧ S_.2.2.1 139 0 (8 * b_ + k_).toNat ≤ 2047 := hI_.2 139 0 _
      refine sm_T_go 5 (c1 := (58, [some (.inr (.inr (some (13, 0)))), some (.inl s_), some (.inl a_), some (.inl b_), some (.inl nb_), some (.inl cy_), some (.inl sa_), some (.inl k_), some (.inl (S_.2.2.1 139 0 (8 * a_ + k_).toNat)), some (.inl (S_.2.2.1 139 0 (8 * b_ + k_).toNat)), some (.inl 0), none, none], [.inl 38, .inl s_], S_)) rfl ?_
      refine sm_T_br (a := 1) (z := 16) rfl (fun cx8_ => ?_) (fun cx8_ => ?_)
      · have cx8_ : s_ ≠ 38 := of_decide_eq_true cx8_
        refine sm_T_go 2 (c1 := (77, [some (.inr (.inr (some (13, 0)))), some (.inl s_), some (.inl a_), some (.inl b_), some (.inl nb_), some (.inl cy_), some (.inl sa_), some (.inl k_), some (.inl (S_.2.2.1 139 0 (8 * a_ + k_).toNat)), some (.inl (S_.2.2.1 139 0 (8 * b_ + k_).toNat)), some (.inl 0), none, none], [.inl 124, .inl s_], S_)) rfl ?_
        refine sm_T_br (a := 1) (z := 16) rfl (fun cx9_ => ?_) (fun cx9_ => ?_)
        · have cx9_ : s_ ≠ 124 := of_decide_eq_true cx9_
          refine sm_T_go 2 (c1 := (96, [some (.inr (.inr (some (13, 0)))), some (.inl s_), some (.inl a_), some (.inl b_), some (.inl nb_), some (.inl cy_), some (.inl sa_), some (.inl k_), some (.inl (S_.2.2.1 139 0 (8 * a_ + k_).toNat)), some (.inl (S_.2.2.1 139 0 (8 * b_ + k_).toNat)), some (.inl 0), none, none], [.inl 94, .inl s_], S_)) rfl ?_
          refine sm_T_br (a := 1) (z := 16) rfl (fun cx10_ => ?_) (fun cx10_ => ?_)
          · have cx10_ : s_ ≠ 94 := of_decide_eq_true cx10_
            refine sm_T_go 2 (c1 := (115, [some (.inr (.inr (some (13, 0)))), some (.inl s_), some (.inl a_), some (.inl b_), some (.inl nb_), some (.inl cy_), some (.inl sa_), some (.inl k_), some (.inl (S_.2.2.1 139 0 (8 * a_ + k_).toNat)), some (.inl (S_.2.2.1 139 0 (8 * b_ + k_).toNat)), some (.inl 0), none, none], [.inl 43, .inl s_], S_)) rfl ?_
            refine sm_T_br (a := 1) (z := 52) rfl (fun cx11_ => ?_) (fun cx11_ => ?_)
            · have cx11_ : s_ ≠ 43 := of_decide_eq_true cx11_
              exfalso; omega
            · have cx11_ : ¬ (s_ ≠ 43) := of_decide_eq_false cx11_
              exfalso; omega
          · have cx10_ : ¬ (s_ ≠ 94) := of_decide_eq_false cx10_
            refine sm_T_go 3 (c1 := (104, [some (.inr (.inr (some (13, 0)))), some (.inl s_), some (.inl a_), some (.inl b_), some (.inl nb_), some (.inl cy_), some (.inl sa_), some (.inl k_), some (.inl (S_.2.2.1 139 0 (8 * a_ + k_).toNat)), some (.inl (S_.2.2.1 139 0 (8 * b_ + k_).toNat)), some (.inl 0), none, none], [.inl (S_.2.2.1 139 0 (8 * b_ + k_).toNat), .inl (S_.2.2.1 139 0 (8 * a_ + k_).toNat), .inr (.inr (some (13, 0)))], S_)) rfl ?_
            refine sm_T_cal (d1 := 2) (Q1 := vq_330 (S_.2.2.1 139 0 (8 * a_ + k_).toNat) (S_.2.2.1 139 0 (8 * b_ + k_).toNat) F_ G1_ r0_ s0_ S_) rfl rfl (by decide) (vc_330 (S_.2.2.1 139 0 (8 * a_ + k_).toNat) (S_.2.2.1 139 0 (8 * b_ + k_).toNat) F_ G1_ r0_ s0_ S_ hI_ (by exact z1_) (by omega) (by omega) (by exact rx)) (fun u_ Sx12_ px15_ => ?_)
            obtain ⟨vx17_, rfl, hIx13_, hFx14_, px15_⟩ := px15_
            have hFx16_ : ai_fr (sx_W vw_331w) S0_ Sx12_ := ai_fr_tr hF_ (fr_le hFx14_ rfl)
            have e9_ : rgl F_ (g_bw F_ kk_ G1_ r0_ s0_).2 Sx12_ ∧ (imq ((g_bw F_ kk_ G1_ r0_ s0_).2.length ≤ 1001) (vx17_ = (g_bw F_ kk_ G1_ r0_ s0_).1)) ∧ (0 ≤ vx17_ ∧ vx17_ ≤ 2047) := by rw [g_bw2 (by omega) (by omega)]; exact px15_
            have f9_ : Sx12_.2.2.1 139 0 = S_.2.2.1 139 0 := fr_arr hFx14_ rfl
            have g9_ : ∀ z9_ : Int, ∀ j9_ : Nat, (sm_aI Sx12_ 139 0 (8 * a_ + k_).toNat z9_).2.2.1 139 0 j9_ = if j9_ = (8 * a_ + k_).toNat then z9_ else S_.2.2.1 139 0 j9_ := fun z9_ j9_ => by rw [rd_eq, f9_]
            have l1_ := g_bw_le (F_ := F_) (k_ := kk_) G1_ r0_ s0_
            refine sm_T_go 6 (c1 := (206, [some (.inr (.inr (some (13, 0)))), some (.inl s_), some (.inl a_), some (.inl b_), some (.inl nb_), some (.inl cy_), some (.inl sa_), some (.inl k_), some (.inl (S_.2.2.1 139 0 (8 * a_ + k_).toNat)), some (.inl (S_.2.2.1 139 0 (8 * b_ + k_).toNat)), some (.inl vx17_), none, none], [.inl a_, .inl 8, .inr (.inr (some (139, 0)))], Sx12_)) rfl ?_
            refine sm_T_bin (w := 8 * a_) rfl (bi_mul (by omega) (by omega) (by omega)) ?_
            refine sm_T_go 1 (c1 := (209, [some (.inr (.inr (some (13, 0)))), some (.inl s_), some (.inl a_), some (.inl b_), some (.inl nb_), some (.inl cy_), some (.inl sa_), some (.inl k_), some (.inl (S_.2.2.1 139 0 (8 * a_ + k_).toNat)), some (.inl (S_.2.2.1 139 0 (8 * b_ + k_).toNat)), some (.inl vx17_), none, none], [.inl k_, .inl (8 * a_), .inr (.inr (some (139, 0)))], Sx12_)) rfl ?_
            refine sm_T_bin (w := 8 * a_ + k_) rfl (bi_add (by omega) (by omega) (by omega)) ?_
            refine sm_T_go 1 (c1 := (212, [some (.inr (.inr (some (13, 0)))), some (.inl s_), some (.inl a_), some (.inl b_), some (.inl nb_), some (.inl cy_), some (.inl sa_), some (.inl k_), some (.inl (S_.2.2.1 139 0 (8 * a_ + k_).toNat)), some (.inl (S_.2.2.1 139 0 (8 * b_ + k_).toNat)), some (.inl vx17_), none, none], [.inl vx17_, .inl (8 * a_ + k_), .inr (.inr (some (139, 0)))], Sx12_)) rfl ?_
            refine sm_T_iast (n := 8192) rfl rfl (by omega) (by omega) ?_
            have hIx18_ : gi (sm_aI Sx12_ 139 0 (8 * a_ + k_).toNat vx17_) := gi_aI hIx13_ (show 0 ≤ vx17_ ∧ vx17_ ≤ 2047 from ⟨by omega, by omega⟩)
            have hFx19_ : ai_fr (sx_W vw_331w) S0_ (sm_aI Sx12_ 139 0 (8 * a_ + k_).toNat vx17_) := ai_fr_tr hFx16_ (ai_fr_aI rfl)
            refine sm_T_inc (a := 7) (z := 1) (v := k_) (w := k_ + 1) rfl rfl (by omega) (by omega) (by omega) ?_
            refine sm_T_go 1 (c1 := (17, [some (.inr (.inr (some (13, 0)))), some (.inl s_), some (.inl a_), some (.inl b_), some (.inl nb_), some (.inl cy_), some (.inl sa_), some (.inl (k_ + 1)), some (.inl (S_.2.2.1 139 0 (8 * a_ + k_).toNat)), some (.inl (S_.2.2.1 139 0 (8 * b_ + k_).toNat)), some (.inl vx17_), none, none], [], sm_aI Sx12_ 139 0 (8 * a_ + k_).toNat vx17_)) rfl ?_
            refine sm_T_wk [some (.inr (.inr (some (13, 0)))), some (.inl s_), some (.inl a_), some (.inl b_), some (.inl nb_), some (.inl cy_), some (.inl sa_), some (.inl (k_ + 1)), none, none, none, none, none] (by exact ⟨rfl, rfl, rfl, rfl, rfl, rfl, rfl, rfl, trivial⟩) ?_
            refine ih_ nb_ cy_ sa_ (k_ + 1) (sm_aI Sx12_ 139 0 (8 * a_ + k_).toNat vx17_) hIx18_ hFx19_ ⟨?_, ?_, ?_, ?_, trivial⟩ ?_
            · omega
            · omega
            · refine ⟨(g_bw F_ kk_ G1_ r0_ s0_).2, d_ ++ [(g_bw F_ kk_ G1_ r0_ s0_).1], r_, e_ ++ [s0_], t_, rgl_st e9_.1, ?_, ?_, ?_, ?_, ?_, fun z_ => ?_, by omega, ?_⟩
              · simp only [List.length_append, List.length_cons, List.length_nil]; push_cast; omega
              · simp only [List.length_append, List.length_cons, List.length_nil]; push_cast; omega
              · simp only [List.length_cons] at z3_; omega
              · simp only [List.length_cons] at z4_; push_cast at z4_; omega
              · rw [z5_, List.append_assoc]; rfl
              · have q1_ := z6_ (by omega)
                refine ⟨?_, ?_⟩
                · exact rwv_set (q_ := (8 * a_ + k_).toNat) q1_.1 (by omega) (fun j9_ => by rw [g9_, e9_.2.1 z_])
                · exact rwv_cg q1_.2 (fun j9_ hj_ => by rw [g9_, if_neg (by omega)])
              · rw [z8_]; exact g_z2_c
            · intro j_ hj_
              rw [g9_, if_neg (by omega)]
              exact h2_ j_ hj_
            · omega
        · have cx9_ : ¬ (s_ ≠ 124) := of_decide_eq_false cx9_
          refine sm_T_go 3 (c1 := (85, [some (.inr (.inr (some (13, 0)))), some (.inl s_), some (.inl a_), some (.inl b_), some (.inl nb_), some (.inl cy_), some (.inl sa_), some (.inl k_), some (.inl (S_.2.2.1 139 0 (8 * a_ + k_).toNat)), some (.inl (S_.2.2.1 139 0 (8 * b_ + k_).toNat)), some (.inl 0), none, none], [.inl (S_.2.2.1 139 0 (8 * b_ + k_).toNat), .inl (S_.2.2.1 139 0 (8 * a_ + k_).toNat), .inr (.inr (some (13, 0)))], S_)) rfl ?_
          refine sm_T_cal (d1 := 1) (Q1 := vq_329 (S_.2.2.1 139 0 (8 * a_ + k_).toNat) (S_.2.2.1 139 0 (8 * b_ + k_).toNat) F_ G1_ r0_ s0_ S_) rfl rfl (by decide) (vc_329 (S_.2.2.1 139 0 (8 * a_ + k_).toNat) (S_.2.2.1 139 0 (8 * b_ + k_).toNat) F_ G1_ r0_ s0_ S_ hI_ (by exact z1_) (by omega) (by omega) (by exact rx)) (fun u_ Sx20_ px23_ => ?_)
          obtain ⟨vx25_, rfl, hIx21_, hFx22_, px23_⟩ := px23_
          have hFx24_ : ai_fr (sx_W vw_331w) S0_ Sx20_ := ai_fr_tr hF_ (fr_le hFx22_ rfl)
          have e9_ : rgl F_ (g_bw F_ kk_ G1_ r0_ s0_).2 Sx20_ ∧ (imq ((g_bw F_ kk_ G1_ r0_ s0_).2.length ≤ 1001) (vx25_ = (g_bw F_ kk_ G1_ r0_ s0_).1)) ∧ (0 ≤ vx25_ ∧ vx25_ ≤ 2047) := by rw [show kk_ = 1 by omega, g_bw1]; exact px23_
          have f9_ : Sx20_.2.2.1 139 0 = S_.2.2.1 139 0 := fr_arr hFx22_ rfl
          have g9_ : ∀ z9_ : Int, ∀ j9_ : Nat, (sm_aI Sx20_ 139 0 (8 * a_ + k_).toNat z9_).2.2.1 139 0 j9_ = if j9_ = (8 * a_ + k_).toNat then z9_ else S_.2.2.1 139 0 j9_ := fun z9_ j9_ => by rw [rd_eq, f9_]
          have l1_ := g_bw_le (F_ := F_) (k_ := kk_) G1_ r0_ s0_
          refine sm_T_go 6 (c1 := (206, [some (.inr (.inr (some (13, 0)))), some (.inl s_), some (.inl a_), some (.inl b_), some (.inl nb_), some (.inl cy_), some (.inl sa_), some (.inl k_), some (.inl (S_.2.2.1 139 0 (8 * a_ + k_).toNat)), some (.inl (S_.2.2.1 139 0 (8 * b_ + k_).toNat)), some (.inl vx25_), none, none], [.inl a_, .inl 8, .inr (.inr (some (139, 0)))], Sx20_)) rfl ?_
          refine sm_T_bin (w := 8 * a_) rfl (bi_mul (by omega) (by omega) (by omega)) ?_
          refine sm_T_go 1 (c1 := (209, [some (.inr (.inr (some (13, 0)))), some (.inl s_), some (.inl a_), some (.inl b_), some (.inl nb_), some (.inl cy_), some (.inl sa_), some (.inl k_), some (.inl (S_.2.2.1 139 0 (8 * a_ + k_).toNat)), some (.inl (S_.2.2.1 139 0 (8 * b_ + k_).toNat)), some (.inl vx25_), none, none], [.inl k_, .inl (8 * a_), .inr (.inr (some (139, 0)))], Sx20_)) rfl ?_
          refine sm_T_bin (w := 8 * a_ + k_) rfl (bi_add (by omega) (by omega) (by omega)) ?_
          refine sm_T_go 1 (c1 := (212, [some (.inr (.inr (some (13, 0)))), some (.inl s_), some (.inl a_), some (.inl b_), some (.inl nb_), some (.inl cy_), some (.inl sa_), some (.inl k_), some (.inl (S_.2.2.1 139 0 (8 * a_ + k_).toNat)), some (.inl (S_.2.2.1 139 0 (8 * b_ + k_).toNat)), some (.inl vx25_), none, none], [.inl vx25_, .inl (8 * a_ + k_), .inr (.inr (some (139, 0)))], Sx20_)) rfl ?_
          refine sm_T_iast (n := 8192) rfl rfl (by omega) (by omega) ?_
          have hIx26_ : gi (sm_aI Sx20_ 139 0 (8 * a_ + k_).toNat vx25_) := gi_aI hIx21_ (show 0 ≤ vx25_ ∧ vx25_ ≤ 2047 from ⟨by omega, by omega⟩)
          have hFx27_ : ai_fr (sx_W vw_331w) S0_ (sm_aI Sx20_ 139 0 (8 * a_ + k_).toNat vx25_) := ai_fr_tr hFx24_ (ai_fr_aI rfl)
          refine sm_T_inc (a := 7) (z := 1) (v := k_) (w := k_ + 1) rfl rfl (by omega) (by omega) (by omega) ?_
          refine sm_T_go 1 (c1 := (17, [some (.inr (.inr (some (13, 0)))), some (.inl s_), some (.inl a_), some (.inl b_), some (.inl nb_), some (.inl cy_), some (.inl sa_), some (.inl (k_ + 1)), some (.inl (S_.2.2.1 139 0 (8 * a_ + k_).toNat)), some (.inl (S_.2.2.1 139 0 (8 * b_ + k_).toNat)), some (.inl vx25_), none, none], [], sm_aI Sx20_ 139 0 (8 * a_ + k_).toNat vx25_)) rfl ?_
          refine sm_T_wk [some (.inr (.inr (some (13, 0)))), some (.inl s_), some (.inl a_), some (.inl b_), some (.inl nb_), some (.inl cy_), some (.inl sa_), some (.inl (k_ + 1)), none, none, none, none, none] (by exact ⟨rfl, rfl, rfl, rfl, rfl, rfl, rfl, rfl, trivial⟩) ?_
          refine ih_ nb_ cy_ sa_ (k_ + 1) (sm_aI Sx20_ 139 0 (8 * a_ + k_).toNat vx25_) hIx26_ hFx27_ ⟨?_, ?_, ?_, ?_, trivial⟩ ?_
          · omega
          · omega
          · refine ⟨(g_bw F_ kk_ G1_ r0_ s0_).2, d_ ++ [(g_bw F_ kk_ G1_ r0_ s0_).1], r_, e_ ++ [s0_], t_, rgl_st e9_.1, ?_, ?_, ?_, ?_, ?_, fun z_ => ?_, by omega, ?_⟩
            · simp only [List.length_append, List.length_cons, List.length_nil]; push_cast; omega
            · simp only [List.length_append, List.length_cons, List.length_nil]; push_cast; omega
            · simp only [List.length_cons] at z3_; omega
            · simp only [List.length_cons] at z4_; push_cast at z4_; omega
            · rw [z5_, List.append_assoc]; rfl
            · have q1_ := z6_ (by omega)
              refine ⟨?_, ?_⟩
              · exact rwv_set (q_ := (8 * a_ + k_).toNat) q1_.1 (by omega) (fun j9_ => by rw [g9_, e9_.2.1 z_])
              · exact rwv_cg q1_.2 (fun j9_ hj_ => by rw [g9_, if_neg (by omega)])
            · rw [z8_]; exact g_z2_c
          · intro j_ hj_
            rw [g9_, if_neg (by omega)]
            exact h2_ j_ hj_
          · omega
      · have cx8_ : ¬ (s_ ≠ 38) := of_decide_eq_false cx8_
        refine sm_T_go 3 (c1 := (66, [some (.inr (.inr (some (13, 0)))), some (.inl s_), some (.inl a_), some (.inl b_), some (.inl nb_), some (.inl cy_), some (.inl sa_), some (.inl k_), some (.inl (S_.2.2.1 139 0 (8 * a_ + k_).toNat)), some (.inl (S_.2.2.1 139 0 (8 * b_ + k_).toNat)), some (.inl 0), none, none], [.inl (S_.2.2.1 139 0 (8 * b_ + k_).toNat), .inl (S_.2.2.1 139 0 (8 * a_ + k_).toNat), .inr (.inr (some (13, 0)))], S_)) rfl ?_
        refine sm_T_cal (d1 := 0) (Q1 := vq_328 (S_.2.2.1 139 0 (8 * a_ + k_).toNat) (S_.2.2.1 139 0 (8 * b_ + k_).toNat) F_ G1_ r0_ s0_ S_) rfl rfl (by decide) (vc_328 (S_.2.2.1 139 0 (8 * a_ + k_).toNat) (S_.2.2.1 139 0 (8 * b_ + k_).toNat) F_ G1_ r0_ s0_ S_ hI_ (by exact z1_) (by omega) (by omega) (by exact rx)) (fun u_ Sx28_ px31_ => ?_)
        obtain ⟨vx33_, rfl, hIx29_, hFx30_, px31_⟩ := px31_
        have hFx32_ : ai_fr (sx_W vw_331w) S0_ Sx28_ := ai_fr_tr hF_ (fr_le hFx30_ rfl)
        have e9_ : rgl F_ (g_bw F_ kk_ G1_ r0_ s0_).2 Sx28_ ∧ (imq ((g_bw F_ kk_ G1_ r0_ s0_).2.length ≤ 1001) (vx33_ = (g_bw F_ kk_ G1_ r0_ s0_).1)) ∧ (0 ≤ vx33_ ∧ vx33_ ≤ 2047) := by rw [show kk_ = 3 by omega, g_bw3]; exact px31_
        have f9_ : Sx28_.2.2.1 139 0 = S_.2.2.1 139 0 := fr_arr hFx30_ rfl
        have g9_ : ∀ z9_ : Int, ∀ j9_ : Nat, (sm_aI Sx28_ 139 0 (8 * a_ + k_).toNat z9_).2.2.1 139 0 j9_ = if j9_ = (8 * a_ + k_).toNat then z9_ else S_.2.2.1 139 0 j9_ := fun z9_ j9_ => by rw [rd_eq, f9_]
        have l1_ := g_bw_le (F_ := F_) (k_ := kk_) G1_ r0_ s0_
        refine sm_T_go 6 (c1 := (206, [some (.inr (.inr (some (13, 0)))), some (.inl s_), some (.inl a_), some (.inl b_), some (.inl nb_), some (.inl cy_), some (.inl sa_), some (.inl k_), some (.inl (S_.2.2.1 139 0 (8 * a_ + k_).toNat)), some (.inl (S_.2.2.1 139 0 (8 * b_ + k_).toNat)), some (.inl vx33_), none, none], [.inl a_, .inl 8, .inr (.inr (some (139, 0)))], Sx28_)) rfl ?_
        refine sm_T_bin (w := 8 * a_) rfl (bi_mul (by omega) (by omega) (by omega)) ?_
        refine sm_T_go 1 (c1 := (209, [some (.inr (.inr (some (13, 0)))), some (.inl s_), some (.inl a_), some (.inl b_), some (.inl nb_), some (.inl cy_), some (.inl sa_), some (.inl k_), some (.inl (S_.2.2.1 139 0 (8 * a_ + k_).toNat)), some (.inl (S_.2.2.1 139 0 (8 * b_ + k_).toNat)), some (.inl vx33_), none, none], [.inl k_, .inl (8 * a_), .inr (.inr (some (139, 0)))], Sx28_)) rfl ?_
        refine sm_T_bin (w := 8 * a_ + k_) rfl (bi_add (by omega) (by omega) (by omega)) ?_
        refine sm_T_go 1 (c1 := (212, [some (.inr (.inr (some (13, 0)))), some (.inl s_), some (.inl a_), some (.inl b_), some (.inl nb_), some (.inl cy_), some (.inl sa_), some (.inl k_), some (.inl (S_.2.2.1 139 0 (8 * a_ + k_).toNat)), some (.inl (S_.2.2.1 139 0 (8 * b_ + k_).toNat)), some (.inl vx33_), none, none], [.inl vx33_, .inl (8 * a_ + k_), .inr (.inr (some (139, 0)))], Sx28_)) rfl ?_
        refine sm_T_iast (n := 8192) rfl rfl (by omega) (by omega) ?_
        have hIx34_ : gi (sm_aI Sx28_ 139 0 (8 * a_ + k_).toNat vx33_) := gi_aI hIx29_ (show 0 ≤ vx33_ ∧ vx33_ ≤ 2047 from ⟨by omega, by omega⟩)
        have hFx35_ : ai_fr (sx_W vw_331w) S0_ (sm_aI Sx28_ 139 0 (8 * a_ + k_).toNat vx33_) := ai_fr_tr hFx32_ (ai_fr_aI rfl)
        refine sm_T_inc (a := 7) (z := 1) (v := k_) (w := k_ + 1) rfl rfl (by omega) (by omega) (by omega) ?_
        refine sm_T_go 1 (c1 := (17, [some (.inr (.inr (some (13, 0)))), some (.inl s_), some (.inl a_), some (.inl b_), some (.inl nb_), some (.inl cy_), some (.inl sa_), some (.inl (k_ + 1)), some (.inl (S_.2.2.1 139 0 (8 * a_ + k_).toNat)), some (.inl (S_.2.2.1 139 0 (8 * b_ + k_).toNat)), some (.inl vx33_), none, none], [], sm_aI Sx28_ 139 0 (8 * a_ + k_).toNat vx33_)) rfl ?_
        refine sm_T_wk [some (.inr (.inr (some (13, 0)))), some (.inl s_), some (.inl a_), some (.inl b_), some (.inl nb_), some (.inl cy_), some (.inl sa_), some (.inl (k_ + 1)), none, none, none, none, none] (by exact ⟨rfl, rfl, rfl, rfl, rfl, rfl, rfl, rfl, trivial⟩) ?_
        refine ih_ nb_ cy_ sa_ (k_ + 1) (sm_aI Sx28_ 139 0 (8 * a_ + k_).toNat vx33_) hIx34_ hFx35_ ⟨?_, ?_, ?_, ?_, trivial⟩ ?_
        · omega
        · omega
        · refine ⟨(g_bw F_ kk_ G1_ r0_ s0_).2, d_ ++ [(g_bw F_ kk_ G1_ r0_ s0_).1], r_, e_ ++ [s0_], t_, rgl_st e9_.1, ?_, ?_, ?_, ?_, ?_, fun z_ => ?_, by omega, ?_⟩
          · simp only [List.length_append, List.length_cons, List.length_nil]; push_cast; omega
          · simp only [List.length_append, List.length_cons, List.length_nil]; push_cast; omega
          · simp only [List.length_cons] at z3_; omega
          · simp only [List.length_cons] at z4_; push_cast at z4_; omega
          · rw [z5_, List.append_assoc]; rfl
          · have q1_ := z6_ (by omega)
            refine ⟨?_, ?_⟩
            · exact rwv_set (q_ := (8 * a_ + k_).toNat) q1_.1 (by omega) (fun j9_ => by rw [g9_, e9_.2.1 z_])
            · exact rwv_cg q1_.2 (fun j9_ hj_ => by rw [g9_, if_neg (by omega)])
          · rw [z8_]; exact g_z2_c
        · intro j_ hj_
          rw [g9_, if_neg (by omega)]
          exact h2_ j_ hj_
        · omega
set_option maxHeartbeats 1500000 in
set_option maxRecDepth 20000 in
theorem vc_331w {sc_ : Nat × (Nat → Int)} (s_ : Int) (a_ : Int) (b_ : Int) (F_ : Nat) (G_ : pGr) (x_ : List Int) (y_ : List Int) (kk_ : Int) (S0_ : sm_S) (hI_ : gi S0_) (hg_ : rgl F_ G_ S0_) (ha_ : 0 ≤ a_ ∧ a_ + 1 ≤ b_ ∧ b_ ≤ 1023) (hw_ : S0_.2.2.1 138 0 a_.toNat = (x_.length : Int)) (hn_ : x_.length = y_.length ∧ 1 ≤ x_.length ∧ x_.length ≤ 8) (hr_ : imq (G_.length ≤ 1001) (rwv (S0_.2.2.1 139 0) (8 * a_.toNat) x_ ∧ rwv (S0_.2.2.1 139 0) (8 * b_.toNat) y_)) (hs_ : (s_ = 124 ∧ kk_ = 1) ∨ (s_ = 94 ∧ kk_ = 2) ∨ (s_ = 38 ∧ kk_ = 3)) : sm_T (mt_P sc_) 3 331 (0, [some (.inr (.inr (some (13, 0)))), some (.inl s_), some (.inl a_), some (.inl b_), none, none, none, none, none, none, none, none, none], [], S0_) (fun ro9_ => ∃ u_ S1_, ro9_ = (.inl u_, S1_, 0) ∧ vq_331w s_ a_ b_ F_ G_ x_ y_ kk_ S0_ u_ S1_) := by
  have hF_ : ai_fr (sx_W vw_331w) S0_ S0_ := ai_fr_rf
  refine sm_T_go 3 (c1 := (5, [some (.inr (.inr (some (13, 0)))), some (.inl s_), some (.inl a_), some (.inl b_), none, none, none, none, none, none, none, none, none], [.inl a_, .inr (.inr (some (138, 0)))], S0_)) rfl ?_
  refine sm_T_iald (n := 1024) rfl rfl (by omega) (by omega) ?_
  have bx1_ : (-2147483648) ≤ S0_.2.2.1 138 0 a_.toNat ∧ S0_.2.2.1 138 0 a_.toNat ≤ 2147483647 := hI_.2 138 0 _
  refine sm_T_go 7 (c1 := (17, [some (.inr (.inr (some (13, 0)))), some (.inl s_), some (.inl a_), some (.inl b_), some (.inl (S0_.2.2.1 138 0 a_.toNat)), some (.inl 0), some (.inl 1), some (.inl 0), none, none, none, none, none], [], S0_)) rfl ?_
  refine (vl_331w s_ a_ b_ F_ G_ x_ y_ kk_ S0_ hg_ ha_ hw_ hn_ hr_ hs_ _) (S0_.2.2.1 138 0 a_.toNat) 0 1 0 S0_ hI_ hF_ ⟨?_, ?_, ?_, ?_, trivial⟩ (Nat.lt_succ_self _)
  · omega
  · omega
  · exact ⟨G_, [], x_, [], y_, hg_, rfl, rfl, hn_.1, by omega, rfl, hr_, Nat.le_refl _, rfl⟩
  · (intro j_ hj_; rfl)
