/-! M_.join -/
def vw_331s : sx_Wl := ([(13, 37)], [139, 140, 141, 142, 143], [])
def vq_331s (s_ : Int) (a_ : Int) (b_ : Int) (F_ : Nat) (G_ : pGr) (x_ : List Int) (y_ : List Int) (S0_ : sm_S) (u_ : Option sm_V) (S1_ : sm_S) : Prop := u_ = none ∧ gi S1_ ∧ ai_fr (sx_W vw_331s) S0_ S1_ ∧ (rgl F_ (g_op F_ 4 G_ x_ y_).2 S1_ ∧ (imq ((g_op F_ 4 G_ x_ y_).2.length ≤ 1001) (rwv (S1_.2.2.1 139 0) (8 * a_.toNat) (g_op F_ 4 G_ x_ y_).1)) ∧ ∀ j_ : Nat, j_ < 8 * a_.toNat ∨ 8 * a_.toNat + 8 ≤ j_ → S1_.2.2.1 139 0 j_ = S0_.2.2.1 139 0 j_)
set_option maxHeartbeats 1500000 in
set_option maxRecDepth 20000 in
theorem vl_331s {sc_ : Nat × (Nat → Int)} (s_ : Int) (a_ : Int) (b_ : Int) (F_ : Nat) (G_ : pGr) (x_ : List Int) (y_ : List Int) (S0_ : sm_S) (hg_ : rgl F_ G_ S0_) (ha_ : 0 ≤ a_ ∧ a_ + 1 ≤ b_ ∧ b_ ≤ 1023) (hw_ : S0_.2.2.1 138 0 a_.toNat = (x_.length : Int)) (hn_ : x_.length = y_.length ∧ 1 ≤ x_.length ∧ x_.length ≤ 8) (hr_ : imq (G_.length ≤ 1001) (rwv (S0_.2.2.1 139 0) (8 * a_.toNat) x_ ∧ rwv (S0_.2.2.1 139 0) (8 * b_.toNat) y_)) (hs_ : s_ = 257) : ∀ nn_ : Nat, (∀ (nb_ : Int) (cy_ : Int) (sa_ : Int) (k_ : Int) (S_ : sm_S), gi S_ → ai_fr (sx_W vw_331s) S0_ S_ → ((0 ≤ k_ ∧ k_ ≤ nb_ ∧ nb_ = (x_.length : Int)) ∧ ((0 ≤ cy_ ∧ cy_ ≤ 2047) ∧ (0 ≤ sa_ ∧ sa_ ≤ 2047)) ∧ (∃ (G1_ : pGr) (d_ r_ e_ t_ : List Int), rgl F_ G1_ S_ ∧ (d_.length : Int) = k_ ∧ (e_.length : Int) = k_ ∧ r_.length = t_.length ∧ k_ + r_.length = nb_ ∧ y_ = e_ ++ t_ ∧ (imq (G1_.length ≤ 1001) (rwv (S_.2.2.1 139 0) (8 * a_.toNat) (d_ ++ r_) ∧ rwv (S_.2.2.1 139 0) (8 * b_.toNat) y_)) ∧ G_.length ≤ G1_.length ∧ ((k_ = 0 ∧ G1_ = G_ ∧ r_ = x_ ∧ t_ = y_) ∨ (1 ≤ k_ ∧ ∃ s1_, (imq (G1_.length ≤ 1001) (sa_ = s1_)) ∧ (g_sa F_ G_ x_ y_) = ([(g_s1 F_ G1_ s1_ r_ t_).1], (g_s1 F_ G1_ s1_ r_ t_).2)))) ∧ (∀ j_ : Nat, j_ < 8 * a_.toNat ∨ 8 * a_.toNat + 8 ≤ j_ → S_.2.2.1 139 0 j_ = S0_.2.2.1 139 0 j_) ∧ True) → ((nb_ - k_).toNat) < nn_ → sm_T (mt_P sc_) 3 331 (17, [some (.inr (.inr (some (13, 0)))), some (.inl s_), some (.inl a_), some (.inl b_), some (.inl nb_), some (.inl cy_), some (.inl sa_), some (.inl k_), none, none, none, none, none], [], S_) (fun ro9_ => ∃ u_ S1_, ro9_ = (.inl u_, S1_, 0) ∧ vq_331s s_ a_ b_ F_ G_ x_ y_ S0_ u_ S1_)) := by
  intro nn_
  induction nn_ with
  | zero => exact fun _ _ _ _ _ _ _ _ h_ => absurd h_ (Nat.not_lt_zero _)
  | succ nn_ ih_ =>
    rintro nb_ cy_ sa_ k_ S_ hI_ hF_ ⟨h0_, hb0_, h1_, h2_, -⟩ hm_
    obtain ⟨G1_, d_, r_, e_, t_, z1_, z2_, z2b, z3_, z4_, z5_, z6_, z7_, z8_⟩ := h1_
    refine sm_T_go 2 (c1 := (21, [some (.inr (.inr (some (13, 0)))), some (.inl s_), some (.inl a_), some (.inl b_), some (.inl nb_), some (.inl cy_), some (.inl sa_), some (.inl k_), none, none, none, none, none], [.inl nb_, .inl k_], S_)) rfl ?_
    refine sm_T_br (a := 3) (z := 198) rfl (fun cx1_ => ?_) (fun cx1_ => ?_)
    · have cx1_ : nb_ ≤ k_ := of_decide_eq_true cx1_
      refine sm_T_go 4 (c1 := (226, [some (.inr (.inr (some (13, 0)))), some (.inl s_), some (.inl a_), some (.inl b_), some (.inl nb_), some (.inl cy_), some (.inl sa_), some (.inl k_), none, none, none, none, none], [.inl a_, .inl 8, .inr (.inr (some (139, 0)))], S_)) rfl ?_
      refine sm_T_bin (w := 8 * a_) rfl (bi_mul (by omega) (by omega) (by omega)) ?_
      refine sm_T_go 2 (c1 := (231, [some (.inr (.inr (some (13, 0)))), some (.inl s_), some (.inl a_), some (.inl b_), some (.inl nb_), some (.inl cy_), some (.inl sa_), some (.inl k_), none, none, none, none, none], [.inl 257, .inl s_, .inl (8 * a_), .inr (.inr (some (139, 0)))], S_)) rfl ?_
      refine sm_T_br (a := 1) (z := 8) rfl (fun cx2_ => ?_) (fun cx2_ => ?_)
      · have cx2_ : s_ ≠ 257 := of_decide_eq_true cx2_
        exfalso; omega
      · have cx2_ : ¬ (s_ ≠ 257) := of_decide_eq_false cx2_
        refine sm_T_go 2 (c1 := (248, [some (.inr (.inr (some (13, 0)))), some (.inl s_), some (.inl a_), some (.inl b_), some (.inl nb_), some (.inl cy_), some (.inl sa_), some (.inl k_), none, none, none, none, none], [.inl sa_, .inl (8 * a_), .inr (.inr (some (139, 0)))], S_)) rfl ?_
        refine sm_T_iast (n := 8192) rfl rfl (by omega) (by omega) ?_
        have hIx3_ : gi (sm_aI S_ 139 0 (8 * a_).toNat sa_) := gi_aI hI_ (show 0 ≤ sa_ ∧ sa_ ≤ 2047 from ⟨by omega, by omega⟩)
        have hFx4_ : ai_fr (sx_W vw_331s) S0_ (sm_aI S_ 139 0 (8 * a_).toNat sa_) := ai_fr_tr hF_ (ai_fr_aI rfl)
        refine sm_T_rv rfl ⟨_, _, rfl, rfl, hIx3_, hFx4_, ?_⟩
        have kr_ : r_ = [] := List.eq_nil_of_length_eq_zero (by omega)
        have ks_ : t_ = [] := List.eq_nil_of_length_eq_zero (by omega)
        obtain ⟨s1_, zs_, z8_⟩ : ∃ s1_, (imq (G1_.length ≤ 1001) (sa_ = s1_)) ∧ (g_sa F_ G_ x_ y_) = ([(g_s1 F_ G1_ s1_ r_ t_).1], (g_s1 F_ G1_ s1_ r_ t_).2) := by rcases z8_ with q_ | q_; omega; exact q_.2
        rw [kr_, ks_] at z8_
        have q8_ : g_s1 F_ G1_ s1_ [] [] = (s1_, G1_) := rfl
        rw [q8_] at z8_
        rw [g_op4, z8_]
        refine ⟨rgl_st z1_, fun z_ => ?_, fun j_ hj_ => ?_⟩
        · intro k9_ z9_ e9_; have k0_ : k9_ = 0 := (by cases k9_ with | zero => rfl | succ k9_ => simp at e9_); subst k0_; rw [rd_eq, if_pos (by omega)]; have q9_ := Option.some.inj e9_; rw [← q9_]; exact zs_ z_
        · rw [rd_eq, if_neg (by omega)]; exact h2_ j_ hj_
    · have cx1_ : ¬ (nb_ ≤ k_) := of_decide_eq_false cx1_
      obtain ⟨r0_, r_, rfl⟩ : ∃ r0_ r1_, r_ = r0_ :: r1_ := by cases r_ with | nil => (simp only [List.length_nil] at z4_; omega) | cons p_ q_ => exact ⟨p_, q_, rfl⟩
      obtain ⟨s0_, t_, rfl⟩ : ∃ s0_ s1_, t_ = s0_ :: s1_ := by cases t_ with | nil => (simp only [List.length_nil, List.length_cons] at z3_ z4_; omega) | cons p_ q_ => exact ⟨p_, q_, rfl⟩
      have rx : imq (G1_.length ≤ 1001) (S_.2.2.1 139 0 (8 * a_ + k_).toNat = r0_ ∧ S_.2.2.1 139 0 (8 * b_ + k_).toNat = s0_) := fun z_ => by rw [show (8 * a_ + k_).toNat = 8 * a_.toNat + d_.length by omega, show (8 * b_ + k_).toNat = 8 * b_.toNat + e_.length by omega]; exact ⟨rwv_m (z6_ z_).1, rwv_m (by rw [← z5_]; exact (z6_ z_).2)⟩
      have l1_ := g_xo_le (F_ := F_) (G_ := G1_) (a_ := r0_) (b_ := s0_)
      refine sm_T_go 4 (c1 := (31, [some (.inr (.inr (some (13, 0)))), some (.inl s_), some (.inl a_), some (.inl b_), some (.inl nb_), some (.inl cy_), some (.inl sa_), some (.inl k_), none, none, none, none, none], [.inl a_, .inl 8, .inr (.inr (some (139, 0)))], S_)) rfl ?_
      refine sm_T_bin (w := 8 * a_) rfl (bi_mul (by omega) (by omega) (by omega)) ?_
      refine sm_T_go 1 (c1 := (34, [some (.inr (.inr (some (13, 0)))), some (.inl s_), some (.inl a_), some (.inl b_), some (.inl nb_), some (.inl cy_), some (.inl sa_), some (.inl k_), none, none, none, none, none], [.inl k_, .inl (8 * a_), .inr (.inr (some (139, 0)))], S_)) rfl ?_
      refine sm_T_bin (w := 8 * a_ + k_) rfl (bi_add (by omega) (by omega) (by omega)) ?_
      refine sm_T_iald (n := 8192) rfl rfl (by omega) (by omega) ?_
      have bx5_ : 0 ≤ S_.2.2.1 139 0 (8 * a_ + k_).toNat ∧ S_.2.2.1 139 0 (8 * a_ + k_).toNat ≤ 2047 := hI_.2 139 0 _
      refine sm_T_go 5 (c1 := (45, [some (.inr (.inr (some (13, 0)))), some (.inl s_), some (.inl a_), some (.inl b_), some (.inl nb_), some (.inl cy_), some (.inl sa_), some (.inl k_), some (.inl (S_.2.2.1 139 0 (8 * a_ + k_).toNat)), none, none, none, none], [.inl b_, .inl 8, .inr (.inr (some (139, 0)))], S_)) rfl ?_
      refine sm_T_bin (w := 8 * b_) rfl (bi_mul (by omega) (by omega) (by omega)) ?_
      refine sm_T_go 1 (c1 := (48, [some (.inr (.inr (some (13, 0)))), some (.inl s_), some (.inl a_), some (.inl b_), some (.inl nb_), some (.inl cy_), some (.inl sa_), some (.inl k_), some (.inl (S_.2.2.1 139 0 (8 * a_ + k_).toNat)), none, none, none, none], [.inl k_, .inl (8 * b_), .inr (.inr (some (139, 0)))], S_)) rfl ?_
      refine sm_T_bin (w := 8 * b_ + k_) rfl (bi_add (by omega) (by omega) (by omega)) ?_
      refine sm_T_iald (n := 8192) rfl rfl (by omega) (by omega) ?_
      have bx6_ : 0 ≤ S_.2.2.1 139 0 (8 * b_ + k_).toNat ∧ S_.2.2.1 139 0 (8 * b_ + k_).toNat ≤ 2047 := hI_.2 139 0 _
      refine sm_T_go 5 (c1 := (58, [some (.inr (.inr (some (13, 0)))), some (.inl s_), some (.inl a_), some (.inl b_), some (.inl nb_), some (.inl cy_), some (.inl sa_), some (.inl k_), some (.inl (S_.2.2.1 139 0 (8 * a_ + k_).toNat)), some (.inl (S_.2.2.1 139 0 (8 * b_ + k_).toNat)), some (.inl 0), none, none], [.inl 38, .inl s_], S_)) rfl ?_
      refine sm_T_br (a := 1) (z := 16) rfl (fun cx7_ => ?_) (fun cx7_ => ?_)
      · have cx7_ : s_ ≠ 38 := of_decide_eq_true cx7_
        refine sm_T_go 2 (c1 := (77, [some (.inr (.inr (some (13, 0)))), some (.inl s_), some (.inl a_), some (.inl b_), some (.inl nb_), some (.inl cy_), some (.inl sa_), some (.inl k_), some (.inl (S_.2.2.1 139 0 (8 * a_ + k_).toNat)), some (.inl (S_.2.2.1 139 0 (8 * b_ + k_).toNat)), some (.inl 0), none, none], [.inl 124, .inl s_], S_)) rfl ?_
        refine sm_T_br (a := 1) (z := 16) rfl (fun cx8_ => ?_) (fun cx8_ => ?_)
        · have cx8_ : s_ ≠ 124 := of_decide_eq_true cx8_
          refine sm_T_go 2 (c1 := (96, [some (.inr (.inr (some (13, 0)))), some (.inl s_), some (.inl a_), some (.inl b_), some (.inl nb_), some (.inl cy_), some (.inl sa_), some (.inl k_), some (.inl (S_.2.2.1 139 0 (8 * a_ + k_).toNat)), some (.inl (S_.2.2.1 139 0 (8 * b_ + k_).toNat)), some (.inl 0), none, none], [.inl 94, .inl s_], S_)) rfl ?_
          refine sm_T_br (a := 1) (z := 16) rfl (fun cx9_ => ?_) (fun cx9_ => ?_)
          · have cx9_ : s_ ≠ 94 := of_decide_eq_true cx9_
            refine sm_T_go 2 (c1 := (115, [some (.inr (.inr (some (13, 0)))), some (.inl s_), some (.inl a_), some (.inl b_), some (.inl nb_), some (.inl cy_), some (.inl sa_), some (.inl k_), some (.inl (S_.2.2.1 139 0 (8 * a_ + k_).toNat)), some (.inl (S_.2.2.1 139 0 (8 * b_ + k_).toNat)), some (.inl 0), none, none], [.inl 43, .inl s_], S_)) rfl ?_
            refine sm_T_br (a := 1) (z := 52) rfl (fun cx10_ => ?_) (fun cx10_ => ?_)
            · have cx10_ : s_ ≠ 43 := of_decide_eq_true cx10_
              refine sm_T_go 4 (c1 := (173, [some (.inr (.inr (some (13, 0)))), some (.inl s_), some (.inl a_), some (.inl b_), some (.inl nb_), some (.inl cy_), some (.inl sa_), some (.inl k_), some (.inl (S_.2.2.1 139 0 (8 * a_ + k_).toNat)), some (.inl (S_.2.2.1 139 0 (8 * b_ + k_).toNat)), some (.inl 0), none, none], [.inl (S_.2.2.1 139 0 (8 * b_ + k_).toNat), .inl (S_.2.2.1 139 0 (8 * a_ + k_).toNat), .inr (.inr (some (13, 0))), .inl 1], S_)) rfl ?_
              refine sm_T_cal (d1 := 2) (Q1 := vq_330 (S_.2.2.1 139 0 (8 * a_ + k_).toNat) (S_.2.2.1 139 0 (8 * b_ + k_).toNat) F_ G1_ r0_ s0_ S_) rfl rfl (by decide) (vc_330 (S_.2.2.1 139 0 (8 * a_ + k_).toNat) (S_.2.2.1 139 0 (8 * b_ + k_).toNat) F_ G1_ r0_ s0_ S_ hI_ (by exact z1_) (by omega) (by omega) (by exact rx)) (fun u_ Sx11_ px14_ => ?_)
              obtain ⟨vx16_, rfl, hIx12_, hFx13_, px14_⟩ := px14_
              have hFx15_ : ai_fr (sx_W vw_331s) S0_ Sx11_ := ai_fr_tr hF_ (fr_le hFx13_ rfl)
              have e180_ := px14_
              have f173_ : Sx11_.2.2.1 139 0 = S_.2.2.1 139 0 := fr_arr hFx13_ rfl
              have g9_ : ∀ z9_ : Int, ∀ j9_ : Nat, (sm_aI Sx11_ 139 0 (8 * a_ + k_).toNat z9_).2.2.1 139 0 j9_ = if j9_ = (8 * a_ + k_).toNat then z9_ else S_.2.2.1 139 0 j9_ := fun z9_ j9_ => by rw [rd_eq, f173_]
              refine sm_T_bin (w := (i_xor 1 vx16_)) rfl rfl ?_
              first | have bx17_ := (i_xc (x_ := 1) (y_ := vx16_)).trans (i_x1 (x_ := vx16_) (by omega)) | have bx17_ := i_x1 (x_ := 1) (by omega)
              refine sm_T_go 2 (c1 := (181, [some (.inr (.inr (some (13, 0)))), some (.inl s_), some (.inl a_), some (.inl b_), some (.inl nb_), some (.inl cy_), some (.inl sa_), some (.inl k_), some (.inl (S_.2.2.1 139 0 (8 * a_ + k_).toNat)), some (.inl (S_.2.2.1 139 0 (8 * b_ + k_).toNat)), some (.inl 0), some (.inl (i_xor 1 vx16_)), none], [.inl k_], Sx11_)) rfl ?_
              refine sm_T_b0 (a := 1) (z := 8) rfl (fun cx18_ => ?_) (fun cx18_ => ?_)
              · have cx18_ : k_ ≠ 0 := of_decide_eq_true cx18_
                obtain ⟨s1_, zs_, z8_⟩ : ∃ s1_, (imq (G1_.length ≤ 1001) (sa_ = s1_)) ∧ (g_sa F_ G_ x_ y_) = ([(g_s1 F_ G1_ s1_ (r0_ :: r_) (s0_ :: t_)).1], (g_s1 F_ G1_ s1_ (r0_ :: r_) (s0_ :: t_)).2) := by rcases z8_ with q_ | q_; omega; exact q_.2
                have l2_ := (g_an_le (F_ := F_) (G_ := (g_xo F_ G1_ r0_ s0_).2) (a_ := s1_) (b_ := i_xor (g_xo F_ G1_ r0_ s0_).1 1)).1
                refine sm_T_go 3 (c1 := (194, [some (.inr (.inr (some (13, 0)))), some (.inl s_), some (.inl a_), some (.inl b_), some (.inl nb_), some (.inl cy_), some (.inl sa_), some (.inl k_), some (.inl (S_.2.2.1 139 0 (8 * a_ + k_).toNat)), some (.inl (S_.2.2.1 139 0 (8 * b_ + k_).toNat)), some (.inl 0), some (.inl (i_xor 1 vx16_)), none], [.inl (i_xor 1 vx16_), .inl sa_, .inr (.inr (some (13, 0)))], Sx11_)) rfl ?_
                refine sm_T_cal (d1 := 0) (Q1 := vq_328 sa_ (i_xor 1 vx16_) F_ (g_xo F_ G1_ r0_ s0_).2 s1_ (i_xor (g_xo F_ G1_ r0_ s0_).1 1) Sx11_) rfl rfl (by decide) (vc_328 sa_ (i_xor 1 vx16_) F_ (g_xo F_ G1_ r0_ s0_).2 s1_ (i_xor (g_xo F_ G1_ r0_ s0_).1 1) Sx11_ hIx12_ (by exact e180_.1) (by omega) (by omega) (by (intro z_; rw [i_xc, e180_.2.1 (by omega)]; exact ⟨zs_ (by omega), rfl⟩))) (fun u_ Sx19_ px22_ => ?_)
                obtain ⟨vx24_, rfl, hIx20_, hFx21_, px22_⟩ := px22_
                have hFx23_ : ai_fr (sx_W vw_331s) S0_ Sx19_ := ai_fr_tr hFx15_ (fr_le hFx21_ rfl)
                have e185_ := px22_
                have f194_ : Sx19_.2.2.1 139 0 = S_.2.2.1 139 0 := (fr_arr hFx21_ rfl).trans f173_
                have g9_ : ∀ z9_ : Int, ∀ j9_ : Nat, (sm_aI Sx19_ 139 0 (8 * a_ + k_).toNat z9_).2.2.1 139 0 j9_ = if j9_ = (8 * a_ + k_).toNat then z9_ else S_.2.2.1 139 0 j9_ := fun z9_ j9_ => by rw [rd_eq, f194_]
                refine sm_T_go 5 (c1 := (206, [some (.inr (.inr (some (13, 0)))), some (.inl s_), some (.inl a_), some (.inl b_), some (.inl nb_), some (.inl cy_), some (.inl vx24_), some (.inl k_), some (.inl (S_.2.2.1 139 0 (8 * a_ + k_).toNat)), some (.inl (S_.2.2.1 139 0 (8 * b_ + k_).toNat)), some (.inl 0), some (.inl (i_xor 1 vx16_)), none], [.inl a_, .inl 8, .inr (.inr (some (139, 0)))], Sx19_)) rfl ?_
                refine sm_T_bin (w := 8 * a_) rfl (bi_mul (by omega) (by omega) (by omega)) ?_
                refine sm_T_go 1 (c1 := (209, [some (.inr (.inr (some (13, 0)))), some (.inl s_), some (.inl a_), some (.inl b_), some (.inl nb_), some (.inl cy_), some (.inl vx24_), some (.inl k_), some (.inl (S_.2.2.1 139 0 (8 * a_ + k_).toNat)), some (.inl (S_.2.2.1 139 0 (8 * b_ + k_).toNat)), some (.inl 0), some (.inl (i_xor 1 vx16_)), none], [.inl k_, .inl (8 * a_), .inr (.inr (some (139, 0)))], Sx19_)) rfl ?_
                refine sm_T_bin (w := 8 * a_ + k_) rfl (bi_add (by omega) (by omega) (by omega)) ?_
                refine sm_T_go 1 (c1 := (212, [some (.inr (.inr (some (13, 0)))), some (.inl s_), some (.inl a_), some (.inl b_), some (.inl nb_), some (.inl cy_), some (.inl vx24_), some (.inl k_), some (.inl (S_.2.2.1 139 0 (8 * a_ + k_).toNat)), some (.inl (S_.2.2.1 139 0 (8 * b_ + k_).toNat)), some (.inl 0), some (.inl (i_xor 1 vx16_)), none], [.inl 0, .inl (8 * a_ + k_), .inr (.inr (some (139, 0)))], Sx19_)) rfl ?_
                refine sm_T_iast (n := 8192) rfl rfl (by omega) (by omega) ?_
                have hIx25_ : gi (sm_aI Sx19_ 139 0 (8 * a_ + k_).toNat 0) := gi_aI hIx20_ (show 0 ≤ 0 ∧ 0 ≤ 2047 from ⟨by omega, by omega⟩)
                have hFx26_ : ai_fr (sx_W vw_331s) S0_ (sm_aI Sx19_ 139 0 (8 * a_ + k_).toNat 0) := ai_fr_tr hFx23_ (ai_fr_aI rfl)
                refine sm_T_inc (a := 7) (z := 1) (v := k_) (w := k_ + 1) rfl rfl (by omega) (by omega) (by omega) ?_
                refine sm_T_go 1 (c1 := (17, [some (.inr (.inr (some (13, 0)))), some (.inl s_), some (.inl a_), some (.inl b_), some (.inl nb_), some (.inl cy_), some (.inl vx24_), some (.inl (k_ + 1)), some (.inl (S_.2.2.1 139 0 (8 * a_ + k_).toNat)), some (.inl (S_.2.2.1 139 0 (8 * b_ + k_).toNat)), some (.inl 0), some (.inl (i_xor 1 vx16_)), none], [], sm_aI Sx19_ 139 0 (8 * a_ + k_).toNat 0)) rfl ?_
                refine sm_T_wk [some (.inr (.inr (some (13, 0)))), some (.inl s_), some (.inl a_), some (.inl b_), some (.inl nb_), some (.inl cy_), some (.inl vx24_), some (.inl (k_ + 1)), none, none, none, none, none] (by exact ⟨rfl, rfl, rfl, rfl, rfl, rfl, rfl, rfl, trivial⟩) ?_
                refine ih_ nb_ cy_ vx24_ (k_ + 1) (sm_aI Sx19_ 139 0 (8 * a_ + k_).toNat 0) hIx25_ hFx26_ ⟨?_, ?_, ?_, ?_, trivial⟩ ?_
                · omega
                · omega
                · first | (refine ⟨(g_xo F_ G1_ r0_ s0_).2, d_ ++ [0], r_, e_ ++ [s0_], t_, rgl_st e180_.1, ?_, ?_, ?_, ?_, ?_, fun z_ => ?_, by omega, Or.inr ⟨by omega, i_xor (g_xo F_ G1_ r0_ s0_).1 1, fun z_ => by rw [i_xc, e180_.2.1 z_], rfl⟩⟩) | (refine ⟨(g_e3 F_ G1_ s1_ r0_ s0_).2, d_ ++ [0], r_, e_ ++ [s0_], t_, rgl_st e185_.1, ?_, ?_, ?_, ?_, ?_, fun z_ => ?_, ?_, Or.inr ⟨by omega, (g_e3 F_ G1_ s1_ r0_ s0_).1, fun z_ => e185_.2.1 z_, by rw [z8_]; rfl⟩⟩; rotate_right; (show _ ≤ (g_an F_ (g_xo F_ G1_ r0_ s0_).2 s1_ (i_xor (g_xo F_ G1_ r0_ s0_).1 1)).2.length; omega))
                  · simp only [List.length_append, List.length_cons, List.length_nil]; push_cast; omega
                  · simp only [List.length_append, List.length_cons, List.length_nil]; push_cast; omega
                  · simp only [List.length_cons] at z3_; omega
                  · simp only [List.length_cons] at z4_; push_cast at z4_; omega
                  · rw [z5_, List.append_assoc]; rfl
                  · have q0_ : G1_.length ≤ 1001 := by first | omega | (have zz_ : (g_an F_ (g_xo F_ G1_ r0_ s0_).2 s1_ (i_xor (g_xo F_ G1_ r0_ s0_).1 1)).2.length ≤ 1001 := z_; omega)
                    have q1_ := z6_ q0_
                    refine ⟨?_, ?_⟩
                    · exact rwv_set (q_ := (8 * a_ + k_).toNat) q1_.1 (by omega) (fun j9_ => by rw [g9_])
                    · exact rwv_cg q1_.2 (fun j9_ hj_ => by rw [g9_, if_neg (by omega)])
                · intro j_ hj_
                  rw [g9_, if_neg (by omega)]
                  exact h2_ j_ hj_
                · omega
              · have cx18_ : ¬ (k_ ≠ 0) := of_decide_eq_false cx18_
                obtain ⟨rfl, rfl, rfl⟩ : G1_ = G_ ∧ x_ = r0_ :: r_ ∧ y_ = s0_ :: t_ := by rcases z8_ with q_ | q_; exact ⟨q_.2.1, q_.2.2.1.symm, q_.2.2.2.symm⟩; omega
                refine sm_T_go 7 (c1 := (206, [some (.inr (.inr (some (13, 0)))), some (.inl s_), some (.inl a_), some (.inl b_), some (.inl nb_), some (.inl cy_), some (.inl (i_xor 1 vx16_)), some (.inl k_), some (.inl (S_.2.2.1 139 0 (8 * a_ + k_).toNat)), some (.inl (S_.2.2.1 139 0 (8 * b_ + k_).toNat)), some (.inl 0), some (.inl (i_xor 1 vx16_)), none], [.inl a_, .inl 8, .inr (.inr (some (139, 0)))], Sx11_)) rfl ?_
                refine sm_T_bin (w := 8 * a_) rfl (bi_mul (by omega) (by omega) (by omega)) ?_
                refine sm_T_go 1 (c1 := (209, [some (.inr (.inr (some (13, 0)))), some (.inl s_), some (.inl a_), some (.inl b_), some (.inl nb_), some (.inl cy_), some (.inl (i_xor 1 vx16_)), some (.inl k_), some (.inl (S_.2.2.1 139 0 (8 * a_ + k_).toNat)), some (.inl (S_.2.2.1 139 0 (8 * b_ + k_).toNat)), some (.inl 0), some (.inl (i_xor 1 vx16_)), none], [.inl k_, .inl (8 * a_), .inr (.inr (some (139, 0)))], Sx11_)) rfl ?_
                refine sm_T_bin (w := 8 * a_ + k_) rfl (bi_add (by omega) (by omega) (by omega)) ?_
                refine sm_T_go 1 (c1 := (212, [some (.inr (.inr (some (13, 0)))), some (.inl s_), some (.inl a_), some (.inl b_), some (.inl nb_), some (.inl cy_), some (.inl (i_xor 1 vx16_)), some (.inl k_), some (.inl (S_.2.2.1 139 0 (8 * a_ + k_).toNat)), some (.inl (S_.2.2.1 139 0 (8 * b_ + k_).toNat)), some (.inl 0), some (.inl (i_xor 1 vx16_)), none], [.inl 0, .inl (8 * a_ + k_), .inr (.inr (some (139, 0)))], Sx11_)) rfl ?_
                refine sm_T_iast (n := 8192) rfl rfl (by omega) (by omega) ?_
                have hIx27_ : gi (sm_aI Sx11_ 139 0 (8 * a_ + k_).toNat 0) := gi_aI hIx12_ (show 0 ≤ 0 ∧ 0 ≤ 2047 from ⟨by omega, by omega⟩)
                have hFx28_ : ai_fr (sx_W vw_331s) S0_ (sm_aI Sx11_ 139 0 (8 * a_ + k_).toNat 0) := ai_fr_tr hFx15_ (ai_fr_aI rfl)
                refine sm_T_inc (a := 7) (z := 1) (v := k_) (w := k_ + 1) rfl rfl (by omega) (by omega) (by omega) ?_
                refine sm_T_go 1 (c1 := (17, [some (.inr (.inr (some (13, 0)))), some (.inl s_), some (.inl a_), some (.inl b_), some (.inl nb_), some (.inl cy_), some (.inl (i_xor 1 vx16_)), some (.inl (k_ + 1)), some (.inl (S_.2.2.1 139 0 (8 * a_ + k_).toNat)), some (.inl (S_.2.2.1 139 0 (8 * b_ + k_).toNat)), some (.inl 0), some (.inl (i_xor 1 vx16_)), none], [], sm_aI Sx11_ 139 0 (8 * a_ + k_).toNat 0)) rfl ?_
                refine sm_T_wk [some (.inr (.inr (some (13, 0)))), some (.inl s_), some (.inl a_), some (.inl b_), some (.inl nb_), some (.inl cy_), some (.inl (i_xor 1 vx16_)), some (.inl (k_ + 1)), none, none, none, none, none] (by exact ⟨rfl, rfl, rfl, rfl, rfl, rfl, rfl, rfl, trivial⟩) ?_
                refine ih_ nb_ cy_ (i_xor 1 vx16_) (k_ + 1) (sm_aI Sx11_ 139 0 (8 * a_ + k_).toNat 0) hIx27_ hFx28_ ⟨?_, ?_, ?_, ?_, trivial⟩ ?_
                · omega
                · omega
                · first | (refine ⟨(g_xo F_ G1_ r0_ s0_).2, d_ ++ [0], r_, e_ ++ [s0_], t_, rgl_st e180_.1, ?_, ?_, ?_, ?_, ?_, fun z_ => ?_, by omega, Or.inr ⟨by omega, i_xor (g_xo F_ G1_ r0_ s0_).1 1, fun z_ => by rw [i_xc, e180_.2.1 z_], rfl⟩⟩) | (refine ⟨(g_e3 F_ G1_ s1_ r0_ s0_).2, d_ ++ [0], r_, e_ ++ [s0_], t_, rgl_st e185_.1, ?_, ?_, ?_, ?_, ?_, fun z_ => ?_, ?_, Or.inr ⟨by omega, (g_e3 F_ G1_ s1_ r0_ s0_).1, fun z_ => e185_.2.1 z_, by rw [z8_]; rfl⟩⟩; rotate_right; (show _ ≤ (g_an F_ (g_xo F_ G1_ r0_ s0_).2 s1_ (i_xor (g_xo F_ G1_ r0_ s0_).1 1)).2.length; omega))
                  · simp only [List.length_append, List.length_cons, List.length_nil]; push_cast; omega
                  · simp only [List.length_append, List.length_cons, List.length_nil]; push_cast; omega
                  · simp only [List.length_cons] at z3_; omega
                  · simp only [List.length_cons] at z4_; push_cast at z4_; omega
                  · rw [z5_, List.append_assoc]; rfl
                  · have q0_ : G1_.length ≤ 1001 := by first | omega | (have zz_ : (g_an F_ (g_xo F_ G1_ r0_ s0_).2 s1_ (i_xor (g_xo F_ G1_ r0_ s0_).1 1)).2.length ≤ 1001 := z_; omega)
                    have q1_ := z6_ q0_
                    refine ⟨?_, ?_⟩
                    · exact rwv_set (q_ := (8 * a_ + k_).toNat) q1_.1 (by omega) (fun j9_ => by rw [g9_])
                    · exact rwv_cg q1_.2 (fun j9_ hj_ => by rw [g9_, if_neg (by omega)])
                · intro j_ hj_
                  rw [g9_, if_neg (by omega)]
                  exact h2_ j_ hj_
                · omega
            · have cx10_ : ¬ (s_ ≠ 43) := of_decide_eq_false cx10_
              exfalso; omega
          · have cx9_ : ¬ (s_ ≠ 94) := of_decide_eq_false cx9_
            exfalso; omega
        · have cx8_ : ¬ (s_ ≠ 124) := of_decide_eq_false cx8_
          exfalso; omega
      · have cx7_ : ¬ (s_ ≠ 38) := of_decide_eq_false cx7_
        exfalso; omega
set_option maxHeartbeats 1500000 in
set_option maxRecDepth 20000 in
theorem vc_331s {sc_ : Nat × (Nat → Int)} (s_ : Int) (a_ : Int) (b_ : Int) (F_ : Nat) (G_ : pGr) (x_ : List Int) (y_ : List Int) (S0_ : sm_S) (hI_ : gi S0_) (hg_ : rgl F_ G_ S0_) (ha_ : 0 ≤ a_ ∧ a_ + 1 ≤ b_ ∧ b_ ≤ 1023) (hw_ : S0_.2.2.1 138 0 a_.toNat = (x_.length : Int)) (hn_ : x_.length = y_.length ∧ 1 ≤ x_.length ∧ x_.length ≤ 8) (hr_ : imq (G_.length ≤ 1001) (rwv (S0_.2.2.1 139 0) (8 * a_.toNat) x_ ∧ rwv (S0_.2.2.1 139 0) (8 * b_.toNat) y_)) (hs_ : s_ = 257) : sm_T (mt_P sc_) 3 331 (0, [some (.inr (.inr (some (13, 0)))), some (.inl s_), some (.inl a_), some (.inl b_), none, none, none, none, none, none, none, none, none], [], S0_) (fun ro9_ => ∃ u_ S1_, ro9_ = (.inl u_, S1_, 0) ∧ vq_331s s_ a_ b_ F_ G_ x_ y_ S0_ u_ S1_) := by
  have hF_ : ai_fr (sx_W vw_331s) S0_ S0_ := ai_fr_rf
  refine sm_T_go 3 (c1 := (5, [some (.inr (.inr (some (13, 0)))), some (.inl s_), some (.inl a_), some (.inl b_), none, none, none, none, none, none, none, none, none], [.inl a_, .inr (.inr (some (138, 0)))], S0_)) rfl ?_
  refine sm_T_iald (n := 1024) rfl rfl (by omega) (by omega) ?_
  have bx1_ : (-2147483648) ≤ S0_.2.2.1 138 0 a_.toNat ∧ S0_.2.2.1 138 0 a_.toNat ≤ 2147483647 := hI_.2 138 0 _
  refine sm_T_go 7 (c1 := (17, [some (.inr (.inr (some (13, 0)))), some (.inl s_), some (.inl a_), some (.inl b_), some (.inl (S0_.2.2.1 138 0 a_.toNat)), some (.inl 0), some (.inl 1), some (.inl 0), none, none, none, none, none], [], S0_)) rfl ?_
  refine (vl_331s s_ a_ b_ F_ G_ x_ y_ S0_ hg_ ha_ hw_ hn_ hr_ hs_ _) (S0_.2.2.1 138 0 a_.toNat) 0 1 0 S0_ hI_ hF_ ⟨?_, ?_, ?_, ?_, trivial⟩ (Nat.lt_succ_self _)
  · omega
  · omega
  · exact ⟨G_, [], x_, [], y_, hg_, rfl, rfl, hn_.1, by omega, rfl, hr_, Nat.le_refl _, Or.inl ⟨rfl, rfl, rfl, rfl⟩⟩
  · (intro j_ hj_; rfl)
def vw_331 : sx_Wl := vw_331w
def vq_331 (s_ : Int) (a_ : Int) (b_ : Int) (F_ : Nat) (G_ : pGr) (x_ : List Int) (y_ : List Int) (kk_ : Int) (S0_ : sm_S) (u_ : Option sm_V) (S1_ : sm_S) : Prop := u_ = none ∧ gi S1_ ∧ ai_fr (sx_W vw_331) S0_ S1_ ∧ (rgl F_ (g_op F_ kk_ G_ x_ y_).2 S1_ ∧ (imq ((g_op F_ kk_ G_ x_ y_).2.length ≤ 1001) (rwv (S1_.2.2.1 139 0) (8 * a_.toNat) (g_op F_ kk_ G_ x_ y_).1)) ∧ ∀ j_ : Nat, j_ < 8 * a_.toNat ∨ 8 * a_.toNat + 8 ≤ j_ → S1_.2.2.1 139 0 j_ = S0_.2.2.1 139 0 j_)
theorem vc_331 {sc_ : Nat × (Nat → Int)} (s_ : Int) (a_ : Int) (b_ : Int) (F_ : Nat) (G_ : pGr) (x_ : List Int) (y_ : List Int) (kk_ : Int) (S0_ : sm_S) (hI_ : gi S0_) (hg_ : rgl F_ G_ S0_) (ha_ : 0 ≤ a_ ∧ a_ + 1 ≤ b_ ∧ b_ ≤ 1023) (hw_ : S0_.2.2.1 138 0 a_.toNat = (x_.length : Int)) (hn_ : x_.length = y_.length ∧ 1 ≤ x_.length ∧ x_.length ≤ 8) (hr_ : imq (G_.length ≤ 1001) (rwv (S0_.2.2.1 139 0) (8 * a_.toNat) x_ ∧ rwv (S0_.2.2.1 139 0) (8 * b_.toNat) y_)) (hs_ : (s_ = 124 ∧ kk_ = 1) ∨ (s_ = 94 ∧ kk_ = 2) ∨ (s_ = 38 ∧ kk_ = 3) ∨ (s_ = 257 ∧ kk_ = 4) ∨ (s_ = 43 ∧ kk_ = 5)) : sm_T (mt_P sc_) 3 331 (0, [some (.inr (.inr (some (13, 0)))), some (.inl s_), some (.inl a_), some (.inl b_), none, none, none, none, none, none, none, none, none], [], S0_) (fun r_ => ∃ u_ S1_, r_ = (.inl u_, S1_, 0) ∧ vq_331 s_ a_ b_ F_ G_ x_ y_ kk_ S0_ u_ S1_) := by
  by_cases g4_ : kk_ = 4
  · subst g4_
    exact vc_331s s_ a_ b_ F_ G_ x_ y_ S0_ hI_ hg_ ha_ hw_ hn_ hr_ (by omega)
  · by_cases g5_ : kk_ = 5
    · subst g5_
      exact vc_331p s_ a_ b_ F_ G_ x_ y_ S0_ hI_ hg_ ha_ hw_ hn_ hr_ (by omega)
    · exact vc_331w s_ a_ b_ F_ G_ x_ y_ kk_ S0_ hI_ hg_ ha_ hw_ hn_ hr_ (by omega)
