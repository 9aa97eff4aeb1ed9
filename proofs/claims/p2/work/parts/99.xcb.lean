/-! Reader.readArguments -/
def vw_129 : sx_Wl := ([(7, 2), (7, 14), (7, 16), (7, 17), (10, 2), (10, 3), (10, 4), (10, 5), (10, 6), (10, 7), (10, 8)], [74, 82, 83, 84], [])
def vq_129 (m_ : Int) (s_ : Int) (pl_ : Int) (b_ : Nat → Int) (n_ : Nat) (A_ : pA) (N_ : Nat → Nat) (M_ : Nat) (c_ : List Int) (p_ : Nat) (mm_ : Nat) (s0_ : Nat) (pl0_ : Nat) (S0_ : sm_S) (u_ : Option sm_V) (S1_ : sm_S) : Prop := u_ = none ∧ gi S1_ ∧ ai_fr (sx_W vw_129) S0_ S1_ ∧ (∃ r_, p_ua b_ n_ A_ M_ mm_ s0_ pl0_ c_ p_ = .inr r_ ∧ ct b_ n_ r_.2 S1_ ∧ dr b_ n_ A_ N_ M_ r_.1 S1_ ∧ r_.1.length ≤ 3 * r_.2 ∧ p_ < r_.2)
def vx_129 (m_ : Int) (s_ : Int) (pl_ : Int) (b_ : Nat → Int) (n_ : Nat) (A_ : pA) (N_ : Nat → Nat) (M_ : Nat) (c_ : List Int) (p_ : Nat) (mm_ : Nat) (s0_ : Nat) (pl0_ : Nat) (S0_ : sm_S) (S1_ : sm_S) : Prop := gi S1_ ∧ ai_fr (sx_W vw_129) S0_ S1_ ∧ (∃ e_, p_ua b_ n_ A_ M_ mm_ s0_ pl0_ c_ p_ = .inl e_ ∧ ter S1_ e_)
set_option maxHeartbeats 400000 in
set_option maxRecDepth 20000 in
theorem vl_129 {sc_ : Nat × (Nat → Int)} (m_ : Int) (s_ : Int) (pl_ : Int) (b_ : Nat → Int) (n_ : Nat) (A_ : pA) (N_ : Nat → Nat) (M_ : Nat) (c_ : List Int) (p_ : Nat) (mm_ : Nat) (s0_ : Nat) (pl0_ : Nat) (S0_ : sm_S) (hc_ : ct b_ n_ p_ S0_) (hd_ : dr b_ n_ A_ N_ M_ c_ S0_) (hl_ : c_.length ≤ 3 * p_) (hm9_ : m_ = (mm_ : Int)) (hmM_ : mm_ < M_) (hs9_ : s_ = (s0_ : Int)) (hs8_ : s0_ < 40) (hp9_ : pl_ = (pl0_ : Int)) (hp8_ : pl0_ ≤ 1280) : ∀ nn_ : Nat, (∀ (i_ : Int) (more : Int) (tm_ : Int) (g_ : Int) (S_ : sm_S), gi S_ → ai_fr (sx_W vw_129) S0_ S_ → ((0 ≤ g_ ∧ g_ ≤ (S_.1 10 0 3)) ∧ ((more = 1 ∧ tm_ = 0 ∧ ∃ f1_ c1_ q_, ct b_ n_ q_ S_ ∧ dr b_ n_ A_ N_ M_ c1_ S_ ∧ p_ ≤ q_ ∧ (i_ = -1 ∨ (0 ≤ i_ ∧ i_ < (A_.1 mm_ : Int))) ∧ c1_.length ≤ 3 * q_ ∧ n_ < q_ + f1_ ∧ p_ua b_ n_ A_ M_ mm_ s0_ pl0_ c_ p_ = p_ar b_ n_ A_ M_ mm_ s0_ pl0_ f1_ i_ c1_ q_) ∨ (more = 0 ∧ (tm_ = 0 ∨ tm_ = 1) ∧ ∃ c1_ q_ t1_, ct b_ n_ q_ S_ ∧ dr b_ n_ A_ N_ M_ c1_ S_ ∧ p_ ≤ q_ ∧ (i_ = -1 ∨ (0 ≤ i_ ∧ i_ < (A_.1 mm_ : Int))) ∧ c1_.length ≤ 3 * q_ + 1 ∧ p_ua b_ n_ A_ M_ mm_ s0_ pl0_ c_ p_ = p_ae b_ n_ pl0_ t1_ c1_ q_ ∧ (t1_ = true ↔ (tm_ = 1 ∨ i_ ≠ -1)))) ∧ True) → ((2 * (1300 - (S_.1 10 0 3)) + more).toNat) < nn_ → sm_T (mt_P sc_) 5 129 (33, [some (.inr (.inr (some (7, 0)))), some (.inl m_), some (.inl s_), some (.inl pl_), some (.inl i_), some (.inl more), some (.inl tm_), some (.inl g_), none, none], [], S_) (fun r_ => (∃ u_ S1_, r_ = (.inl u_, S1_, 0) ∧ vq_129 m_ s_ pl_ b_ n_ A_ N_ M_ c_ p_ mm_ s0_ pl0_ S0_ u_ S1_) ∨ ∃ S1_, r_ = (.inr 2, S1_, 1) ∧ vx_129 m_ s_ pl_ b_ n_ A_ N_ M_ c_ p_ mm_ s0_ pl0_ S0_ S1_)) := by
  intro nn_
  induction nn_ with
  | zero => exact fun _ _ _ _ _ _ _ _ h_ => absurd h_ (Nat.not_lt_zero _)
  | succ nn_ ih_ =>
    rintro i_ more tm_ g_ S_ hI_ hF_ ⟨h0_, h1_, -⟩ hm_
    have cst_ : 0 ≤ S_.1 10 0 3 ∧ S_.1 10 0 3 ≤ 1280 := hI_.1 10 0 3 rfl
    refine sm_T_go 1 (c1 := (35, [some (.inr (.inr (some (7, 0)))), some (.inl m_), some (.inl s_), some (.inl pl_), some (.inl i_), some (.inl more), some (.inl tm_), some (.inl g_), none, none], [.inl g_], S_)) rfl ?_
    refine sm_T_nt (u := some (.inl 65536)) (S1 := S_) rfl rfl rfl ?_
    refine sm_T_br (a := 3) (z := 136) rfl (fun cx1_ => ?_) (fun cx1_ => ?_)
    · have cx1_ : 65536 ≤ g_ := of_decide_eq_true cx1_
      exfalso; omega
    · have cx1_ : ¬ (65536 ≤ g_) := of_decide_eq_false cx1_
      refine sm_T_go 1 (c1 := (42, [some (.inr (.inr (some (7, 0)))), some (.inl m_), some (.inl s_), some (.inl pl_), some (.inl i_), some (.inl more), some (.inl tm_), some (.inl g_), none, none], [.inl more], S_)) rfl ?_
      refine sm_T_b0 (a := 0) (z := 131) rfl (fun cx2_ => ?_) (fun cx2_ => ?_)
      · have cx2_ : more = 0 := of_decide_eq_true cx2_
        obtain ⟨e1_, q_, t1_, c1_, d1_, y5_, y6_, y7_, z8_, z9_⟩ : ∃ e1_ q_ t1_, ct b_ n_ q_ S_ ∧ dr b_ n_ A_ N_ M_ e1_ S_ ∧ p_ ≤ q_ ∧ (i_ = -1 ∨ (0 ≤ i_ ∧ i_ < (A_.1 mm_ : Int))) ∧ e1_.length ≤ 3 * q_ + 1 ∧ p_ua b_ n_ A_ M_ mm_ s0_ pl0_ c_ p_ = p_ae b_ n_ pl0_ t1_ e1_ q_ ∧ (t1_ = true ↔ (tm_ = 1 ∨ i_ ≠ -1)) := by rcases h1_ with z_ | z_; (exact absurd z_.1 (by clear z_; omega)); (exact z_.2.2)
        have tm0_ : tm_ = 0 ∨ tm_ = 1 := by rcases h1_ with z_ | z_; (exact absurd z_.1 (by clear z_; omega)); (exact z_.2.1)
        clear h1_
        have st1_ := c1_.2.2.2.2.2.1
        have kd1_ := c1_.2.2.2.2.2.2.2.1
        have hp1_ := c1_.2.2.2.1
        have hn1_ := c1_.2.2.1
        have bx3_ : (-128) ≤ S_.1 10 0 2 ∧ S_.1 10 0 2 ≤ 257 := hI_.1 10 0 2 rfl
        refine sm_T_go 4 (c1 := (182, [some (.inr (.inr (some (7, 0)))), some (.inl m_), some (.inl s_), some (.inl pl_), some (.inl i_), some (.inl more), some (.inl tm_), some (.inl g_), none, none], [.inl 41, .inl (S_.1 10 0 2)], S_)) rfl ?_
        refine sm_T_br (a := 1) (z := 24) rfl (fun cx4_ => ?_) (fun cx4_ => ?_)
        · have cx4_ : (S_.1 10 0 2) ≠ 41 := of_decide_eq_true cx4_
          refine sm_T_go 3 (c1 := (212, [some (.inr (.inr (some (7, 0)))), some (.inl m_), some (.inl s_), some (.inl pl_), some (.inl i_), some (.inl more), some (.inl tm_), some (.inl g_), none, none], [.inl 41, .inr (.inr (some (10, 0)))], S_)) rfl ?_
          refine sm_T_calx (d1 := 2) (Q1 := vq_188 41 b_ n_ q_ S_) (Q2 := vx_188 41 b_ n_ q_ S_) rfl rfl (by decide) (vc_188 41 b_ n_ q_ S_ hI_ (by exact c1_)) rfl (fun Sx5_ px8_ => ?_) (fun u_ Sx5_ px8_ => ?_)
          · obtain ⟨hIx6_, hFx7_, px8_⟩ := px8_
            refine Or.inr ⟨_, rfl, hIx6_, ai_fr_tr hF_ (fr_le hFx7_ rfl), ?_⟩
            obtain ⟨e_, w1_, w2_⟩ := px8_
            refine ⟨e_, ?_, w2_⟩
            rw [z8_]; unfold p_ae; rw [if_neg (by rintro ⟨z1_, z2_⟩; have z3_ := z9_.mp z2_; omega), pb_l w1_]
          obtain ⟨rfl, hIx6_, hFx7_, px8_⟩ := px8_
          have hFx9_ : ai_fr (sx_W vw_129) S0_ Sx5_ := ai_fr_tr hF_ (fr_le hFx7_ rfl)
          obtain ⟨r2_, a2_, c2_⟩ := px8_
          have k2_ := p_nd_ok (by decide) c1_.2.2.2.1 a2_
          have d2_ := dr_fr d1_ hFx7_ rfl rfl rfl rfl rfl rfl rfl rfl rfl rfl
          refine sm_T_rv rfl (Or.inl ⟨_, _, rfl, rfl, hIx6_, hFx9_, ?_⟩)
          refine ⟨(e1_, r2_), ?_, c2_, d2_, by show e1_.length ≤ 3 * r2_; omega, by show p_ < r2_; omega⟩
          rw [z8_]; unfold p_ae; rw [if_neg (by rintro ⟨z1_, z2_⟩; have z3_ := z9_.mp z2_; omega), pb_r a2_]
        · have cx4_ : ¬ ((S_.1 10 0 2) ≠ 41) := of_decide_eq_false cx4_
          refine sm_T_go 1 (c1 := (187, [some (.inr (.inr (some (7, 0)))), some (.inl m_), some (.inl s_), some (.inl pl_), some (.inl i_), some (.inl more), some (.inl tm_), some (.inl g_), none, none], [.inl tm_], S_)) rfl ?_
          refine sm_T_b0 (a := 1) (z := 9) rfl (fun cx10_ => ?_) (fun cx10_ => ?_)
          · have cx10_ : tm_ ≠ 0 := of_decide_eq_true cx10_
            refine sm_T_go 4 (c1 := (203, [some (.inr (.inr (some (7, 0)))), some (.inl m_), some (.inl s_), some (.inl pl_), some (.inl i_), some (.inl more), some (.inl tm_), some (.inl g_), none, none], [.inl pl_, .inl 14, .inr (.inr (some (10, 0)))], S_)) rfl ?_
            refine sm_T_calx (d1 := 0) (Q1 := vq_187 14 pl_ S_) (Q2 := vx_187 14 pl_ S_) rfl rfl (by decide) (vc_187 14 pl_ S_ hI_ (by decide) (by omega)) rfl (fun Sx11_ px14_ => ?_) (fun u_ Sx11_ px14_ => ?_)
            · obtain ⟨hIx12_, hFx13_, px14_⟩ := px14_
              refine Or.inr ⟨_, rfl, hIx12_, ai_fr_tr hF_ (fr_le hFx13_ rfl), ?_⟩
              refine ⟨(14, pl0_), ?_, px14_.1, px14_.2.trans hp9_⟩
              rw [z8_]; unfold p_ae; rw [if_pos ⟨by omega, z9_.mpr (by first | (left; omega) | (right; omega))⟩]
            · exact (px14_.2.2.2).elim
          · have cx10_ : ¬ (tm_ ≠ 0) := of_decide_eq_false cx10_
            refine sm_T_go 2 (c1 := (193, [some (.inr (.inr (some (7, 0)))), some (.inl m_), some (.inl s_), some (.inl pl_), some (.inl i_), some (.inl more), some (.inl tm_), some (.inl g_), none, none], [.inl (-1), .inl i_], S_)) rfl ?_
            refine sm_T_br (a := 0) (z := 13) rfl (fun cx16_ => ?_) (fun cx16_ => ?_)
            · have cx16_ : i_ = (-1) := of_decide_eq_true cx16_
              refine sm_T_go 3 (c1 := (212, [some (.inr (.inr (some (7, 0)))), some (.inl m_), some (.inl s_), some (.inl pl_), some (.inl i_), some (.inl more), some (.inl tm_), some (.inl g_), none, none], [.inl 41, .inr (.inr (some (10, 0)))], S_)) rfl ?_
              refine sm_T_calx (d1 := 2) (Q1 := vq_188 41 b_ n_ q_ S_) (Q2 := vx_188 41 b_ n_ q_ S_) rfl rfl (by decide) (vc_188 41 b_ n_ q_ S_ hI_ (by exact c1_)) rfl (fun Sx17_ px20_ => ?_) (fun u_ Sx17_ px20_ => ?_)
              · obtain ⟨hIx18_, hFx19_, px20_⟩ := px20_
                refine Or.inr ⟨_, rfl, hIx18_, ai_fr_tr hF_ (fr_le hFx19_ rfl), ?_⟩
                obtain ⟨e_, w1_, w2_⟩ := px20_
                refine ⟨e_, ?_, w2_⟩
                rw [z8_]; unfold p_ae; rw [if_neg (by rintro ⟨z1_, z2_⟩; have z3_ := z9_.mp z2_; omega), pb_l w1_]
              obtain ⟨rfl, hIx18_, hFx19_, px20_⟩ := px20_
              have hFx21_ : ai_fr (sx_W vw_129) S0_ Sx17_ := ai_fr_tr hF_ (fr_le hFx19_ rfl)
              obtain ⟨r2_, a2_, c2_⟩ := px20_
              have k2_ := p_nd_ok (by decide) c1_.2.2.2.1 a2_
              have d2_ := dr_fr d1_ hFx19_ rfl rfl rfl rfl rfl rfl rfl rfl rfl rfl
              refine sm_T_rv rfl (Or.inl ⟨_, _, rfl, rfl, hIx18_, hFx21_, ?_⟩)
              refine ⟨(e1_, r2_), ?_, c2_, d2_, by show e1_.length ≤ 3 * r2_; omega, by show p_ < r2_; omega⟩
              rw [z8_]; unfold p_ae; rw [if_neg (by rintro ⟨z1_, z2_⟩; have z3_ := z9_.mp z2_; omega), pb_r a2_]
            · have cx16_ : ¬ (i_ = (-1)) := of_decide_eq_false cx16_
              refine sm_T_go 4 (c1 := (203, [some (.inr (.inr (some (7, 0)))), some (.inl m_), some (.inl s_), some (.inl pl_), some (.inl i_), some (.inl more), some (.inl tm_), some (.inl g_), none, none], [.inl pl_, .inl 14, .inr (.inr (some (10, 0)))], S_)) rfl ?_
              refine sm_T_calx (d1 := 0) (Q1 := vq_187 14 pl_ S_) (Q2 := vx_187 14 pl_ S_) rfl rfl (by decide) (vc_187 14 pl_ S_ hI_ (by decide) (by omega)) rfl (fun Sx22_ px25_ => ?_) (fun u_ Sx22_ px25_ => ?_)
              · obtain ⟨hIx23_, hFx24_, px25_⟩ := px25_
                refine Or.inr ⟨_, rfl, hIx23_, ai_fr_tr hF_ (fr_le hFx24_ rfl), ?_⟩
                refine ⟨(14, pl0_), ?_, px25_.1, px25_.2.trans hp9_⟩
                rw [z8_]; unfold p_ae; rw [if_pos ⟨by omega, z9_.mpr (by first | (left; omega) | (right; omega))⟩]
              · exact (px25_.2.2.2).elim
      · have cx2_ : ¬ (more = 0) := of_decide_eq_false cx2_
        obtain ⟨f1_, e1_, q_, c1_, d1_, y5_, y6_, y7_, y9_, y8_⟩ : ∃ f1_ e1_ q_, ct b_ n_ q_ S_ ∧ dr b_ n_ A_ N_ M_ e1_ S_ ∧ p_ ≤ q_ ∧ (i_ = -1 ∨ (0 ≤ i_ ∧ i_ < (A_.1 mm_ : Int))) ∧ e1_.length ≤ 3 * q_ ∧ n_ < q_ + f1_ ∧ p_ua b_ n_ A_ M_ mm_ s0_ pl0_ c_ p_ = p_ar b_ n_ A_ M_ mm_ s0_ pl0_ f1_ i_ e1_ q_ := by rcases h1_ with z_ | z_; (exact z_.2.2); (exact absurd z_.1 (by clear z_; omega))
        obtain ⟨f1_, rfl⟩ : ∃ f_, f1_ = f_ + 1 := ⟨f1_ - 1, by have := c1_.2.2.2.1; omega⟩
        have mo1_ : more = 1 := by rcases h1_ with z_ | z_; (exact z_.1); (exact absurd z_.1 (by clear z_; omega))
        have tm0_ : tm_ = 0 := by rcases h1_ with z_ | z_; (exact z_.2.1); (exact absurd z_.1 (by clear z_; omega))
        clear h1_
        have st1_ := c1_.2.2.2.2.2.1
        have kd1_ := c1_.2.2.2.2.2.2.2.1
        have hp1_ := c1_.2.2.2.1
        have hn1_ := c1_.2.2.1
        have hA9_ := (d1_.1.2.1.2 mm_ (by omega)).1
        have hM9_ := d1_.1.2.1.1
        have bx27_ : 0 ≤ S_.1 10 0 3 ∧ S_.1 10 0 3 ≤ 1280 := hI_.1 10 0 3 rfl
        refine sm_T_go 5 (c1 := (55, [some (.inr (.inr (some (7, 0)))), some (.inl m_), some (.inl s_), some (.inl pl_), some (.inl i_), some (.inl more), some (.inl tm_), some (.inl g_), some (.inl (S_.1 10 0 3)), none], [.inr (.inr (some (7, 0)))], S_)) rfl ?_
        refine sm_T_calx (d1 := 4) (Q1 := vq_134 b_ n_ false A_ M_ 0 (fun _ => 0) (p_xd b_ n_ A_ M_ e1_ q_) e1_ q_ S_) (Q2 := vx_134 b_ n_ false A_ M_ 0 (fun _ => 0) (p_xd b_ n_ A_ M_ e1_ q_) e1_ q_ S_) rfl rfl (by decide) (vc_134 b_ n_ false A_ M_ 0 (fun _ => 0) (p_xd b_ n_ A_ M_ e1_ q_) e1_ q_ S_ hI_ (by exact c1_) (by exact ⟨fun _ => rfl, fun _ => d1_.2.2.1⟩) (by exact fun _ => d1_.2.2.2) (by omega) (by exact fun _ => d1_.1) (by exact fun z_ => absurd z_ (by decide)) (by exact p_ex_x hn1_ (pd_ok d1_.1.2.1) c1_.2.2.2.1 c1_.2.2.2.2.1 (by omega))) rfl (fun Sx28_ px31_ => ?_) (fun u_ Sx28_ px31_ => ?_)
        · obtain ⟨hIx29_, hFx30_, px31_⟩ := px31_
          refine Or.inr ⟨_, rfl, hIx29_, ai_fr_tr hF_ (fr_le hFx30_ rfl), ?_⟩
          obtain ⟨e_, w1_, w2_⟩ := px31_
          refine ⟨e_, ?_, w2_⟩
          rw [y8_, ar_s, pb_l w1_]
        obtain ⟨vx33_, rfl, hIx29_, hFx30_, px31_⟩ := px31_
        have hFx32_ : ai_fr (sx_W vw_129) S0_ Sx28_ := ai_fr_tr hF_ (fr_le hFx30_ rfl)
        obtain ⟨x5_, w5_, a5_, g5_, v5_, vb5_, c5_, lt5_, cd5_, l5_⟩ := px31_
        have d5_ : dr b_ n_ A_ N_ M_ x5_.2.2 Sx28_ := ⟨er_fr d1_.1 hFx30_ rfl rfl rfl rfl rfl rfl, nr_fr d1_.2.1 hFx30_ rfl, (hFx30_.2.1 7 0 11 rfl).trans d1_.2.2.1, cd5_ rfl⟩
        have t5_ : h_tp x5_.2.1 = vx33_ := by rw [g5_, v5_]; rfl
        obtain ⟨o5_, h5_, xs5_⟩ := xs_ex hIx29_ d5_.2.2.1 d5_.2.2.2.1 d5_.2.2.2.2
        have m5_ : Sx28_.2.2.1 77 0 (Sx28_.1 7 0 3).toNat = (A_.1 M_ : Int) := by rw [d5_.1.1, Int.toNat_natCast]; exact (d5_.1.2.2 M_ (Nat.le_refl _)).1
        have st5_ := c5_.2.2.2.2.2.1
        have kd5_ := c5_.2.2.2.2.2.2.2.1
        have hp5_ := c5_.2.2.2.1
        have wd9_ : i_ ≠ -1 → _ = A_.2.2.2.1 (40 * mm_ + i_.toNat) := fun z_ => by have z2_ := ((d5_.1.2.2 mm_ (by omega)).2 i_.toNat (by omega)).2.2.1; rw [← z2_, show 40 * mm_ + i_.toNat = (40 * m_ + i_).toNat by omega]
        refine sm_T_go 3 (c1 := (63, [some (.inr (.inr (some (7, 0)))), some (.inl m_), some (.inl s_), some (.inl pl_), some (.inl i_), some (.inl more), some (.inl tm_), some (.inl g_), some (.inl (S_.1 10 0 3)), some (.inl vx33_)], [.inl (-1), .inl i_], Sx28_)) rfl ?_
        refine sm_T_br (a := 1) (z := 9) rfl (fun cx34_ => ?_) (fun cx34_ => ?_)
        · have cx34_ : i_ ≠ (-1) := of_decide_eq_true cx34_
          refine sm_T_go 5 (c1 := (81, [some (.inr (.inr (some (7, 0)))), some (.inl m_), some (.inl s_), some (.inl pl_), some (.inl i_), some (.inl more), some (.inl tm_), some (.inl g_), some (.inl (S_.1 10 0 3)), some (.inl vx33_)], [.inl 40, .inl m_, .inr (.inr (some (80, 0))), .inl vx33_], Sx28_)) rfl ?_
          refine sm_T_bin (w := 40 * m_) rfl (bi_mul (by omega) (by omega) (by omega)) ?_
          refine sm_T_go 1 (c1 := (84, [some (.inr (.inr (some (7, 0)))), some (.inl m_), some (.inl s_), some (.inl pl_), some (.inl i_), some (.inl more), some (.inl tm_), some (.inl g_), some (.inl (S_.1 10 0 3)), some (.inl vx33_)], [.inl i_, .inl (40 * m_), .inr (.inr (some (80, 0))), .inl vx33_], Sx28_)) rfl ?_
          refine sm_T_bin (w := 40 * m_ + i_) rfl (bi_add (by omega) (by omega) (by omega)) ?_
          refine sm_T_iald (n := 640) rfl rfl (by omega) (by omega) ?_
          have bx35_ : 0 ≤ Sx28_.2.2.1 80 0 (40 * m_ + i_).toNat ∧ Sx28_.2.2.1 80 0 (40 * m_ + i_).toNat ≤ 8 := hIx29_.2 80 0 _
          refine sm_T_br (a := 0) (z := 14) rfl (fun cx36_ => ?_) (fun cx36_ => ?_)
          · have cx36_ : vx33_ = (Sx28_.2.2.1 80 0 (40 * m_ + i_).toNat) := of_decide_eq_true cx36_
            refine sm_T_go 4 (c1 := (106, [some (.inr (.inr (some (7, 0)))), some (.inl m_), some (.inl s_), some (.inl pl_), some (.inl i_), some (.inl more), some (.inl tm_), some (.inl g_), some (.inl (S_.1 10 0 3)), some (.inl vx33_)], [.inl i_, .inl s_, .inl 16, .inr (.inr (some (7, 0)))], Sx28_)) rfl ?_
            refine sm_T_cal (d1 := 0) (Q1 := vq_140 16 s_ i_ o5_ h5_ x5_.2.2 Sx28_) rfl rfl (by decide) (vc_140 16 s_ i_ o5_ h5_ x5_.2.2 Sx28_ hIx29_ (by exact xs5_) (by decide) (by omega) (by omega) (by omega)) (fun u_ Sx37_ px40_ => ?_)
            obtain ⟨rfl, hIx38_, hFx39_, px40_⟩ := px40_
            have hFx41_ : ai_fr (sx_W vw_129) S0_ Sx37_ := ai_fr_tr hFx32_ (fr_le hFx39_ rfl)
            have z6_ := px40_
            rw [hs9_] at z6_
            have d6_ : dr b_ n_ A_ N_ M_ (cw 16 s0_ i_ :: x5_.2.2) Sx37_ := ⟨er_fr d5_.1 hFx39_ rfl rfl rfl rfl rfl rfl, nr_fr d5_.2.1 hFx39_ rfl, (hFx39_.2.1 7 0 11 rfl).trans d5_.2.2.1, z6_.2.2.2.2.2.2 rfl⟩
            have c6_ := ct_fr c5_ hFx39_ rfl rfl rfl rfl rfl rfl rfl
            have kd6_ := c6_.2.2.2.2.2.2.2.1
            have st6_ := c6_.2.2.2.2.2.1
            refine sm_T_go 4 (c1 := (114, [some (.inr (.inr (some (7, 0)))), some (.inl m_), some (.inl s_), some (.inl pl_), some (.inl i_), some (.inl more), some (.inl tm_), some (.inl g_), some (.inl (S_.1 10 0 3)), some (.inl vx33_)], [.inl 1, .inl i_, .inl m_, .inr (.inr (some (7, 0)))], Sx37_)) rfl ?_
            refine sm_T_bin (w := i_ + 1) rfl (bi_add (by omega) (by omega) (by omega)) ?_
            refine sm_T_cal (d1 := 0) (Q1 := vq_130 m_ (i_ + 1) b_ n_ A_ M_ mm_ (i_.toNat + 1) Sx37_) rfl rfl (by decide) (vc_130 m_ (i_ + 1) b_ n_ A_ M_ mm_ (i_.toNat + 1) Sx37_ hIx38_ (by exact d6_.1) (by exact ⟨hm9_, by omega⟩) (by push_cast; omega) (by omega)) (fun u_ Sx42_ px45_ => ?_)
            obtain ⟨rfl, vx47_, rfl, px45_⟩ := px45_
            have e115_ : vx47_ = p_ni A_ mm_ (i_.toNat + 1) := px45_
            have ni1_ := p_ni_c (A_ := A_) (m_ := mm_) (k_ := i_.toNat + 1)
            have pa2_ : p_a2 A_ mm_ i_ = vx47_ := by unfold p_a2; rw [if_neg (by omega), e115_]
            have pa1_ : p_a1 A_ mm_ s0_ i_ x5_.2.2 = cw 16 s0_ i_ :: x5_.2.2 := if_neg (by omega)
            have w9_ : ¬ (i_ ≠ -1 ∧ h_tp x5_.2.1 ≠ A_.2.2.2.1 (40 * mm_ + i_.toNat)) := by rintro ⟨z1_, z2_⟩; first | omega | (rw [t5_, ← wd9_ z1_] at z2_; exact z2_ (by assumption))
            have bx48_ : (-128) ≤ Sx37_.1 10 0 2 ∧ Sx37_.1 10 0 2 ≤ 257 := hIx38_.1 10 0 2 rfl
            refine sm_T_go 5 (c1 := (129, [some (.inr (.inr (some (7, 0)))), some (.inl m_), some (.inl s_), some (.inl pl_), some (.inl vx47_), some (.inl more), some (.inl tm_), some (.inl g_), some (.inl (S_.1 10 0 3)), some (.inl vx33_)], [.inl 44, .inl (Sx37_.1 10 0 2)], Sx37_)) rfl ?_
            refine sm_T_br (a := 1) (z := 7) rfl (fun cx49_ => ?_) (fun cx49_ => ?_)
            · have cx49_ : (Sx37_.1 10 0 2) ≠ 44 := of_decide_eq_true cx49_
              refine sm_T_go 4 (c1 := (167, [some (.inr (.inr (some (7, 0)))), some (.inl m_), some (.inl s_), some (.inl pl_), some (.inl vx47_), some (.inl 0), some (.inl tm_), some (.inl g_), some (.inl (S_.1 10 0 3)), some (.inl vx33_)], [], Sx37_)) rfl ?_
              refine sm_T_inc (a := 7) (z := 1) (v := g_) (w := g_ + 1) rfl rfl (by omega) (by omega) (by omega) ?_
              refine sm_T_go 1 (c1 := (33, [some (.inr (.inr (some (7, 0)))), some (.inl m_), some (.inl s_), some (.inl pl_), some (.inl vx47_), some (.inl 0), some (.inl tm_), some (.inl (g_ + 1)), some (.inl (S_.1 10 0 3)), some (.inl vx33_)], [], Sx37_)) rfl ?_
              refine sm_T_wk [some (.inr (.inr (some (7, 0)))), some (.inl m_), some (.inl s_), some (.inl pl_), some (.inl vx47_), some (.inl 0), some (.inl tm_), some (.inl (g_ + 1)), none, none] (by exact ⟨rfl, rfl, rfl, rfl, rfl, rfl, rfl, rfl, trivial⟩) ?_
              refine ih_ vx47_ 0 tm_ (g_ + 1) Sx37_ hIx38_ hFx41_ ⟨?_, ?_, trivial⟩ ?_
              · first | omega | (have := k7_.2.1; omega)
              · first | (left; refine ⟨rfl, tm0_, f1_, _, (lx_nx b_ n_ x5_.1), c7_, d7_, by omega, by rw [e115_]; exact ni1_, by show x5_.2.2.length + 1 ≤ 3 * (lx_nx b_ n_ x5_.1); omega, by omega, ?_⟩; rw [y8_, ar_s, pb_r a5_, if_neg w9_, if_pos (by omega), if_neg (by omega), pb_r a7_, pa2_, pa1_]) | (right; refine ⟨rfl, Or.inl tm0_, _, x5_.1, decide (i_ = -1 ∨ p_a2 A_ mm_ i_ ≠ -1), c6_, d6_, by omega, by rw [e115_]; exact ni1_, by show x5_.2.2.length + 1 ≤ 3 * x5_.1 + 1; omega, ?_, ?_⟩; (rw [y8_, ar_s, pb_r a5_, if_neg w9_, if_neg (by omega), pa1_]); (rw [decide_eq_true_iff, pa2_]; omega)) | (right; refine ⟨rfl, Or.inr rfl, x5_.2.2, x5_.1, true, c5_, d5_, by omega, Or.inl (by omega), by omega, ?_, by constructor; (intro _; left; rfl); (intro _; rfl)⟩; rw [y8_, ar_s, pb_r a5_, if_neg (by rintro ⟨z1_, z2_⟩; omega), if_neg (by omega), show p_a1 A_ mm_ s0_ i_ x5_.2.2 = x5_.2.2 from if_pos (by omega), show decide (i_ = -1 ∨ p_a2 A_ mm_ i_ ≠ -1) = true from decide_eq_true (Or.inl (by omega))])
              · first | omega | (have := k7_.2.1; omega)
            · have cx49_ : ¬ ((Sx37_.1 10 0 2) ≠ 44) := of_decide_eq_false cx49_
              refine sm_T_go 7 (c1 := (147, [some (.inr (.inr (some (7, 0)))), some (.inl m_), some (.inl s_), some (.inl pl_), some (.inl vx47_), some (.inl 1), some (.inl tm_), some (.inl g_), some (.inl (S_.1 10 0 3)), some (.inl vx33_)], [.inl (-1), .inl vx47_], Sx37_)) rfl ?_
              refine sm_T_br (a := 1) (z := 13) rfl (fun cx50_ => ?_) (fun cx50_ => ?_)
              · have cx50_ : vx47_ ≠ (-1) := of_decide_eq_true cx50_
                refine sm_T_go 2 (c1 := (164, [some (.inr (.inr (some (7, 0)))), some (.inl m_), some (.inl s_), some (.inl pl_), some (.inl vx47_), some (.inl 1), some (.inl tm_), some (.inl g_), some (.inl (S_.1 10 0 3)), some (.inl vx33_)], [.inr (.inr (some (10, 0)))], Sx37_)) rfl ?_
                refine sm_T_calx (d1 := 1) (Q1 := vq_191 b_ n_ (lx_en b_ n_ x5_.1) Sx37_) (Q2 := vx_191 b_ n_ (lx_en b_ n_ x5_.1) Sx37_) rfl rfl (by decide) (vc_191 b_ n_ (lx_en b_ n_ x5_.1) Sx37_ hIx38_ (by exact c6_.1) (by exact c6_.2.1) (by exact c6_.2.2.1) (by exact c6_.2.2.2.2.2.2.1) (by exact (lx_en_le (b := b_) c6_.2.2.2.1).2)) rfl (fun Sx51_ px54_ => ?_) (fun u_ Sx51_ px54_ => ?_)
                · obtain ⟨hIx52_, hFx53_, px54_⟩ := px54_
                  refine Or.inr ⟨_, rfl, hIx52_, ai_fr_tr hFx41_ (fr_le hFx53_ rfl), ?_⟩
                  refine ⟨(1, (lx_nx b_ n_ x5_.1)), ?_, px54_.2⟩
                  rw [y8_, ar_s, pb_r a5_, if_neg w9_, if_pos (by omega), if_neg (by omega), pb_l (p_ad_x px54_.1)]
                obtain ⟨rfl, hIx52_, hFx53_, px54_⟩ := px54_
                have hFx55_ : ai_fr (sx_W vw_129) S0_ Sx51_ := ai_fr_tr hFx41_ (fr_le hFx53_ rfl)
                have c7_ : ct b_ n_ (lx_nx b_ n_ x5_.1) _ := px54_
                have a7_ := p_ad_c px54_
                have d7_ := dr_fr d6_ hFx53_ rfl rfl rfl rfl rfl rfl rfl rfl rfl rfl
                have k7_ := p_ad_ok c6_.2.2.2.1 (by omega) a7_
                have st7_ := c7_.2.2.2.2.2.1
                have kd7_ := c7_.2.2.2.2.2.2.2.1
                have hp7_ := c7_.2.2.2.1
                refine sm_T_inc (a := 7) (z := 1) (v := g_) (w := g_ + 1) rfl rfl (by omega) (by omega) (by omega) ?_
                refine sm_T_go 1 (c1 := (33, [some (.inr (.inr (some (7, 0)))), some (.inl m_), some (.inl s_), some (.inl pl_), some (.inl vx47_), some (.inl 1), some (.inl tm_), some (.inl (g_ + 1)), some (.inl (S_.1 10 0 3)), some (.inl vx33_)], [], Sx51_)) rfl ?_
                refine sm_T_wk [some (.inr (.inr (some (7, 0)))), some (.inl m_), some (.inl s_), some (.inl pl_), some (.inl vx47_), some (.inl 1), some (.inl tm_), some (.inl (g_ + 1)), none, none] (by exact ⟨rfl, rfl, rfl, rfl, rfl, rfl, rfl, rfl, trivial⟩) ?_
                refine ih_ vx47_ 1 tm_ (g_ + 1) Sx51_ hIx52_ hFx55_ ⟨?_, ?_, trivial⟩ ?_
                · first | omega | (have := k7_.2.1; omega)
                · first | (left; refine ⟨rfl, tm0_, f1_, _, (lx_nx b_ n_ x5_.1), c7_, d7_, by omega, by rw [e115_]; exact ni1_, by show x5_.2.2.length + 1 ≤ 3 * (lx_nx b_ n_ x5_.1); omega, by omega, ?_⟩; rw [y8_, ar_s, pb_r a5_, if_neg w9_, if_pos (by omega), if_neg (by omega), pb_r a7_, pa2_, pa1_]) | (right; refine ⟨rfl, Or.inl tm0_, _, x5_.1, decide (i_ = -1 ∨ p_a2 A_ mm_ i_ ≠ -1), c6_, d6_, by omega, by rw [e115_]; exact ni1_, by show x5_.2.2.length + 1 ≤ 3 * x5_.1 + 1; omega, ?_, ?_⟩; (rw [y8_, ar_s, pb_r a5_, if_neg w9_, if_neg (by omega), pa1_]); (rw [decide_eq_true_iff, pa2_]; omega)) | (right; refine ⟨rfl, Or.inr rfl, x5_.2.2, x5_.1, true, c5_, d5_, by omega, Or.inl (by omega), by omega, ?_, by constructor; (intro _; left; rfl); (intro _; rfl)⟩; rw [y8_, ar_s, pb_r a5_, if_neg (by rintro ⟨z1_, z2_⟩; omega), if_neg (by omega), show p_a1 A_ mm_ s0_ i_ x5_.2.2 = x5_.2.2 from if_pos (by omega), show decide (i_ = -1 ∨ p_a2 A_ mm_ i_ ≠ -1) = true from decide_eq_true (Or.inl (by omega))])
                · first | omega | (have := k7_.2.1; omega)
              · have cx50_ : ¬ (vx47_ ≠ (-1)) := of_decide_eq_false cx50_
                refine sm_T_go 4 (c1 := (157, [some (.inr (.inr (some (7, 0)))), some (.inl m_), some (.inl s_), some (.inl pl_), some (.inl vx47_), some (.inl 1), some (.inl tm_), some (.inl g_), some (.inl (S_.1 10 0 3)), some (.inl vx33_)], [.inl pl_, .inl 14, .inr (.inr (some (10, 0)))], Sx37_)) rfl ?_
                refine sm_T_calx (d1 := 0) (Q1 := vq_187 14 pl_ Sx37_) (Q2 := vx_187 14 pl_ Sx37_) rfl rfl (by decide) (vc_187 14 pl_ Sx37_ hIx38_ (by decide) (by omega)) rfl (fun Sx56_ px59_ => ?_) (fun u_ Sx56_ px59_ => ?_)
                · obtain ⟨hIx57_, hFx58_, px59_⟩ := px59_
                  refine Or.inr ⟨_, rfl, hIx57_, ai_fr_tr hFx41_ (fr_le hFx58_ rfl), ?_⟩
                  refine ⟨(14, pl0_), ?_, px59_.1, px59_.2.trans hp9_⟩
                  first | (rw [y8_, ar_s, pb_r a5_, if_neg w9_, if_pos (by omega), if_pos (by omega)]) | (rw [y8_, ar_s, pb_r a5_, if_neg (by rintro ⟨z1_, z2_⟩; omega), if_pos (by omega), if_pos (by unfold p_a2; rw [if_pos (by omega)])])
                · exact (px59_.2.2.2).elim
          · have cx36_ : ¬ (vx33_ = (Sx28_.2.2.1 80 0 (40 * m_ + i_).toNat)) := of_decide_eq_false cx36_
            refine sm_T_go 4 (c1 := (97, [some (.inr (.inr (some (7, 0)))), some (.inl m_), some (.inl s_), some (.inl pl_), some (.inl i_), some (.inl more), some (.inl tm_), some (.inl g_), some (.inl (S_.1 10 0 3)), some (.inl vx33_)], [.inl (S_.1 10 0 3), .inl 13, .inr (.inr (some (10, 0)))], Sx28_)) rfl ?_
            refine sm_T_calx (d1 := 0) (Q1 := vq_187 13 (S_.1 10 0 3) Sx28_) (Q2 := vx_187 13 (S_.1 10 0 3) Sx28_) rfl rfl (by decide) (vc_187 13 (S_.1 10 0 3) Sx28_ hIx29_ (by decide) (by omega)) rfl (fun Sx61_ px64_ => ?_) (fun u_ Sx61_ px64_ => ?_)
            · obtain ⟨hIx62_, hFx63_, px64_⟩ := px64_
              refine Or.inr ⟨_, rfl, hIx62_, ai_fr_tr hFx32_ (fr_le hFx63_ rfl), ?_⟩
              refine ⟨(13, q_), ?_, px64_.1, px64_.2.trans st1_⟩
              rw [y8_, ar_s, pb_r a5_, if_pos ⟨by omega, by rw [t5_, ← wd9_ (by omega)]; assumption⟩]
            · exact (px64_.2.2.2).elim
        · have cx34_ : ¬ (i_ ≠ (-1)) := of_decide_eq_false cx34_
          have bx66_ : (-128) ≤ Sx28_.1 10 0 2 ∧ Sx28_.1 10 0 2 ≤ 257 := hIx29_.1 10 0 2 rfl
          refine sm_T_go 7 (c1 := (129, [some (.inr (.inr (some (7, 0)))), some (.inl m_), some (.inl s_), some (.inl pl_), some (.inl i_), some (.inl more), some (.inl 1), some (.inl g_), some (.inl (S_.1 10 0 3)), some (.inl vx33_)], [.inl 44, .inl (Sx28_.1 10 0 2)], Sx28_)) rfl ?_
          refine sm_T_br (a := 1) (z := 7) rfl (fun cx67_ => ?_) (fun cx67_ => ?_)
          · have cx67_ : (Sx28_.1 10 0 2) ≠ 44 := of_decide_eq_true cx67_
            refine sm_T_go 4 (c1 := (167, [some (.inr (.inr (some (7, 0)))), some (.inl m_), some (.inl s_), some (.inl pl_), some (.inl i_), some (.inl 0), some (.inl 1), some (.inl g_), some (.inl (S_.1 10 0 3)), some (.inl vx33_)], [], Sx28_)) rfl ?_
            refine sm_T_inc (a := 7) (z := 1) (v := g_) (w := g_ + 1) rfl rfl (by omega) (by omega) (by omega) ?_
            refine sm_T_go 1 (c1 := (33, [some (.inr (.inr (some (7, 0)))), some (.inl m_), some (.inl s_), some (.inl pl_), some (.inl i_), some (.inl 0), some (.inl 1), some (.inl (g_ + 1)), some (.inl (S_.1 10 0 3)), some (.inl vx33_)], [], Sx28_)) rfl ?_
            refine sm_T_wk [some (.inr (.inr (some (7, 0)))), some (.inl m_), some (.inl s_), some (.inl pl_), some (.inl i_), some (.inl 0), some (.inl 1), some (.inl (g_ + 1)), none, none] (by exact ⟨rfl, rfl, rfl, rfl, rfl, rfl, rfl, rfl, trivial⟩) ?_
            refine ih_ i_ 0 1 (g_ + 1) Sx28_ hIx29_ hFx32_ ⟨?_, ?_, trivial⟩ ?_
            · first | omega | (have := k7_.2.1; omega)
            · first | (left; refine ⟨rfl, tm0_, f1_, _, (lx_nx b_ n_ x5_.1), c7_, d7_, by omega, by rw [e115_]; exact ni1_, by show x5_.2.2.length + 1 ≤ 3 * (lx_nx b_ n_ x5_.1); omega, by omega, ?_⟩; rw [y8_, ar_s, pb_r a5_, if_neg w9_, if_pos (by omega), if_neg (by omega), pb_r a7_, pa2_, pa1_]) | (right; refine ⟨rfl, Or.inl tm0_, _, x5_.1, decide (i_ = -1 ∨ p_a2 A_ mm_ i_ ≠ -1), c6_, d6_, by omega, by rw [e115_]; exact ni1_, by show x5_.2.2.length + 1 ≤ 3 * x5_.1 + 1; omega, ?_, ?_⟩; (rw [y8_, ar_s, pb_r a5_, if_neg w9_, if_neg (by omega), pa1_]); (rw [decide_eq_true_iff, pa2_]; omega)) | (right; refine ⟨rfl, Or.inr rfl, x5_.2.2, x5_.1, true, c5_, d5_, by omega, Or.inl (by omega), by omega, ?_, by constructor; (intro _; left; rfl); (intro _; rfl)⟩; rw [y8_, ar_s, pb_r a5_, if_neg (by rintro ⟨z1_, z2_⟩; omega), if_neg (by omega), show p_a1 A_ mm_ s0_ i_ x5_.2.2 = x5_.2.2 from if_pos (by omega), show decide (i_ = -1 ∨ p_a2 A_ mm_ i_ ≠ -1) = true from decide_eq_true (Or.inl (by omega))])
            · first | omega | (have := k7_.2.1; omega)
          · have cx67_ : ¬ ((Sx28_.1 10 0 2) ≠ 44) := of_decide_eq_false cx67_
            refine sm_T_go 7 (c1 := (147, [some (.inr (.inr (some (7, 0)))), some (.inl m_), some (.inl s_), some (.inl pl_), some (.inl i_), some (.inl 1), some (.inl 1), some (.inl g_), some (.inl (S_.1 10 0 3)), some (.inl vx33_)], [.inl (-1), .inl i_], Sx28_)) rfl ?_
            refine sm_T_br (a := 1) (z := 13) rfl (fun cx68_ => ?_) (fun cx68_ => ?_)
            · have cx68_ : i_ ≠ (-1) := of_decide_eq_true cx68_
              exfalso; omega
            · have cx68_ : ¬ (i_ ≠ (-1)) := of_decide_eq_false cx68_
              refine sm_T_go 4 (c1 := (157, [some (.inr (.inr (some (7, 0)))), some (.inl m_), some (.inl s_), some (.inl pl_), some (.inl i_), some (.inl 1), some (.inl 1), some (.inl g_), some (.inl (S_.1 10 0 3)), some (.inl vx33_)], [.inl pl_, .inl 14, .inr (.inr (some (10, 0)))], Sx28_)) rfl ?_
              refine sm_T_calx (d1 := 0) (Q1 := vq_187 14 pl_ Sx28_) (Q2 := vx_187 14 pl_ Sx28_) rfl rfl (by decide) (vc_187 14 pl_ Sx28_ hIx29_ (by decide) (by omega)) rfl (fun Sx69_ px72_ => ?_) (fun u_ Sx69_ px72_ => ?_)
              · obtain ⟨hIx70_, hFx71_, px72_⟩ := px72_
                refine Or.inr ⟨_, rfl, hIx70_, ai_fr_tr hFx32_ (fr_le hFx71_ rfl), ?_⟩
                refine ⟨(14, pl0_), ?_, px72_.1, px72_.2.trans hp9_⟩
                first | (rw [y8_, ar_s, pb_r a5_, if_neg w9_, if_pos (by omega), if_pos (by omega)]) | (rw [y8_, ar_s, pb_r a5_, if_neg (by rintro ⟨z1_, z2_⟩; omega), if_pos (by omega), if_pos (by unfold p_a2; rw [if_pos (by omega)])])
              · exact (px72_.2.2.2).elim
set_option maxHeartbeats 400000 in
set_option maxRecDepth 20000 in
theorem vc_129 {sc_ : Nat × (Nat → Int)} (m_ : Int) (s_ : Int) (pl_ : Int) (b_ : Nat → Int) (n_ : Nat) (A_ : pA) (N_ : Nat → Nat) (M_ : Nat) (c_ : List Int) (p_ : Nat) (mm_ : Nat) (s0_ : Nat) (pl0_ : Nat) (S0_ : sm_S) (hI_ : gi S0_) (hc_ : ct b_ n_ p_ S0_) (hd_ : dr b_ n_ A_ N_ M_ c_ S0_) (hl_ : c_.length ≤ 3 * p_) (hm9_ : m_ = (mm_ : Int)) (hmM_ : mm_ < M_) (hs9_ : s_ = (s0_ : Int)) (hs8_ : s0_ < 40) (hp9_ : pl_ = (pl0_ : Int)) (hp8_ : pl0_ ≤ 1280) : sm_T (mt_P sc_) 5 129 (0, [some (.inr (.inr (some (7, 0)))), some (.inl m_), some (.inl s_), some (.inl pl_), none, none, none, none, none, none], [], S0_) (fun r_ => (∃ u_ S1_, r_ = (.inl u_, S1_, 0) ∧ vq_129 m_ s_ pl_ b_ n_ A_ N_ M_ c_ p_ mm_ s0_ pl0_ S0_ u_ S1_) ∨ ∃ S1_, r_ = (.inr 2, S1_, 1) ∧ vx_129 m_ s_ pl_ b_ n_ A_ N_ M_ c_ p_ mm_ s0_ pl0_ S0_ S1_) := by
  have hF_ : ai_fr (sx_W vw_129) S0_ S0_ := ai_fr_rf
  have st0_ := hc_.2.2.2.2.2.1
  have kd0_ := hc_.2.2.2.2.2.2.2.1
  have hp0_ := hc_.2.2.2.1
  have hn1_ := hc_.2.2.1
  have hM9_ := hd_.1.2.1.1
  have cst_ : 0 ≤ S0_.1 10 0 3 ∧ S0_.1 10 0 3 ≤ 1280 := hI_.1 10 0 3 rfl
  refine sm_T_go 3 (c1 := (3, [some (.inr (.inr (some (7, 0)))), some (.inl m_), some (.inl s_), some (.inl pl_), none, none, none, none, none, none], [.inl 0, .inl m_, .inr (.inr (some (7, 0)))], S0_)) rfl ?_
  refine sm_T_cal (d1 := 0) (Q1 := vq_130 m_ 0 b_ n_ A_ M_ mm_ 0 S0_) rfl rfl (by decide) (vc_130 m_ 0 b_ n_ A_ M_ mm_ 0 S0_ hI_ (by exact hd_.1) (by exact ⟨hm9_, by omega⟩) (by rfl) (by exact Nat.zero_le _)) (fun u_ Sx1_ px4_ => ?_)
  obtain ⟨rfl, vx6_, rfl, px4_⟩ := px4_
  have e3_ : vx6_ = p_ni A_ mm_ 0 := px4_
  have ni0_ := p_ni_c (A_ := A_) (m_ := mm_) (k_ := 0)
  have bx7_ : (-128) ≤ S0_.1 10 0 2 ∧ S0_.1 10 0 2 ≤ 257 := hI_.1 10 0 2 rfl
  refine sm_T_go 5 (c1 := (17, [some (.inr (.inr (some (7, 0)))), some (.inl m_), some (.inl s_), some (.inl pl_), some (.inl vx6_), none, none, none, none, none], [.inl 41, .inl (S0_.1 10 0 2)], S0_)) rfl ?_
  refine sm_T_br (a := 0) (z := 7) rfl (fun cx8_ => ?_) (fun cx8_ => ?_)
  · have cx8_ : (S0_.1 10 0 2) = 41 := of_decide_eq_true cx8_
    refine sm_T_go 6 (c1 := (33, [some (.inr (.inr (some (7, 0)))), some (.inl m_), some (.inl s_), some (.inl pl_), some (.inl vx6_), some (.inl 0), some (.inl 0), some (.inl 0), none, none], [], S0_)) rfl ?_
    refine (vl_129 m_ s_ pl_ b_ n_ A_ N_ M_ c_ p_ mm_ s0_ pl0_ S0_ hc_ hd_ hl_ hm9_ hmM_ hs9_ hs8_ hp9_ hp8_ _) vx6_ 0 0 0 S0_ hI_ hF_ ⟨?_, ?_, trivial⟩ (Nat.lt_succ_self _)
    · omega
    · first | (right; refine ⟨rfl, Or.inl rfl, c_, p_, decide (p_ni A_ mm_ 0 ≠ -1), hc_, hd_, Nat.le_refl _, by rw [e3_]; exact ni0_, by omega, ?_, ?_⟩; (unfold p_ua; rw [if_pos (by omega)]); (rw [decide_eq_true_iff, e3_]; omega)) | (left; refine ⟨rfl, rfl, n_ + 1, c_, p_, hc_, hd_, Nat.le_refl _, by rw [e3_]; exact ni0_, hl_, by omega, ?_⟩; unfold p_ua; rw [if_neg (by omega), e3_])
  · have cx8_ : ¬ ((S0_.1 10 0 2) = 41) := of_decide_eq_false cx8_
    refine sm_T_go 7 (c1 := (33, [some (.inr (.inr (some (7, 0)))), some (.inl m_), some (.inl s_), some (.inl pl_), some (.inl vx6_), some (.inl 1), some (.inl 0), some (.inl 0), none, none], [], S0_)) rfl ?_
    refine (vl_129 m_ s_ pl_ b_ n_ A_ N_ M_ c_ p_ mm_ s0_ pl0_ S0_ hc_ hd_ hl_ hm9_ hmM_ hs9_ hs8_ hp9_ hp8_ _) vx6_ 1 0 0 S0_ hI_ hF_ ⟨?_, ?_, trivial⟩ (Nat.lt_succ_self _)
    · omega
    · first | (right; refine ⟨rfl, Or.inl rfl, c_, p_, decide (p_ni A_ mm_ 0 ≠ -1), hc_, hd_, Nat.le_refl _, by rw [e3_]; exact ni0_, by omega, ?_, ?_⟩; (unfold p_ua; rw [if_pos (by omega)]); (rw [decide_eq_true_iff, e3_]; omega)) | (left; refine ⟨rfl, rfl, n_ + 1, c_, p_, hc_, hd_, Nat.le_refl _, by rw [e3_]; exact ni0_, hl_, by omega, ?_⟩; unfold p_ua; rw [if_neg (by omega), e3_])
