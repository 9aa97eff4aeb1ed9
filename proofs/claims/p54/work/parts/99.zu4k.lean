/-! play and restart; written by wip/ids/lawgen.py -/
/-- both sides, without the graphs -/
def jD (n_ : Nat) (S_ : sm_S) : Prop := gi S_ ∧ jC S_ ∧ jR S_ ∧ S_.2.2.1 98 0 = S_.2.2.1 118 0 ∧ S_.1 10 0 1 = S_.1 13 0 2 ∧ ((0 ≤ S_.1 10 0 1 ∧ S_.1 10 0 1 ≤ 20 * (n_ : Int)) ∧ jK n_ S_) ∧ (∀ j_ : Nat, j_ < 6 → S_.1 3 j_ 0 = S_.2.2.1 153 0 j_) ∧ ∀ j_ : Nat, j_ < 3 → S_.1 5 j_ 0 = S_.2.2.1 183 0 j_
theorem jD_c {n_ : Nat} {w_ : sx_Wl} {S_ S'_ : sm_S} (h_ : jD n_ S_) (q_ : lhq w_ S_ S'_) (b1_ : (sx_W (wo9 w_)).1 10 1 = false := by rfl) (b2_ : (sx_W (wo9 w_)).1 13 2 = false := by rfl) (b3_ : (sx_W (wo9 w_)).1 3 0 = false := by rfl) (b4_ : (sx_W (wo9 w_)).1 5 0 = false := by rfl) (c1_ : (sx_W (wo9 w_)).2.1 98 = false := by rfl) (c2_ : (sx_W (wo9 w_)).2.1 118 = false := by rfl) (c3_ : (sx_W (wo9 w_)).2.1 153 = false := by rfl) (c4_ : (sx_W (wo9 w_)).2.1 183 = false := by rfl) (d1_ : dwf (wo9 w_) = true := by rfl) (d2_ : rwf (wo9 w_) = true := by rfl) (k9_ : jkw (wo9 w_) = true := by rfl) (k8_ : (sx_W (wo9 w_)).1 2 0 = false := by rfl) (k7_ : (sx_W (wo9 w_)).2.1 222 = false := by rfl) : jD n_ S'_ := by
  obtain ⟨a1_, a2_, a3_, a4_, a5_, a6_, a7_, a8_⟩ := h_
  obtain ⟨i_, f_, j_⟩ := q_
  refine ⟨i_, j_, jR_fr a3_ i_ f_ d1_ d2_, ?_, ?_, ?_, fun k_ hk_ => ?_, fun k_ hk_ => ?_⟩
  · rw [fr_arr f_ c1_, fr_arr f_ c2_]; exact a4_
  · rw [f_.1 10 0 1 b1_, f_.1 13 0 2 b2_]; exact a5_
  · rw [f_.1 10 0 1 b1_]; exact ⟨a6_.1, jK_fr a6_.2 f_ k9_ k8_ k7_⟩
  · rw [f_.1 3 k_ 0 b3_, fr_arr f_ c3_]; exact a7_ k_ hk_
  · rw [f_.1 5 k_ 0 b4_, fr_arr f_ c4_]; exact a8_ k_ hk_
/-- a call of the reference that leaves them -/
theorem jD_r {n_ : Nat} {w_ : sx_Wl} {S_ S'_ : sm_S} (h_ : jD n_ S_) (i_ : gi S'_) (f_ : ai_fr (sx_W w_) S_ S'_) (j_ : jR S'_) (b1_ : (sx_W w_).1 10 1 = false := by rfl) (b2_ : (sx_W w_).1 13 2 = false := by rfl) (b3_ : (sx_W w_).1 3 0 = false := by rfl) (b4_ : (sx_W w_).1 5 0 = false := by rfl) (c1_ : (sx_W w_).2.1 98 = false := by rfl) (c2_ : (sx_W w_).2.1 118 = false := by rfl) (c3_ : (sx_W w_).2.1 153 = false := by rfl) (c4_ : (sx_W w_).2.1 183 = false := by rfl) (d1_ : ∀ k_, k_ < 7 → (sx_W w_).1 3 k_ = false := by decide) (d2_ : ∀ t_, t_ < 48 → 42 ≤ t_ → (sx_W w_).2.1 t_ = false := by decide) (h2_ : ∀ k_, k_ < 9 → (sx_W w_).1 2 k_ = false := by decide) (h0_ : ∀ k_, k_ < 12 → (sx_W w_).1 0 k_ = false := by decide) (ha_ : ∀ t_, t_ < 24 → 14 ≤ t_ → t_ ≠ 21 → (sx_W w_).2.1 t_ = false := by decide) (hb_ : (sx_W w_).2.1 34 = false := by rfl) (t1_ : (sx_W w_).1 11 5 = false := by rfl) (t2_ : (sx_W w_).2.1 102 = false := by rfl) (t3_ : (sx_W w_).2.1 104 = false := by rfl) (t4_ : (sx_W w_).2.1 105 = false := by rfl) (t5_ : (sx_W w_).2.1 95 = false := by rfl) (k9_ : jkw w_ = true := by rfl) (k8_ : (sx_W w_).1 2 0 = false := by rfl) (k7_ : (sx_W w_).2.1 222 = false := by rfl) : jD n_ S'_ := by
  obtain ⟨a1_, a2_, a3_, a4_, a5_, a6_, a7_, a8_⟩ := h_
  refine ⟨i_, jC_fr a2_ f_ d1_ d2_ h2_ h0_ ha_ hb_ t1_ t2_ t3_ t4_ t5_, j_, ?_, ?_, ?_, fun k_ hk_ => ?_, fun k_ hk_ => ?_⟩
  · rw [fr_arr f_ c1_, fr_arr f_ c2_]; exact a4_
  · rw [f_.1 10 0 1 b1_, f_.1 13 0 2 b2_]; exact a5_
  · rw [f_.1 10 0 1 b1_]; exact ⟨a6_.1, jK_fr a6_.2 f_ k9_ k8_ k7_⟩
  · rw [f_.1 3 k_ 0 b3_, fr_arr f_ c3_]; exact a7_ k_ hk_
  · rw [f_.1 5 k_ 0 b4_, fr_arr f_ c4_]; exact a8_ k_ hk_
theorem jB_D {n_ : Nat} {S_ : sm_S} (h_ : jB n_ S_) : jD n_ S_ := ⟨h_.1, h_.2.1, h_.2.2.1, h_.2.2.2.1, h_.2.2.2.2.1, h_.2.2.2.2.2.1, h_.2.2.2.2.2.2.1, h_.2.2.2.2.2.2.2.1⟩
theorem jD_B {n_ : Nat} {S_ : sm_S} (h_ : jD n_ S_) (g_ : jG S_) : jB n_ S_ := ⟨h_.1, h_.2.1, h_.2.2.1, h_.2.2.2.1, h_.2.2.2.2.1, h_.2.2.2.2.2.1, h_.2.2.2.2.2.2.1, h_.2.2.2.2.2.2.2, g_⟩
theorem jG_pl {w1_ w2_ : sx_Wl} {S_ S1_ S2_ : sm_S} (h_ : jG S_) (f_ : ai_fr (sx_W w1_) S_ S1_) (g_ : ai_fr (sx_W w2_) S1_ S2_) (c_ : ∀ d_ : Nat, d_ < 6 → S_.1 3 d_ 0 = 1 → S2_.1 3 d_ 6 = S2_.2.2.1 158 0 d_) (z1_ : jgz w1_ = true) (z2_ : jgz w2_ = true) (l1_ : lgw w1_ = true) (l2_ : lgw w2_ = true) (u1_ : (sx_W w1_).1 3 0 = false) (u2_ : (sx_W w2_).1 3 0 = false) (v1_ : (sx_W w1_).1 5 0 = false) (v2_ : (sx_W w2_).1 5 0 = false) (y1_ : (sx_W w1_).1 12 10 = false) (y2_ : (sx_W w2_).1 12 10 = false) (y3_ : (sx_W w1_).1 13 79 = false) (y4_ : (sx_W w2_).1 13 79 = false) : jG S2_ := by
  refine ⟨?_, fun d_ hd_ q_ => ?_, fun l_ hl_ q_ => ?_⟩
  · rw [g_.1 12 0 10 y2_, f_.1 12 0 10 y1_, g_.1 13 0 79 y4_, f_.1 13 0 79 y3_]
    exact h_.1
  · rw [g_.1 3 d_ 0 u2_, f_.1 3 d_ 0 u1_] at q_
    have e_ := h_.2.1 d_ hd_ q_
    exact ⟨dg0_fr (dg0_fr e_.1 f_ z1_) g_ z2_, dgo_fr (dgo_fr e_.2.1 f_ z1_) g_ z2_, dgw_fr (dgw_fr e_.2.2.1 f_ z1_) g_ z2_, dgq_fr (dgq_fr e_.2.2.2.1 f_ z1_) g_ z2_, c_ d_ hd_ q_⟩
  · rw [g_.1 5 l_ 0 v2_, f_.1 5 l_ 0 v1_] at q_
    exact lge_fr (lge_fr (h_.2.2 l_ hl_ q_) f_ l1_) g_ l2_
theorem lh_546k {sc_ : Nat × (Nat → Int)} (kk_ : Int) (ip_ : Int) (S0_ : sm_S) (hI_ : gi S0_) (hJ_ : jC S0_) : sm_T (mt_P sc_) 3 546 (0, [some (.inr (.inr (some (12, 0)))), some (.inl kk_), some (.inl ip_), some (.inr (.inr (some (295, 0)))), none], [], S0_) (fun r_ => ∃ v_ S1_ k8_, r_ = (.inl (some (.inl v_)), S1_, k8_) ∧ k8_ ≤ 2 ∧ lhq vw_224t S0_ S1_ ∧ ((v_ = 0 ∧ okc_play kk_ ip_ S0_ ∧ S1_.2.2.2 295 0 0 = l_i2l (vac_play kk_ ip_ S0_) ∧ (S1_.1 3 kk_.toNat 6 = nwc_play kk_ ip_ S0_ ∧ ∀ j_, j_ ≠ kk_.toNat → S1_.1 3 j_ 6 = S0_.1 3 j_ 6)) ∨ (v_ = 1 ∧ ¬ oka_play kk_ ip_ S0_ ∧ (∀ j_, S1_.1 3 j_ 6 = S0_.1 3 j_ 6)) ∨ (v_ = 2 ∧ oka_play kk_ ip_ S0_ ∧ ¬ okc_play kk_ ip_ S0_ ∧ (∀ j_, S1_.1 3 j_ 6 = S0_.1 3 j_ 6)))) := by
  refine sm_T_go 5 (c1 := (5, [some (.inr (.inr (some (12, 0)))), some (.inl kk_), some (.inl ip_), some (.inr (.inr (some (295, 0)))), none], [.inl ip_, .inl kk_, .inr (.inr (some (12, 0))), .inl 0, .inr (.inr (some (295, 0)))], S0_)) rfl ?_
  refine sm_T_call rfl rfl (vc_224t kk_ ip_ S0_ hI_ hJ_.1) (fun u_ S1_ k1_ qz9_ => ?_) (fun ex_ S1_ k1_ qz9_ => ?_)
  · rcases qz9_ with ⟨u2_, S2_, ez9_, qz9_⟩ | ⟨ex2_, S2_, ez9_, mz9_, qz9_⟩
    · cases ez9_
      obtain ⟨v_, rfl, iz9_, fz9_, n9_, q1_, q2_, d9_⟩ := qz9_
      have jz9_ := jC_d hJ_ fz9_ d9_ (by decide) (by decide) (by decide) rfl rfl rfl rfl rfl rfl
      refine sm_T_go 4 (c1 := (22, [some (.inr (.inr (some (12, 0)))), some (.inl kk_), some (.inl ip_), some (.inr (.inr (some (295, 0)))), none], [.inl 0], _)) rfl ?_
      exact sm_T_ri rfl ⟨_, _, _, rfl, Nat.le_of_ble_eq_true rfl, lhq_o iz9_ fz9_ jz9_ rfl rfl, Or.inl ⟨rfl, q1_, (rd_ll.trans (if_pos ⟨rfl, rfl, rfl⟩)).trans (congrArg l_i2l q2_), n9_⟩⟩
    · cases ez9_
  · rcases qz9_ with ⟨u2_, S2_, ez9_, qz9_⟩ | ⟨ex2_, S2_, ez9_, mz9_, qz9_⟩
    · cases ez9_
    · cases ez9_
      obtain ⟨iz9_, fz9_, rfl, q1_⟩ := qz9_
      simp only [List.mem_cons, List.not_mem_nil, or_false] at mz9_
      rcases mz9_ with rfl | rfl
      · refine ⟨_, _, _, _, _, rfl, Nat.le_of_ble_eq_true rfl, ?_⟩
        refine sm_T_go 1 (c1 := (_, _, [.inl _], _)) rfl ?_
        exact sm_T_ri rfl ⟨_, _, _, rfl, Nat.le_of_ble_eq_true rfl, lhq_x iz9_ fz9_ hJ_ rfl, Or.inr (Or.inl ⟨rfl, (q1_.resolve_right (fun z_ => absurd z_.1 (by decide))).2, fun _ => rfl⟩)⟩
      · refine ⟨_, _, _, _, _, rfl, Nat.le_of_ble_eq_true rfl, ?_⟩
        refine sm_T_go 1 (c1 := (_, _, [.inl _], _)) rfl ?_
        exact sm_T_ri rfl ⟨_, _, _, rfl, Nat.le_of_ble_eq_true rfl, lhq_x iz9_ fz9_ hJ_ rfl, Or.inr (Or.inr ⟨rfl, (q1_.resolve_left (fun z_ => absurd z_.1 (by decide))).2.1, (q1_.resolve_left (fun z_ => absurd z_.1 (by decide))).2.2, fun _ => rfl⟩)⟩
theorem k_play {n_ : Nat} {a_ b_ v_ w_ : Int} {w2_ : sx_Wl} {S_ S1_ S2_ : sm_S} (J_ : jB n_ S_) (q_ : lhq vw_224t S_ S1_) (E_ : (v_ = 0 ∧ okc_play a_ b_ S_ ∧ S1_.2.2.2 295 0 0 = l_i2l (vac_play a_ b_ S_) ∧ (S1_.1 3 a_.toNat 6 = nwc_play a_ b_ S_ ∧ ∀ j_, j_ ≠ a_.toNat → S1_.1 3 j_ 6 = S_.1 3 j_ 6)) ∨ (v_ = 1 ∧ ¬ oka_play a_ b_ S_ ∧ (∀ j_, S1_.1 3 j_ 6 = S_.1 3 j_ 6)) ∨ (v_ = 2 ∧ oka_play a_ b_ S_ ∧ ¬ okc_play a_ b_ S_ ∧ (∀ j_, S1_.1 3 j_ 6 = S_.1 3 j_ 6))) (f_ : ai_fr (sx_W w2_) S1_ S2_) (g_ : (sx_W w2_).1 3 6 = false) (P_ : (S2_.1 13 0 0 = 1 ∧ ¬ ora_play a_ b_ S1_ ∧ (∀ j_, S2_.2.2.1 158 0 j_ = S1_.2.2.1 158 0 j_)) ∨ (S2_.1 13 0 0 = 2 ∧ ora_play a_ b_ S1_ ∧ ¬ okr_play a_ b_ S1_ ∧ (∀ j_, S2_.2.2.1 158 0 j_ = S1_.2.2.1 158 0 j_)) ∨ (S2_.1 13 0 0 = 0 ∧ okr_play a_ b_ S1_ ∧ w_ = var_play a_ b_ S1_ ∧ (S2_.2.2.1 158 0 a_.toNat = nwr_play a_ b_ S1_ ∧ ∀ j_, j_ ≠ a_.toNat → S2_.2.2.1 158 0 j_ = S1_.2.2.1 158 0 j_))) : S2_.1 13 0 0 = v_ ∧ (v_ = 0 → S1_.2.2.2 295 0 0 = l_i2l w_) ∧ ∀ d_ : Nat, d_ < 6 → S_.1 3 d_ 0 = 1 → S2_.1 3 d_ 6 = S2_.2.2.1 158 0 d_ := by
  have a7_ := J_.2.2.2.2.2.2.1
  have G_ := J_.2.2.2.2.2.2.2.2.2.1
  have b3_ : S1_.2.2.1 153 0 = S_.2.2.1 153 0 := fr_arr q_.2.1 rfl
  have b4_ : S1_.2.2.1 154 0 = S_.2.2.1 154 0 := fr_arr q_.2.1 rfl
  have b8_ : S1_.2.2.1 158 0 = S_.2.2.1 158 0 := fr_arr q_.2.1 rfl
  have b9_ : S1_.2.2.1 169 0 = S_.2.2.1 169 0 := fr_arr q_.2.1 rfl
  have b10_ : S1_.2.2.1 170 0 = S_.2.2.1 170 0 := fr_arr q_.2.1 rfl
  have x6_ : ∀ d_, S2_.1 3 d_ 6 = S1_.1 3 d_ 6 := fun d_ => f_.1 3 d_ 6 g_
  have sm_ : (∀ j_, S1_.1 3 j_ 6 = S_.1 3 j_ 6) → (∀ j_, S2_.2.2.1 158 0 j_ = S1_.2.2.1 158 0 j_) → ∀ d_ : Nat, d_ < 6 → S_.1 3 d_ 0 = 1 → S2_.1 3 d_ 6 = S2_.2.2.1 158 0 d_ := fun e1_ e2_ d_ hd_ u_ => by
    rw [x6_, e1_, e2_, b8_]
    exact (G_ d_ hd_ u_).2.2.2.2
  by_cases h_ : oka_play a_ b_ S_
  · obtain ⟨h1_, h2_, h3_⟩ := id h_
    obtain ⟨⟨⟨d1_, d2_, d3_, d4_, d5_⟩, d6_⟩, do_, dw_, ⟨qb_, qt_⟩, cu_⟩ := G_ a_.toNat (by omega) h3_
    have cu_ : S_.1 3 a_.toNat 6 = S_.2.2.1 158 0 a_.toNat := cu_
    have or_ : ora_play a_ b_ S1_ := ⟨h1_, h2_, by rw [b3_, ← a7_ a_.toNat (by omega)]; exact h3_⟩
    have kr_ : okc_play a_ b_ S_ ↔ okr_play a_ b_ S1_ := by
      unfold okc_play okr_play
      rw [b4_, ← d1_]
      exact ⟨fun z_ => ⟨or_, z_.2⟩, fun z_ => ⟨h_, z_.2⟩⟩
    rcases E_ with ⟨e1_, e2_, e3_, e4_, e5_⟩ | ⟨e1_, e2_, e3_⟩ | ⟨e1_, e2_, e3_, e4_⟩
    · rcases P_ with ⟨p1_, p2_, p3_⟩ | ⟨p1_, p2_, p3_, p4_⟩ | ⟨p1_, p2_, p3_, p4_, p5_⟩
      · exact absurd or_ p2_
      · exact absurd (kr_.mp e2_) p3_
      · have J9_ := dOk_b (J_.2.1.1 a_.toNat (by omega) h3_)
        have c9_ := J9_.2.2.2.1
        have i9_ := e2_.2
        have t9_ := pat_c (s_ := S_.1 3 a_.toNat 6) (i_ := b_) (R_ := (S_.1 3 a_.toNat 2).toNat) (I_ := (S_.1 3 a_.toNat 1).toNat) (by omega) (by omega) (by omega)
        rw [show (((S_.1 3 a_.toNat 1).toNat : Nat) : Int) = S_.1 3 a_.toNat 1 by omega] at t9_
        have px_ : pri a_ b_ S1_ = 4096 * a_.toNat + pxi a_ b_ S_ := by
          unfold pri pxi
          rw [b8_, b4_, ← cu_, ← d1_]
          omega
        have lt_ : (pxi a_ b_ S_ : Int) < 2 ^ (S_.1 3 a_.toNat 1 + S_.1 3 a_.toNat 2).toNat := by
          unfold pxi
          rw [show (S_.1 3 a_.toNat 1 + S_.1 3 a_.toNat 2).toNat = (S_.1 3 a_.toNat 2).toNat + (S_.1 3 a_.toNat 1).toNat by omega]
          omega
        obtain ⟨u1_, u2_⟩ := qt_ _ lt_
        refine ⟨p1_.trans e1_.symm, fun _ => ?_, fun d_ hd_ u_ => ?_⟩
        · rw [e3_, p3_]
          unfold vac_play var_play
          rw [px_, b9_, u1_]
        · rw [x6_]
          by_cases z_ : d_ = a_.toNat
          · rw [z_, e4_, p4_]
            unfold nwc_play nwr_play
            rw [px_, b10_]
            exact u2_
          · rw [e5_ d_ z_, p5_ d_ z_, b8_]
            exact (G_ d_ hd_ u_).2.2.2.2
    · exact absurd h_ e2_
    · rcases P_ with ⟨p1_, p2_, p3_⟩ | ⟨p1_, p2_, p3_, p4_⟩ | ⟨p1_, p2_, p3_, p4_⟩
      · exact absurd or_ p2_
      · exact ⟨p1_.trans e1_.symm, fun z_ => absurd (e1_.symm.trans z_) (by decide), sm_ e4_ p4_⟩
      · exact absurd (kr_.mpr p2_) e3_
  · have nr_ : ¬ ora_play a_ b_ S1_ := fun z_ => h_ ⟨z_.1, z_.2.1, by
      have y_ := z_.2.2
      rw [b3_] at y_
      exact (a7_ a_.toNat (by have x1_ := z_.1; have x2_ := z_.2.1; omega)).trans y_⟩
    rcases E_ with ⟨e1_, e2_, -⟩ | ⟨e1_, e2_, e3_⟩ | ⟨e1_, e2_, -⟩
    · exact absurd e2_.1 h_
    · rcases P_ with ⟨p1_, p2_, p3_⟩ | ⟨p1_, p2_, -⟩ | ⟨p1_, p2_, -⟩
      · exact ⟨p1_.trans e1_.symm, fun z_ => absurd (e1_.symm.trans z_) (by decide), sm_ e3_ p3_⟩
      · exact absurd p2_ nr_
      · exact absurd p2_.1 nr_
    · exact absurd e2_ h_
theorem lh_548k {sc_ : Nat × (Nat → Int)} (kk_ : Int) (S0_ : sm_S) (hI_ : gi S0_) (hJ_ : jC S0_) : sm_T (mt_P sc_) 3 548 (0, [some (.inr (.inr (some (12, 0)))), some (.inl kk_), some (.inr (.inr (some (295, 0)))), none], [], S0_) (fun r_ => ∃ v_ S1_ k8_, r_ = (.inl (some (.inl v_)), S1_, k8_) ∧ k8_ ≤ 2 ∧ lhq vw_226t S0_ S1_ ∧ ((v_ = 0 ∧ okc_restart kk_ S0_ ∧ S1_.2.2.2 295 0 0 = l_i2l (vac_restart kk_ S0_) ∧ (S1_.1 3 kk_.toNat 6 = nwc_restart kk_ S0_ ∧ ∀ j_, j_ ≠ kk_.toNat → S1_.1 3 j_ 6 = S0_.1 3 j_ 6)) ∨ (v_ = 1 ∧ ¬ okc_restart kk_ S0_ ∧ (∀ j_, S1_.1 3 j_ 6 = S0_.1 3 j_ 6)))) := by
  refine sm_T_go 4 (c1 := (4, [some (.inr (.inr (some (12, 0)))), some (.inl kk_), some (.inr (.inr (some (295, 0)))), none], [.inl kk_, .inr (.inr (some (12, 0))), .inl 0, .inr (.inr (some (295, 0)))], S0_)) rfl ?_
  refine sm_T_call rfl rfl (vc_226t kk_ S0_ hI_ hJ_.1) (fun u_ S1_ k1_ qz9_ => ?_) (fun ex_ S1_ k1_ qz9_ => ?_)
  · rcases qz9_ with ⟨u2_, S2_, ez9_, qz9_⟩ | ⟨ex2_, S2_, ez9_, mz9_, qz9_⟩
    · cases ez9_
      obtain ⟨v_, rfl, iz9_, fz9_, n9_, q1_, q2_, d9_⟩ := qz9_
      have jz9_ := jC_d hJ_ fz9_ d9_ (by decide) (by decide) (by decide) rfl rfl rfl rfl rfl rfl
      refine sm_T_go 4 (c1 := (16, [some (.inr (.inr (some (12, 0)))), some (.inl kk_), some (.inr (.inr (some (295, 0)))), none], [.inl 0], _)) rfl ?_
      exact sm_T_ri rfl ⟨_, _, _, rfl, Nat.le_of_ble_eq_true rfl, lhq_o iz9_ fz9_ jz9_ rfl rfl, Or.inl ⟨rfl, q1_, (rd_ll.trans (if_pos ⟨rfl, rfl, rfl⟩)).trans (congrArg l_i2l q2_), n9_⟩⟩
    · cases ez9_
  · rcases qz9_ with ⟨u2_, S2_, ez9_, qz9_⟩ | ⟨ex2_, S2_, ez9_, mz9_, qz9_⟩
    · cases ez9_
    · cases ez9_
      obtain ⟨iz9_, fz9_, rfl, q1_⟩ := qz9_
      simp only [List.mem_cons, List.not_mem_nil, or_false] at mz9_
      subst mz9_
      refine ⟨_, _, _, _, _, rfl, Nat.le_of_ble_eq_true rfl, ?_⟩
      refine sm_T_go 1 (c1 := (_, _, [.inl _], _)) rfl ?_
      exact sm_T_ri rfl ⟨_, _, _, rfl, Nat.le_of_ble_eq_true rfl, lhq_x iz9_ fz9_ hJ_ rfl, Or.inr ⟨rfl, q1_, fun _ => rfl⟩⟩
theorem k_restart {n_ : Nat} {a_ v_ w_ : Int} {w2_ : sx_Wl} {S_ S1_ S2_ : sm_S} (J_ : jB n_ S_) (q_ : lhq vw_226t S_ S1_) (E_ : (v_ = 0 ∧ okc_restart a_ S_ ∧ S1_.2.2.2 295 0 0 = l_i2l (vac_restart a_ S_) ∧ (S1_.1 3 a_.toNat 6 = nwc_restart a_ S_ ∧ ∀ j_, j_ ≠ a_.toNat → S1_.1 3 j_ 6 = S_.1 3 j_ 6)) ∨ (v_ = 1 ∧ ¬ okc_restart a_ S_ ∧ (∀ j_, S1_.1 3 j_ 6 = S_.1 3 j_ 6))) (f_ : ai_fr (sx_W w2_) S1_ S2_) (g_ : (sx_W w2_).1 3 6 = false) (P_ : (S2_.1 13 0 0 = 1 ∧ ¬ okr_restart a_ S1_ ∧ (∀ j_, S2_.2.2.1 158 0 j_ = S1_.2.2.1 158 0 j_)) ∨ (S2_.1 13 0 0 = 0 ∧ okr_restart a_ S1_ ∧ w_ = var_restart a_ S1_ ∧ (S2_.2.2.1 158 0 a_.toNat = nwr_restart a_ S1_ ∧ ∀ j_, j_ ≠ a_.toNat → S2_.2.2.1 158 0 j_ = S1_.2.2.1 158 0 j_))) : S2_.1 13 0 0 = v_ ∧ (v_ = 0 → S1_.2.2.2 295 0 0 = l_i2l w_) ∧ ∀ d_ : Nat, d_ < 6 → S_.1 3 d_ 0 = 1 → S2_.1 3 d_ 6 = S2_.2.2.1 158 0 d_ := by
  have a7_ := J_.2.2.2.2.2.2.1
  have G_ := J_.2.2.2.2.2.2.2.2.2.1
  have b3_ : S1_.2.2.1 153 0 = S_.2.2.1 153 0 := fr_arr q_.2.1 rfl
  have b7_ : S1_.2.2.1 157 0 = S_.2.2.1 157 0 := fr_arr q_.2.1 rfl
  have b8_ : S1_.2.2.1 158 0 = S_.2.2.1 158 0 := fr_arr q_.2.1 rfl
  have x6_ : ∀ d_, S2_.1 3 d_ 6 = S1_.1 3 d_ 6 := fun d_ => f_.1 3 d_ 6 g_
  have iff_ : okc_restart a_ S_ ↔ okr_restart a_ S1_ := by
    unfold okc_restart okr_restart
    rw [b3_]
    constructor
    · rintro ⟨h1_, h2_, h3_⟩
      exact ⟨h1_, h2_, by rw [← a7_ a_.toNat (by omega)]; exact h3_⟩
    · rintro ⟨h1_, h2_, h3_⟩
      exact ⟨h1_, h2_, (a7_ a_.toNat (by omega)).trans h3_⟩
  rcases E_ with ⟨e1_, e2_, e3_, e4_, e5_⟩ | ⟨e1_, e2_, e3_⟩
  · rcases P_ with ⟨p1_, p2_, p3_⟩ | ⟨p1_, p2_, p3_, p4_, p5_⟩
    · exact absurd (iff_.mp e2_) p2_
    · obtain ⟨h1_, h2_, h3_⟩ := id e2_
      have ge_ := G_ a_.toNat (by omega) h3_
      have cu_ : S_.1 3 a_.toNat 6 = S_.2.2.1 158 0 a_.toNat := ge_.2.2.2.2
      refine ⟨p1_.trans e1_.symm, fun _ => ?_, fun d_ hd_ u_ => ?_⟩
      · rw [e3_, p3_]
        unfold vac_restart var_restart
        rw [b8_, cu_]
      · rw [x6_]
        by_cases z_ : d_ = a_.toNat
        · rw [z_, e4_, p4_]
          unfold nwc_restart nwr_restart
          rw [b7_]
          exact ge_.2.1.2.1
        · rw [e5_ d_ z_, p5_ d_ z_, b8_]
          exact (G_ d_ hd_ u_).2.2.2.2
  · rcases P_ with ⟨p1_, p2_, p3_⟩ | ⟨p1_, p2_, -⟩
    · refine ⟨p1_.trans e1_.symm, fun z_ => absurd (e1_.symm.trans z_) (by decide), fun d_ hd_ u_ => ?_⟩
      rw [x6_, e3_, p3_, b8_]
      exact (G_ d_ hd_ u_).2.2.2.2
    · exact absurd (iff_.mpr p2_) e2_
