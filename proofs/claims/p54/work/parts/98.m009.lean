/-! 99.zb4b -/
section
/-! Builder.operate -/
def vw_39 : sx_Wl := ([(1, 6), (1, 8), (3, 4)], [27, 28, 29, 42, 43], [])
def vq_39 (k_ : Int) (dd_ : Nat) (F_ : Nat) (G_ : pGr) (V_ : gV) (r_ : pGr × gV) (S0_ : sm_S) (u_ : Option sm_V) (S1_ : sm_S) : Prop := u_ = none ∧ gi S1_ ∧ ai_fr (sx_W vw_39) S0_ S1_ ∧ (idf dd_ S0_ S1_ ∧ (cgl dd_ F_ r_.1 S1_ ∧ cstk r_.1 r_.2 S1_))
set_option maxHeartbeats 2500000 in
set_option maxRecDepth 20000 in
theorem vl_39 {sc_ : Nat × (Nat → Int)} (k_ : Int) (dd_ : Nat) (F_ : Nat) (G_ : pGr) (V_ : gV) (r_ : pGr × gV) (S0_ : sm_S) (hI0_ : gi S0_) (hd_ : S0_.2.1 1 0 1 = some dd_) (hg_ : cgl dd_ F_ G_ S0_) (hV_ : cstk G_ V_ S0_) (he_ : e_op F_ k_ G_ V_ = some r_) : ∀ nn_ : Nat, (∀ (j_ : Int) (S_ : sm_S), gi S_ → ai_fr (sx_W vw_39) S0_ S_ → ((k_ = 6) ∧ (0 ≤ j_) ∧ ((S_.1 1 0 6) = S0_.1 1 0 6) ∧ (∃ x_ l_ rr_ e1_, V_ = x_ :: l_ ∧ cgl dd_ F_ G_ S_ ∧ (e1_.length : Int) = j_ ∧ j_ + rr_.length = x_.length ∧ x_ = e1_ ++ rr_ ∧ (imq (G_.length ≤ 1000) (rwv (S_.2.2.1 27 0) (8 * l_.length) (e1_.map (fun z_ => i_xor z_ 1) ++ rr_)))) ∧ (∀ j9_, j9_ < 8 * (V_.length - 1) → S_.2.2.1 27 0 j9_ = S0_.2.2.1 27 0 j9_) ∧ (∀ j9_, S_.2.2.1 28 0 j9_ = S0_.2.2.1 28 0 j9_) ∧ (idf dd_ S0_ S_) ∧ True) → ((8 - j_).toNat) < nn_ → sm_T (mt_P sc_) 4 39 (8, [some (.inr (.inr (some (1, 0)))), some (.inl k_), some (.inl j_), none, none, none, none, none], [], S_) (fun ro9_ => ∃ u_ S1_, ro9_ = (.inl u_, S1_, 0) ∧ vq_39 k_ dd_ F_ G_ V_ r_ S0_ u_ S1_)) ∧ (∀ (b_ : Int) (a_ : Int) (nb_ : Int) (sa_ : Int) (j_ : Int) (S_ : sm_S), gi S_ → ai_fr (sx_W vw_39) S0_ S_ → ((k_ = 4) ∧ (1 ≤ j_ ∧ j_ ≤ nb_ ∧ 0 ≤ sa_ ∧ sa_ ≤ 2025) ∧ (∃ y_ x_ l_, V_ = y_ :: x_ :: l_ ∧ nb_ = (x_.length : Int) ∧ a_ = 8 * (l_.length : Int) ∧ b_ = a_ + 8 ∧ (S_.1 1 0 6) = (l_.length : Int) + 1 ∧ (∀ j9_, S_.2.2.1 28 0 j9_ = if j9_ = l_.length then 1 else S0_.2.2.1 28 0 j9_) ∧ ∃ (G1_ : pGr) (s1_ : Int) (r1_ s2_ e1_ e2_ : List Int), cgl dd_ F_ G1_ S_ ∧ (e1_.length : Int) = j_ ∧ (e2_.length : Int) = j_ ∧ r1_.length = s2_.length ∧ j_ + r1_.length = nb_ ∧ x_ = e1_ ++ r1_ ∧ y_ = e2_ ++ s2_ ∧ (imq (G1_.length ≤ 1000) (sa_ = s1_)) ∧ G_.length ≤ G1_.length ∧ (g_sa F_ G_ x_ y_) = ([(g_s1 F_ G1_ s1_ r1_ s2_).1], (g_s1 F_ G1_ s1_ r1_ s2_).2)) ∧ (∀ j9_, S_.2.2.1 27 0 j9_ = S0_.2.2.1 27 0 j9_) ∧ (idf dd_ S0_ S_) ∧ True) → ((nb_ - j_).toNat) < nn_ → sm_T (mt_P sc_) 4 39 (151, [some (.inr (.inr (some (1, 0)))), some (.inl k_), some (.inl b_), some (.inl a_), some (.inl nb_), some (.inl sa_), some (.inl j_), none], [], S_) (fun ro9_ => ∃ u_ S1_, ro9_ = (.inl u_, S1_, 0) ∧ vq_39 k_ dd_ F_ G_ V_ r_ S0_ u_ S1_)) ∧ (∀ (b_ : Int) (a_ : Int) (nb_ : Int) (j_ : Int) (S_ : sm_S), gi S_ → ai_fr (sx_W vw_39) S0_ S_ → ((k_ ≠ 4 ∧ k_ ≠ 5 ∧ k_ ≠ 6 ∧ k_ ≠ 7) ∧ (0 ≤ j_ ∧ j_ ≤ nb_) ∧ (∃ y_ x_ l_, V_ = y_ :: x_ :: l_ ∧ nb_ = (x_.length : Int) ∧ a_ = 8 * (l_.length : Int) ∧ b_ = a_ + 8 ∧ (S_.1 1 0 6) = (l_.length : Int) + 1 ∧ (∀ j9_, j9_ < 8 * l_.length → S_.2.2.1 27 0 j9_ = S0_.2.2.1 27 0 j9_) ∧ ∃ (G1_ : pGr) (d_ r1_ s2_ e2_ : List Int), cgl dd_ F_ G1_ S_ ∧ (d_.length : Int) = j_ ∧ (e2_.length : Int) = j_ ∧ r1_.length = s2_.length ∧ j_ + r1_.length = nb_ ∧ y_ = e2_ ++ s2_ ∧ (imq (G1_.length ≤ 1000) (rwv (S_.2.2.1 27 0) (8 * l_.length) (d_ ++ r1_) ∧ rwv (S_.2.2.1 27 0) (8 * l_.length + 8) y_)) ∧ G_.length ≤ G1_.length ∧ (g_z2 (g_bw F_ k_) G_ x_ y_) = (d_ ++ (g_z2 (g_bw F_ k_) G1_ r1_ s2_).1, (g_z2 (g_bw F_ k_) G1_ r1_ s2_).2)) ∧ (∀ j9_, S_.2.2.1 28 0 j9_ = S0_.2.2.1 28 0 j9_) ∧ (idf dd_ S0_ S_) ∧ True) → ((nb_ - j_).toNat) < nn_ → sm_T (mt_P sc_) 4 39 (210, [some (.inr (.inr (some (1, 0)))), some (.inl k_), some (.inl b_), some (.inl a_), some (.inl nb_), some (.inl j_), none, none], [], S_) (fun ro9_ => ∃ u_ S1_, ro9_ = (.inl u_, S1_, 0) ∧ vq_39 k_ dd_ F_ G_ V_ r_ S0_ u_ S1_)) := by
  intro nn_
  induction nn_ with
  | zero => exact ⟨fun _ _ _ _ _ h_ => absurd h_ (Nat.not_lt_zero _), fun _ _ _ _ _ _ _ _ _ h_ => absurd h_ (Nat.not_lt_zero _), fun _ _ _ _ _ _ _ _ h_ => absurd h_ (Nat.not_lt_zero _)⟩
  | succ nn_ ih_ =>
    refine ⟨?_, ?_, ?_⟩
    · rintro j_ S_ hI_ hF_ ⟨hk_, h0_, h1t, h1_, h2_, h3_, hD_, -⟩ hm_
      obtain ⟨x_, l_, rr_, e1_, rfl, z1_, z2_, z4_, z5_, z6_⟩ := h1_
      obtain ⟨x_1, l_1, hxl_, er⟩ := e_op6 (show e_op F_ 6 G_ (x_ :: l_) = some r_ by rw [← hk_]; exact he_)
      cases hxl_
      have tp_ : (S_.1 1 0 6) = (l_.length : Int) + 1 := by rw [h1t, hV_.1]; simp only [List.length_cons]; push_cast; omega
      have lx8_ : x_.length ≤ 8 := hV_.2.2.1.2
      have wt : S_.2.2.1 28 0 (S_.1 1 0 6 - 1).toNat = (x_.length : Int) := by rw [h3_, show (S_.1 1 0 6 - 1).toNat = l_.length by omega]; exact hV_.2.1
      have bx1_ : 0 ≤ S_.1 1 0 6 ∧ S_.1 1 0 6 ≤ 512 := hI_.1 1 0 6 rfl
      refine sm_T_go 6 (c1 := (18, [some (.inr (.inr (some (1, 0)))), some (.inl k_), some (.inl j_), none, none, none, none, none], [.inl 1, .inl (S_.1 1 0 6), .inr (.inr (some (28, 0))), .inl j_], S_)) rfl ?_
      refine sm_T_bin (w := (S_.1 1 0 6) - 1) rfl (bi_sub (by omega) (by omega) (by omega)) ?_
      refine sm_T_iald (n := 512) rfl rfl (by omega) (by omega) ?_
      have bx2_ : 0 ≤ S_.2.2.1 28 0 ((S_.1 1 0 6) - 1).toNat ∧ S_.2.2.1 28 0 ((S_.1 1 0 6) - 1).toNat ≤ 8 := hI_.2 28 0 _
      refine sm_T_br (a := 3) (z := 29) rfl (fun cx3_ => ?_) (fun cx3_ => ?_)
      · have cx3_ : (S_.2.2.1 28 0 ((S_.1 1 0 6) - 1).toNat) ≤ j_ := of_decide_eq_true cx3_
        refine sm_T_rv rfl ⟨_, _, rfl, rfl, hI_, hF_, ?_⟩
        refine ⟨hD_, ?_⟩
        have kr_ : rr_ = [] := List.eq_nil_of_length_eq_zero (by omega)
        rw [er]
        refine ⟨z1_, h1t.trans hV_.1, svl_tp (st_ := S0_.2.2.1 27 0) (wd_ := S0_.2.2.1 28 0) hV_.2.2.2.2 (fun z_ => z_) (fun j_ hj_ => h2_ j_ hj_) (fun j_ hj_ => h3_ j_) (by rw [h3_, List.length_map]; exact hV_.2.1) (by rw [List.length_map]; exact hV_.2.2.1) (fun z_ => ?_)⟩
        have q9_ := z6_ z_
        rw [kr_, List.append_nil] at q9_
        rw [z5_, kr_, List.append_nil]
        exact q9_
      · have cx3_ : ¬ ((S_.2.2.1 28 0 ((S_.1 1 0 6) - 1).toNat) ≤ j_) := of_decide_eq_false cx3_
        obtain ⟨r0_, rr_, rfl⟩ : ∃ r0_ r1_, rr_ = r0_ :: r1_ := by cases rr_ with | nil => (simp only [List.length_nil] at z4_; omega) | cons p_ q_ => exact ⟨p_, q_, rfl⟩
        have rx : imq (G_.length ≤ 1000) (S_.2.2.1 27 0 (8 * S_.1 1 0 6 + j_ - 8).toNat = r0_) := fun z_ => by rw [show (8 * S_.1 1 0 6 + j_ - 8).toNat = 8 * l_.length + (e1_.map (fun z_ => i_xor z_ 1)).length by rw [List.length_map]; omega]; exact rwv_m (z6_ z_)
        refine sm_T_go 5 (c1 := (32, [some (.inr (.inr (some (1, 0)))), some (.inl k_), some (.inl j_), none, none, none, none, none], [.inl 1, .inl (S_.1 1 0 6), .inr (.inr (some (27, 0)))], S_)) rfl ?_
        refine sm_T_bin (w := (S_.1 1 0 6) - 1) rfl (bi_sub (by omega) (by omega) (by omega)) ?_
        refine sm_T_go 1 (c1 := (35, [some (.inr (.inr (some (1, 0)))), some (.inl k_), some (.inl j_), none, none, none, none, none], [.inl 8, .inl ((S_.1 1 0 6) - 1), .inr (.inr (some (27, 0)))], S_)) rfl ?_
        refine sm_T_bin (w := 8 * (S_.1 1 0 6) - 8) rfl (bi_mul (by omega) (by omega) (by omega)) ?_
        refine sm_T_go 1 (c1 := (37, [some (.inr (.inr (some (1, 0)))), some (.inl k_), some (.inl j_), none, none, none, none, none], [.inl j_, .inl (8 * (S_.1 1 0 6) - 8), .inr (.inr (some (27, 0)))], S_)) rfl ?_
        refine sm_T_bin (w := 8 * (S_.1 1 0 6) + j_ - 8) rfl (bi_add (by omega) (by omega) (by omega)) ?_
        refine sm_T_go 1 (c1 := (39, [some (.inr (.inr (some (1, 0)))), some (.inl k_), some (.inl j_), none, none, none, none, none], [.inl (8 * (S_.1 1 0 6) + j_ - 8), .inr (.inr (some (27, 0))), .inl (8 * (S_.1 1 0 6) + j_ - 8), .inr (.inr (some (27, 0)))], S_)) rfl ?_
        refine sm_T_iald (n := 4096) rfl rfl (by omega) (by omega) ?_
        have bx4_ : 0 ≤ S_.2.2.1 27 0 (8 * (S_.1 1 0 6) + j_ - 8).toNat ∧ S_.2.2.1 27 0 (8 * (S_.1 1 0 6) + j_ - 8).toNat ≤ 2025 := hI_.2 27 0 _
        refine sm_T_go 1 (c1 := (41, [some (.inr (.inr (some (1, 0)))), some (.inl k_), some (.inl j_), none, none, none, none, none], [.inl 1, .inl (S_.2.2.1 27 0 (8 * (S_.1 1 0 6) + j_ - 8).toNat), .inl (8 * (S_.1 1 0 6) + j_ - 8), .inr (.inr (some (27, 0)))], S_)) rfl ?_
        refine sm_T_bin (w := (i_xor (S_.2.2.1 27 0 (8 * (S_.1 1 0 6) + j_ - 8).toNat) 1)) rfl rfl ?_
        have bx5_ := i_x1 (x_ := (S_.2.2.1 27 0 (8 * (S_.1 1 0 6) + j_ - 8).toNat)) (by omega)
        refine sm_T_iast (n := 4096) rfl rfl (by omega) (by omega) ?_
        have hIx6_ : gi (sm_aI S_ 27 0 (8 * (S_.1 1 0 6) + j_ - 8).toNat (i_xor (S_.2.2.1 27 0 (8 * (S_.1 1 0 6) + j_ - 8).toNat) 1)) := gi_aI hI_ (show 0 ≤ (i_xor (S_.2.2.1 27 0 (8 * (S_.1 1 0 6) + j_ - 8).toNat) 1) ∧ (i_xor (S_.2.2.1 27 0 (8 * (S_.1 1 0 6) + j_ - 8).toNat) 1) ≤ 2025 from ⟨by omega, by omega⟩)
        have hFx7_ : ai_fr (sx_W vw_39) S0_ (sm_aI S_ 27 0 (8 * (S_.1 1 0 6) + j_ - 8).toNat (i_xor (S_.2.2.1 27 0 (8 * (S_.1 1 0 6) + j_ - 8).toNat) 1)) := ai_fr_tr hF_ (ai_fr_aI rfl)
        have hDx8_ : idf dd_ S0_ (sm_aI S_ 27 0 (8 * (S_.1 1 0 6) + j_ - 8).toNat (i_xor (S_.2.2.1 27 0 (8 * (S_.1 1 0 6) + j_ - 8).toNat) 1)) := idf_aI hD_ (Or.inl (by decide))
        refine sm_T_inc (a := 2) (z := 1) (v := j_) (w := j_ + 1) rfl rfl (by omega) (by omega) (by omega) ?_
        refine sm_T_go 1 (c1 := (8, [some (.inr (.inr (some (1, 0)))), some (.inl k_), some (.inl (j_ + 1)), none, none, none, none, none], [], sm_aI S_ 27 0 (8 * (S_.1 1 0 6) + j_ - 8).toNat (i_xor (S_.2.2.1 27 0 (8 * (S_.1 1 0 6) + j_ - 8).toNat) 1))) rfl ?_
        refine ih_.1 (j_ + 1) (sm_aI S_ 27 0 (8 * (S_.1 1 0 6) + j_ - 8).toNat (i_xor (S_.2.2.1 27 0 (8 * (S_.1 1 0 6) + j_ - 8).toNat) 1)) hIx6_ hFx7_ ⟨?_, ?_, ?_, ?_, ?_, ?_, ?_, trivial⟩ ?_
        · exact hk_
        · omega
        · exact h1t
        · refine ⟨x_, l_, rr_, e1_ ++ [r0_], rfl, cgl_st z1_, ?_, ?_, ?_, fun z_ => ?_⟩
          · simp only [List.length_append, List.length_cons, List.length_nil]; push_cast; omega
          · simp only [List.length_cons] at z4_; push_cast at z4_; omega
          · rw [z5_, List.append_assoc]; rfl
          · rw [map_mid]; exact rwv_set (q_ := (8 * S_.1 1 0 6 + j_ - 8).toNat) (z6_ z_) (by rw [List.length_map]; omega) (fun j9_ => by rw [rd_eq, rx z_])
        · intro j9_ hj_
          simp only [List.length_cons] at hj_
          rw [rd_eq, if_neg (by omega)]
          exact h2_ j9_ hj_
        · intro j9_
          rw [rd_ne (by decide)]
          exact h3_ j9_
        · exact hDx8_
        · omega
    · rintro b_ a_ nb_ sa_ j_ S_ hI_ hF_ ⟨k4_, h0_, h1_, hst_, hD_, -⟩ hm_
      obtain ⟨y_, x_, l_, rfl, hnb_, ha_, hb_, h1t, hw1_, h1_⟩ := h1_
      obtain ⟨G1_, s1_, r1_, s2_, e1_, e2_, z1_, z2_, z2b, z3_, z4_, z5_, z5b, z6_, z7_, z8_⟩ := h1_
      obtain ⟨hk15_, y_1, x_1, l_1, hyx_, xy_, x1_, er⟩ := e_opb he_ (by omega) (by omega)
      cases hyx_
      have vy_ := hV_.2
      have tp_ : S0_.1 1 0 6 = (l_.length : Int) + 2 := by rw [hV_.1]; simp only [List.length_cons]; push_cast; omega
      have lx8_ : x_.length ≤ 8 := vy_.2.2.2.2.1.2
      have hvl_ : l_.length ≤ 510 := by have := hV_.1; have q9_ : S0_.1 1 0 6 ≤ 512 := (hI0_.1 1 0 6 rfl).2; omega
      refine sm_T_go 2 (c1 := (155, [some (.inr (.inr (some (1, 0)))), some (.inl k_), some (.inl b_), some (.inl a_), some (.inl nb_), some (.inl sa_), some (.inl j_), none], [.inl nb_, .inl j_], S_)) rfl ?_
      refine sm_T_br (a := 3) (z := 41) rfl (fun cx1_ => ?_) (fun cx1_ => ?_)
      · have cx1_ : nb_ ≤ j_ := of_decide_eq_true cx1_
        have kr_ : r1_ = [] := List.eq_nil_of_length_eq_zero (by omega)
        have ks_ : s2_ = [] := List.eq_nil_of_length_eq_zero (by omega)
        rw [kr_, ks_] at z8_
        have q8_ : g_s1 F_ G1_ s1_ [] [] = (s1_, G1_) := rfl
        rw [q8_] at z8_
        have hfin4 : cgl dd_ F_ r_.1 (sm_aI S_ 27 0 a_.toNat sa_) ∧ cstk r_.1 r_.2 (sm_aI S_ 27 0 a_.toNat sa_) := by rw [er, k4_, g_op4, z8_]; refine ⟨cgl_st z1_, by show S_.1 1 0 6 = _; rw [h1t]; simp only [List.length_cons]; push_cast; omega, svl_tp (st_ := S0_.2.2.1 27 0) (wd_ := S0_.2.2.1 28 0) vy_.2.2.2.2.2.2 (fun z_ => by have z9_ : G1_.length ≤ 1000 := z_; omega) (fun j9_ hj_ => by rw [rd_eq, if_neg (by omega), hst_]) (fun j9_ hj_ => by rw [rd_ne (by decide), hw1_, if_neg (by omega)]) (by rw [rd_ne (by decide), hw1_, if_pos rfl]; rfl) (by simp) (fun z_ => ?_)⟩; (intro k9_ z9_ e9_; have k0_ : k9_ = 0 := (by cases k9_ with | zero => rfl | succ k9_ => simp at e9_); subst k0_; rw [rd_eq, if_pos (by omega)]; have q9_ := Option.some.inj e9_; rw [← q9_]; exact z6_ z_)
        refine sm_T_go 4 (c1 := (203, [some (.inr (.inr (some (1, 0)))), some (.inl k_), some (.inl b_), some (.inl a_), some (.inl nb_), some (.inl sa_), some (.inl j_), none], [.inl sa_, .inl a_, .inr (.inr (some (27, 0)))], S_)) rfl ?_
        refine sm_T_iast (n := 4096) rfl rfl (by omega) (by omega) ?_
        have hIx2_ : gi (sm_aI S_ 27 0 a_.toNat sa_) := gi_aI hI_ (show 0 ≤ sa_ ∧ sa_ ≤ 2025 from ⟨by omega, by omega⟩)
        have hFx3_ : ai_fr (sx_W vw_39) S0_ (sm_aI S_ 27 0 a_.toNat sa_) := ai_fr_tr hF_ (ai_fr_aI rfl)
        have hDx4_ : idf dd_ S0_ (sm_aI S_ 27 0 a_.toNat sa_) := idf_aI hD_ (Or.inl (by decide))
        refine sm_T_go 1 (c1 := (294, [some (.inr (.inr (some (1, 0)))), some (.inl k_), some (.inl b_), some (.inl a_), some (.inl nb_), some (.inl sa_), some (.inl j_), none], [], sm_aI S_ 27 0 a_.toNat sa_)) rfl ?_
        refine sm_T_rv rfl ⟨_, _, rfl, rfl, hIx2_, hFx3_, ?_⟩
        refine ⟨hDx4_, ?_⟩
        first | exact hfin4 | exact hfin | (rw [er, k5_, g_op5]; refine ⟨e105_.1, by rw [t105_]; simp only [List.length_cons]; push_cast; omega, svl_tp (st_ := S0_.2.2.1 27 0) (wd_ := S0_.2.2.1 28 0) vy_.2.2.2.2.2.2 (fun z_ => Nat.le_trans (g_su_le x_ y_ G_ 0) z_) (fun j_ hj_ => e105_.2.2 j_ (Or.inl (by omega))) (fun j_ hj_ => by rw [w105_]) (by rw [w105_, g_su_ln x_ y_ G_ 0 xy_]; exact vy_.2.2.2.1) (by rw [g_su_ln x_ y_ G_ 0 xy_]; omega) (fun z_ => by have q9_ := e105_.2.1 z_; rw [show (8 * S0_.1 1 0 6 - 16).toNat = 8 * l_.length by omega] at q9_; exact q9_)⟩)
      · have cx1_ : ¬ (nb_ ≤ j_) := of_decide_eq_false cx1_
        obtain ⟨r0_, r1_, rfl⟩ : ∃ r0_ r9_, r1_ = r0_ :: r9_ := by cases r1_ with | nil => (simp only [List.length_nil] at z4_; omega) | cons p_ q_ => exact ⟨p_, q_, rfl⟩
        obtain ⟨s0_, s2_, rfl⟩ : ∃ s0_ s9_, s2_ = s0_ :: s9_ := by cases s2_ with | nil => (simp only [List.length_nil, List.length_cons] at z3_ z4_; omega) | cons p_ q_ => exact ⟨p_, q_, rfl⟩
        have rx : imq (G1_.length ≤ 1000) (S_.2.2.1 27 0 (a_ + j_).toNat = r0_ ∧ S_.2.2.1 27 0 (b_ + j_).toNat = s0_) := fun z_ => by rw [show (a_ + j_).toNat = 8 * l_.length + e1_.length by omega, show (b_ + j_).toNat = 8 * (x_ :: l_).length + e2_.length by simp only [List.length_cons]; omega, hst_, hst_]; exact ⟨rwv_m (by rw [← z5_]; exact vy_.2.2.2.2.2.1 (by omega)), rwv_m (by rw [← z5b]; exact vy_.2.2.1 (by omega))⟩
        have l1_ := g_xo_le (F_ := F_) (G_ := G1_) (a_ := r0_) (b_ := s0_)
        have l2_ := (g_an_le (F_ := F_) (G_ := (g_xo F_ G1_ r0_ s0_).2) (a_ := s1_) (b_ := i_xor (g_xo F_ G1_ r0_ s0_).1 1)).1
        refine sm_T_go 7 (c1 := (169, [some (.inr (.inr (some (1, 0)))), some (.inl k_), some (.inl b_), some (.inl a_), some (.inl nb_), some (.inl sa_), some (.inl j_), none], [.inl j_, .inl a_, .inr (.inr (some (27, 0))), .inr (.inr (some (1, 0))), .inl sa_, .inr (.inr (some (1, 0)))], S_)) rfl ?_
        refine sm_T_bin (w := a_ + j_) rfl (bi_add (by omega) (by omega) (by omega)) ?_
        refine sm_T_iald (n := 4096) rfl rfl (by omega) (by omega) ?_
        have bx5_ : 0 ≤ S_.2.2.1 27 0 (a_ + j_).toNat ∧ S_.2.2.1 27 0 (a_ + j_).toNat ≤ 2025 := hI_.2 27 0 _
        refine sm_T_go 4 (c1 := (178, [some (.inr (.inr (some (1, 0)))), some (.inl k_), some (.inl b_), some (.inl a_), some (.inl nb_), some (.inl sa_), some (.inl j_), none], [.inl j_, .inl b_, .inr (.inr (some (27, 0))), .inl (S_.2.2.1 27 0 (a_ + j_).toNat), .inr (.inr (some (1, 0))), .inl sa_, .inr (.inr (some (1, 0)))], S_)) rfl ?_
        refine sm_T_bin (w := b_ + j_) rfl (bi_add (by omega) (by omega) (by omega)) ?_
        refine sm_T_iald (n := 4096) rfl rfl (by omega) (by omega) ?_
        have bx6_ : 0 ≤ S_.2.2.1 27 0 (b_ + j_).toNat ∧ S_.2.2.1 27 0 (b_ + j_).toNat ≤ 2025 := hI_.2 27 0 _
        refine sm_T_cal (d1 := 2) (Q1 := vq_43 (S_.2.2.1 27 0 (a_ + j_).toNat) (S_.2.2.1 27 0 (b_ + j_).toNat) dd_ F_ G1_ r0_ s0_ S_) rfl rfl (by decide) (vc_43 (S_.2.2.1 27 0 (a_ + j_).toNat) (S_.2.2.1 27 0 (b_ + j_).toNat) dd_ F_ G1_ r0_ s0_ S_ hI_ (by exact cgl_d z1_) (by exact z1_) (by omega) (by omega) (by exact rx)) (fun u_ Sx7_ px10_ => ?_)
        obtain ⟨vx12_, rfl, hIx8_, hFx9_, px10_⟩ := px10_
        have hFx11_ : ai_fr (sx_W vw_39) S0_ Sx7_ := ai_fr_tr hF_ (fr_le hFx9_ rfl)
        obtain ⟨dx14_, px10_⟩ := px10_
        have hDx13_ : idf dd_ S0_ Sx7_ := idf_tr hD_ dx14_
        have e180_ := px10_
        have f180_ : Sx7_.2.2.1 27 0 = S_.2.2.1 27 0 := fr_arr hFx9_ rfl
        have t180_ : Sx7_.1 1 0 6 = S_.1 1 0 6 := hFx9_.1 1 0 6 rfl
        have w180_ : Sx7_.2.2.1 28 0 = S_.2.2.1 28 0 := fr_arr hFx9_ rfl
        refine sm_T_go 1 (c1 := (184, [some (.inr (.inr (some (1, 0)))), some (.inl k_), some (.inl b_), some (.inl a_), some (.inl nb_), some (.inl sa_), some (.inl j_), none], [.inl 1, .inl vx12_, .inl sa_, .inr (.inr (some (1, 0)))], Sx7_)) rfl ?_
        refine sm_T_bin (w := (i_xor vx12_ 1)) rfl rfl ?_
        have bx15_ := i_x1 (x_ := vx12_) (by omega)
        refine sm_T_cal (d1 := 1) (Q1 := vq_44 sa_ (i_xor vx12_ 1) dd_ F_ (g_xo F_ G1_ r0_ s0_).2 s1_ (i_xor (g_xo F_ G1_ r0_ s0_).1 1) Sx7_) rfl rfl (by decide) (vc_44 sa_ (i_xor vx12_ 1) dd_ F_ (g_xo F_ G1_ r0_ s0_).2 s1_ (i_xor (g_xo F_ G1_ r0_ s0_).1 1) Sx7_ hIx8_ (by exact cgl_d e180_.1) (by exact e180_.1) (by omega) (by omega) (by (intro z_; rw [e180_.2.1 (by omega)]; exact ⟨z6_ (by omega), rfl⟩))) (fun u_ Sx16_ px19_ => ?_)
        obtain ⟨vx21_, rfl, hIx17_, hFx18_, px19_⟩ := px19_
        have hFx20_ : ai_fr (sx_W vw_39) S0_ Sx16_ := ai_fr_tr hFx11_ (fr_le hFx18_ rfl)
        obtain ⟨dx23_, px19_⟩ := px19_
        have hDx22_ : idf dd_ S0_ Sx16_ := idf_tr hDx13_ dx23_
        have e185_ := px19_
        have f185_ : Sx16_.2.2.1 27 0 = S_.2.2.1 27 0 := (fr_arr hFx18_ rfl).trans f180_
        have t185_ : Sx16_.1 1 0 6 = S_.1 1 0 6 := (hFx18_.1 1 0 6 rfl).trans t180_
        have w185_ : Sx16_.2.2.1 28 0 = S_.2.2.1 28 0 := (fr_arr hFx18_ rfl).trans w180_
        refine sm_T_go 1 (c1 := (190, [some (.inr (.inr (some (1, 0)))), some (.inl k_), some (.inl b_), some (.inl a_), some (.inl nb_), some (.inl vx21_), some (.inl j_), none], [], Sx16_)) rfl ?_
        refine sm_T_inc (a := 6) (z := 1) (v := j_) (w := j_ + 1) rfl rfl (by omega) (by omega) (by omega) ?_
        refine sm_T_go 1 (c1 := (151, [some (.inr (.inr (some (1, 0)))), some (.inl k_), some (.inl b_), some (.inl a_), some (.inl nb_), some (.inl vx21_), some (.inl (j_ + 1)), none], [], Sx16_)) rfl ?_
        refine ih_.2.1 b_ a_ nb_ vx21_ (j_ + 1) Sx16_ hIx17_ hFx20_ ⟨?_, ?_, ?_, ?_, ?_, trivial⟩ ?_
        · exact k4_
        · omega
        · refine ⟨y_, x_, l_, rfl, hnb_, ha_, hb_, t185_.trans h1t, fun j9_ => by rw [w185_]; exact hw1_ j9_, (g_e3 F_ G1_ s1_ r0_ s0_).2, (g_e3 F_ G1_ s1_ r0_ s0_).1, r1_, s2_, e1_ ++ [r0_], e2_ ++ [s0_], e185_.1, ?_, ?_, ?_, ?_, ?_, ?_, fun z_ => e185_.2.1 z_, ?_, ?_⟩
          · simp only [List.length_append, List.length_cons, List.length_nil]; push_cast; omega
          · simp only [List.length_append, List.length_cons, List.length_nil]; push_cast; omega
          · simp only [List.length_cons] at z3_; omega
          · simp only [List.length_cons] at z4_; push_cast at z4_; omega
          · rw [z5_, List.append_assoc]; rfl
          · rw [z5b, List.append_assoc]; rfl
          · show _ ≤ (g_an F_ (g_xo F_ G1_ r0_ s0_).2 s1_ (i_xor (g_xo F_ G1_ r0_ s0_).1 1)).2.length; omega
          · rw [z8_]; rfl
        · (intro j9_; rw [f185_]; exact hst_ j9_)
        · exact hDx22_
        · omega
    · rintro b_ a_ nb_ j_ S_ hI_ hF_ ⟨kn_, h0_, h1_, h3_, hD_, -⟩ hm_
      obtain ⟨y_, x_, l_, rfl, hnb_, ha_, hb_, h1t, h2_, h1_⟩ := h1_
      obtain ⟨G1_, d_, r1_, s2_, e2_, z1_, z2_, z2b, z3_, z4_, z5b, z6_, z7_, z8_⟩ := h1_
      obtain ⟨hk15_, y_1, x_1, l_1, hyx_, xy_, x1_, er⟩ := e_opb he_ (by omega) (by omega)
      cases hyx_
      have vy_ := hV_.2
      have tp_ : S0_.1 1 0 6 = (l_.length : Int) + 2 := by rw [hV_.1]; simp only [List.length_cons]; push_cast; omega
      have lx8_ : x_.length ≤ 8 := vy_.2.2.2.2.1.2
      have hvl_ : l_.length ≤ 510 := by have := hV_.1; have q9_ : S0_.1 1 0 6 ≤ 512 := (hI0_.1 1 0 6 rfl).2; omega
      refine sm_T_go 2 (c1 := (214, [some (.inr (.inr (some (1, 0)))), some (.inl k_), some (.inl b_), some (.inl a_), some (.inl nb_), some (.inl j_), none, none], [.inl nb_, .inl j_], S_)) rfl ?_
      refine sm_T_br (a := 3) (z := 80) rfl (fun cx1_ => ?_) (fun cx1_ => ?_)
      · have cx1_ : nb_ ≤ j_ := of_decide_eq_true cx1_
        have kr_ : r1_ = [] := List.eq_nil_of_length_eq_zero (by omega)
        have ks_ : s2_ = [] := List.eq_nil_of_length_eq_zero (by omega)
        rw [kr_, ks_] at z8_
        have q8_ : g_z2 (g_bw F_ k_) G1_ [] [] = ([], G1_) := rfl
        rw [q8_, List.append_nil] at z8_
        have hfin : cgl dd_ F_ r_.1 S_ ∧ cstk r_.1 r_.2 S_ := by rw [er, g_opw (by omega) (by omega), z8_]; refine ⟨z1_, by rw [h1t]; simp only [List.length_cons]; push_cast; omega, svl_tp (st_ := S0_.2.2.1 27 0) (wd_ := S0_.2.2.1 28 0) vy_.2.2.2.2.2.2 (fun z_ => by have z9_ : G1_.length ≤ 1000 := z_; omega) (fun j9_ hj_ => h2_ j9_ hj_) (fun j9_ hj_ => h3_ j9_) (by rw [h3_]; show _ = (d_.length : Int); rw [show (d_.length : Int) = x_.length by omega]; exact vy_.2.2.2.1) (by show 1 ≤ d_.length ∧ d_.length ≤ 8; omega) (fun z_ => by have q9_ := (z6_ z_).1; rw [kr_, List.append_nil] at q9_; exact q9_)⟩
        refine sm_T_rv rfl ⟨_, _, rfl, rfl, hI_, hF_, ?_⟩
        refine ⟨hD_, ?_⟩
        first | exact hfin4 | exact hfin | (rw [er, k5_, g_op5]; refine ⟨e105_.1, by rw [t105_]; simp only [List.length_cons]; push_cast; omega, svl_tp (st_ := S0_.2.2.1 27 0) (wd_ := S0_.2.2.1 28 0) vy_.2.2.2.2.2.2 (fun z_ => Nat.le_trans (g_su_le x_ y_ G_ 0) z_) (fun j_ hj_ => e105_.2.2 j_ (Or.inl (by omega))) (fun j_ hj_ => by rw [w105_]) (by rw [w105_, g_su_ln x_ y_ G_ 0 xy_]; exact vy_.2.2.2.1) (by rw [g_su_ln x_ y_ G_ 0 xy_]; omega) (fun z_ => by have q9_ := e105_.2.1 z_; rw [show (8 * S0_.1 1 0 6 - 16).toNat = 8 * l_.length by omega] at q9_; exact q9_)⟩)
      · have cx1_ : ¬ (nb_ ≤ j_) := of_decide_eq_false cx1_
        obtain ⟨r0_, r1_, rfl⟩ : ∃ r0_ r9_, r1_ = r0_ :: r9_ := by cases r1_ with | nil => (simp only [List.length_nil] at z4_; omega) | cons p_ q_ => exact ⟨p_, q_, rfl⟩
        obtain ⟨s0_, s2_, rfl⟩ : ∃ s0_ s9_, s2_ = s0_ :: s9_ := by cases s2_ with | nil => (simp only [List.length_nil, List.length_cons] at z3_ z4_; omega) | cons p_ q_ => exact ⟨p_, q_, rfl⟩
        have rx : imq (G1_.length ≤ 1000) (S_.2.2.1 27 0 (a_ + j_).toNat = r0_ ∧ S_.2.2.1 27 0 (b_ + j_).toNat = s0_) := fun z_ => by rw [show (a_ + j_).toNat = 8 * l_.length + d_.length by omega, show (b_ + j_).toNat = 8 * l_.length + 8 + e2_.length by omega]; exact ⟨rwv_m (z6_ z_).1, rwv_m (by rw [← z5b]; exact (z6_ z_).2)⟩
        have l1_ := g_bw_le (F_ := F_) (k_ := k_) G1_ r0_ s0_
        refine sm_T_go 4 (c1 := (224, [some (.inr (.inr (some (1, 0)))), some (.inl k_), some (.inl b_), some (.inl a_), some (.inl nb_), some (.inl j_), none, none], [.inl j_, .inl a_, .inr (.inr (some (27, 0)))], S_)) rfl ?_
        refine sm_T_bin (w := a_ + j_) rfl (bi_add (by omega) (by omega) (by omega)) ?_
        refine sm_T_iald (n := 4096) rfl rfl (by omega) (by omega) ?_
        have bx2_ : 0 ≤ S_.2.2.1 27 0 (a_ + j_).toNat ∧ S_.2.2.1 27 0 (a_ + j_).toNat ≤ 2025 := hI_.2 27 0 _
        refine sm_T_go 5 (c1 := (235, [some (.inr (.inr (some (1, 0)))), some (.inl k_), some (.inl b_), some (.inl a_), some (.inl nb_), some (.inl j_), some (.inl (S_.2.2.1 27 0 (a_ + j_).toNat)), none], [.inl j_, .inl b_, .inr (.inr (some (27, 0)))], S_)) rfl ?_
        refine sm_T_bin (w := b_ + j_) rfl (bi_add (by omega) (by omega) (by omega)) ?_
        refine sm_T_iald (n := 4096) rfl rfl (by omega) (by omega) ?_
        have bx3_ : 0 ≤ S_.2.2.1 27 0 (b_ + j_).toNat ∧ S_.2.2.1 27 0 (b_ + j_).toNat ≤ 2025 := hI_.2 27 0 _
        refine sm_T_go 5 (c1 := (246, [some (.inr (.inr (some (1, 0)))), some (.inl k_), some (.inl b_), some (.inl a_), some (.inl nb_), some (.inl j_), some (.inl (S_.2.2.1 27 0 (a_ + j_).toNat)), some (.inl (S_.2.2.1 27 0 (b_ + j_).toNat))], [.inl j_, .inl a_, .inr (.inr (some (27, 0)))], S_)) rfl ?_
        refine sm_T_bin (w := a_ + j_) rfl (bi_add (by omega) (by omega) (by omega)) ?_
        refine sm_T_go 2 (c1 := (249, [some (.inr (.inr (some (1, 0)))), some (.inl k_), some (.inl b_), some (.inl a_), some (.inl nb_), some (.inl j_), some (.inl (S_.2.2.1 27 0 (a_ + j_).toNat)), some (.inl (S_.2.2.1 27 0 (b_ + j_).toNat))], [.inl 3, .inl k_, .inl (a_ + j_), .inr (.inr (some (27, 0)))], S_)) rfl ?_
        refine sm_T_br (a := 1) (z := 14) rfl (fun cx4_ => ?_) (fun cx4_ => ?_)
        · have cx4_ : k_ ≠ 3 := of_decide_eq_true cx4_
          refine sm_T_go 2 (c1 := (265, [some (.inr (.inr (some (1, 0)))), some (.inl k_), some (.inl b_), some (.inl a_), some (.inl nb_), some (.inl j_), some (.inl (S_.2.2.1 27 0 (a_ + j_).toNat)), some (.inl (S_.2.2.1 27 0 (b_ + j_).toNat))], [.inl 1, .inl k_, .inl (a_ + j_), .inr (.inr (some (27, 0)))], S_)) rfl ?_
          refine sm_T_br (a := 1) (z := 14) rfl (fun cx5_ => ?_) (fun cx5_ => ?_)
          · have cx5_ : k_ ≠ 1 := of_decide_eq_true cx5_
            refine sm_T_go 3 (c1 := (284, [some (.inr (.inr (some (1, 0)))), some (.inl k_), some (.inl b_), some (.inl a_), some (.inl nb_), some (.inl j_), some (.inl (S_.2.2.1 27 0 (a_ + j_).toNat)), some (.inl (S_.2.2.1 27 0 (b_ + j_).toNat))], [.inl (S_.2.2.1 27 0 (b_ + j_).toNat), .inl (S_.2.2.1 27 0 (a_ + j_).toNat), .inr (.inr (some (1, 0))), .inl (a_ + j_), .inr (.inr (some (27, 0)))], S_)) rfl ?_
            refine sm_T_cal (d1 := 2) (Q1 := vq_43 (S_.2.2.1 27 0 (a_ + j_).toNat) (S_.2.2.1 27 0 (b_ + j_).toNat) dd_ F_ G1_ r0_ s0_ S_) rfl rfl (by decide) (vc_43 (S_.2.2.1 27 0 (a_ + j_).toNat) (S_.2.2.1 27 0 (b_ + j_).toNat) dd_ F_ G1_ r0_ s0_ S_ hI_ (by exact cgl_d z1_) (by exact z1_) (by omega) (by omega) (by exact rx)) (fun u_ Sx6_ px9_ => ?_)
            obtain ⟨vx11_, rfl, hIx7_, hFx8_, px9_⟩ := px9_
            have hFx10_ : ai_fr (sx_W vw_39) S0_ Sx6_ := ai_fr_tr hF_ (fr_le hFx8_ rfl)
            obtain ⟨dx13_, px9_⟩ := px9_
            have hDx12_ : idf dd_ S0_ Sx6_ := idf_tr hD_ dx13_
            have e9_ : cgl dd_ F_ (g_bw F_ k_ G1_ r0_ s0_).2 Sx6_ ∧ (imq ((g_bw F_ k_ G1_ r0_ s0_).2.length ≤ 1000) (vx11_ = (g_bw F_ k_ G1_ r0_ s0_).1)) ∧ (0 ≤ vx11_ ∧ vx11_ ≤ 2025) := by rw [g_bw2 (by omega) (by omega)]; exact px9_
            have f9_ : Sx6_.2.2.1 27 0 = S_.2.2.1 27 0 := fr_arr hFx8_ rfl
            have t9_ : Sx6_.1 1 0 6 = S_.1 1 0 6 := hFx8_.1 1 0 6 rfl
            have w9_ : Sx6_.2.2.1 28 0 = S_.2.2.1 28 0 := fr_arr hFx8_ rfl
            have g9_ : ∀ z9_ : Int, ∀ j9_ : Nat, (sm_aI Sx6_ 27 0 (a_ + j_).toNat z9_).2.2.1 27 0 j9_ = if j9_ = (a_ + j_).toNat then z9_ else S_.2.2.1 27 0 j9_ := fun z9_ j9_ => by rw [rd_eq, f9_]
            refine sm_T_iast (n := 4096) rfl rfl (by omega) (by omega) ?_
            have hIx14_ : gi (sm_aI Sx6_ 27 0 (a_ + j_).toNat vx11_) := gi_aI hIx7_ (show 0 ≤ vx11_ ∧ vx11_ ≤ 2025 from ⟨by omega, by omega⟩)
            have hFx15_ : ai_fr (sx_W vw_39) S0_ (sm_aI Sx6_ 27 0 (a_ + j_).toNat vx11_) := ai_fr_tr hFx10_ (ai_fr_aI rfl)
            have hDx16_ : idf dd_ S0_ (sm_aI Sx6_ 27 0 (a_ + j_).toNat vx11_) := idf_aI hDx12_ (Or.inl (by decide))
            refine sm_T_inc (a := 5) (z := 1) (v := j_) (w := j_ + 1) rfl rfl (by omega) (by omega) (by omega) ?_
            refine sm_T_go 1 (c1 := (210, [some (.inr (.inr (some (1, 0)))), some (.inl k_), some (.inl b_), some (.inl a_), some (.inl nb_), some (.inl (j_ + 1)), some (.inl (S_.2.2.1 27 0 (a_ + j_).toNat)), some (.inl (S_.2.2.1 27 0 (b_ + j_).toNat))], [], sm_aI Sx6_ 27 0 (a_ + j_).toNat vx11_)) rfl ?_
            refine sm_T_wk [some (.inr (.inr (some (1, 0)))), some (.inl k_), some (.inl b_), some (.inl a_), some (.inl nb_), some (.inl (j_ + 1)), none, none] (by exact ⟨rfl, rfl, rfl, rfl, rfl, rfl, trivial⟩) ?_
            refine ih_.2.2 b_ a_ nb_ (j_ + 1) (sm_aI Sx6_ 27 0 (a_ + j_).toNat vx11_) hIx14_ hFx15_ ⟨?_, ?_, ?_, ?_, ?_, trivial⟩ ?_
            · exact kn_
            · omega
            · refine ⟨y_, x_, l_, rfl, hnb_, ha_, hb_, t9_.trans h1t, fun j9_ hj_ => by rw [g9_, if_neg (by omega)]; exact h2_ j9_ hj_, (g_bw F_ k_ G1_ r0_ s0_).2, d_ ++ [(g_bw F_ k_ G1_ r0_ s0_).1], r1_, s2_, e2_ ++ [s0_], cgl_st e9_.1, ?_, ?_, ?_, ?_, ?_, fun z_ => ?_, ?_, ?_⟩
              · simp only [List.length_append, List.length_cons, List.length_nil]; push_cast; omega
              · simp only [List.length_append, List.length_cons, List.length_nil]; push_cast; omega
              · simp only [List.length_cons] at z3_; omega
              · simp only [List.length_cons] at z4_; push_cast at z4_; omega
              · rw [z5b, List.append_assoc]; rfl
              · have q1_ := z6_ (by omega)
                refine ⟨?_, ?_⟩
                · exact rwv_set (q_ := (a_ + j_).toNat) q1_.1 (by omega) (fun j9_ => by rw [g9_, e9_.2.1 z_])
                · exact rwv_cg q1_.2 (fun j9_ hj_ => by rw [g9_, if_neg (by omega)])
              · omega
              · rw [z8_]; exact g_z2_c
            · intro j9_
              rw [rd_ne (by decide), w9_]
              exact h3_ j9_
            · exact hDx16_
            · omega
          · have cx5_ : ¬ (k_ ≠ 1) := of_decide_eq_false cx5_
            refine sm_T_go 3 (c1 := (273, [some (.inr (.inr (some (1, 0)))), some (.inl k_), some (.inl b_), some (.inl a_), some (.inl nb_), some (.inl j_), some (.inl (S_.2.2.1 27 0 (a_ + j_).toNat)), some (.inl (S_.2.2.1 27 0 (b_ + j_).toNat))], [.inl (S_.2.2.1 27 0 (b_ + j_).toNat), .inl (S_.2.2.1 27 0 (a_ + j_).toNat), .inr (.inr (some (1, 0))), .inl (a_ + j_), .inr (.inr (some (27, 0)))], S_)) rfl ?_
            refine sm_T_cal (d1 := 2) (Q1 := vq_42 (S_.2.2.1 27 0 (a_ + j_).toNat) (S_.2.2.1 27 0 (b_ + j_).toNat) dd_ F_ G1_ r0_ s0_ S_) rfl rfl (by decide) (vc_42 (S_.2.2.1 27 0 (a_ + j_).toNat) (S_.2.2.1 27 0 (b_ + j_).toNat) dd_ F_ G1_ r0_ s0_ S_ hI_ (by exact cgl_d z1_) (by exact z1_) (by omega) (by omega) (by exact rx)) (fun u_ Sx17_ px20_ => ?_)
            obtain ⟨vx22_, rfl, hIx18_, hFx19_, px20_⟩ := px20_
            have hFx21_ : ai_fr (sx_W vw_39) S0_ Sx17_ := ai_fr_tr hF_ (fr_le hFx19_ rfl)
            obtain ⟨dx24_, px20_⟩ := px20_
            have hDx23_ : idf dd_ S0_ Sx17_ := idf_tr hD_ dx24_
            have e9_ : cgl dd_ F_ (g_bw F_ k_ G1_ r0_ s0_).2 Sx17_ ∧ (imq ((g_bw F_ k_ G1_ r0_ s0_).2.length ≤ 1000) (vx22_ = (g_bw F_ k_ G1_ r0_ s0_).1)) ∧ (0 ≤ vx22_ ∧ vx22_ ≤ 2025) := by rw [show k_ = 1 by omega, g_bw1]; exact px20_
            have f9_ : Sx17_.2.2.1 27 0 = S_.2.2.1 27 0 := fr_arr hFx19_ rfl
            have t9_ : Sx17_.1 1 0 6 = S_.1 1 0 6 := hFx19_.1 1 0 6 rfl
            have w9_ : Sx17_.2.2.1 28 0 = S_.2.2.1 28 0 := fr_arr hFx19_ rfl
            have g9_ : ∀ z9_ : Int, ∀ j9_ : Nat, (sm_aI Sx17_ 27 0 (a_ + j_).toNat z9_).2.2.1 27 0 j9_ = if j9_ = (a_ + j_).toNat then z9_ else S_.2.2.1 27 0 j9_ := fun z9_ j9_ => by rw [rd_eq, f9_]
            refine sm_T_go 1 (c1 := (287, [some (.inr (.inr (some (1, 0)))), some (.inl k_), some (.inl b_), some (.inl a_), some (.inl nb_), some (.inl j_), some (.inl (S_.2.2.1 27 0 (a_ + j_).toNat)), some (.inl (S_.2.2.1 27 0 (b_ + j_).toNat))], [.inl vx22_, .inl (a_ + j_), .inr (.inr (some (27, 0)))], Sx17_)) rfl ?_
            refine sm_T_iast (n := 4096) rfl rfl (by omega) (by omega) ?_
            have hIx25_ : gi (sm_aI Sx17_ 27 0 (a_ + j_).toNat vx22_) := gi_aI hIx18_ (show 0 ≤ vx22_ ∧ vx22_ ≤ 2025 from ⟨by omega, by omega⟩)
            have hFx26_ : ai_fr (sx_W vw_39) S0_ (sm_aI Sx17_ 27 0 (a_ + j_).toNat vx22_) := ai_fr_tr hFx21_ (ai_fr_aI rfl)
            have hDx27_ : idf dd_ S0_ (sm_aI Sx17_ 27 0 (a_ + j_).toNat vx22_) := idf_aI hDx23_ (Or.inl (by decide))
            refine sm_T_inc (a := 5) (z := 1) (v := j_) (w := j_ + 1) rfl rfl (by omega) (by omega) (by omega) ?_
            refine sm_T_go 1 (c1 := (210, [some (.inr (.inr (some (1, 0)))), some (.inl k_), some (.inl b_), some (.inl a_), some (.inl nb_), some (.inl (j_ + 1)), some (.inl (S_.2.2.1 27 0 (a_ + j_).toNat)), some (.inl (S_.2.2.1 27 0 (b_ + j_).toNat))], [], sm_aI Sx17_ 27 0 (a_ + j_).toNat vx22_)) rfl ?_
            refine sm_T_wk [some (.inr (.inr (some (1, 0)))), some (.inl k_), some (.inl b_), some (.inl a_), some (.inl nb_), some (.inl (j_ + 1)), none, none] (by exact ⟨rfl, rfl, rfl, rfl, rfl, rfl, trivial⟩) ?_
            refine ih_.2.2 b_ a_ nb_ (j_ + 1) (sm_aI Sx17_ 27 0 (a_ + j_).toNat vx22_) hIx25_ hFx26_ ⟨?_, ?_, ?_, ?_, ?_, trivial⟩ ?_
            · exact kn_
            · omega
            · refine ⟨y_, x_, l_, rfl, hnb_, ha_, hb_, t9_.trans h1t, fun j9_ hj_ => by rw [g9_, if_neg (by omega)]; exact h2_ j9_ hj_, (g_bw F_ k_ G1_ r0_ s0_).2, d_ ++ [(g_bw F_ k_ G1_ r0_ s0_).1], r1_, s2_, e2_ ++ [s0_], cgl_st e9_.1, ?_, ?_, ?_, ?_, ?_, fun z_ => ?_, ?_, ?_⟩
              · simp only [List.length_append, List.length_cons, List.length_nil]; push_cast; omega
              · simp only [List.length_append, List.length_cons, List.length_nil]; push_cast; omega
              · simp only [List.length_cons] at z3_; omega
              · simp only [List.length_cons] at z4_; push_cast at z4_; omega
              · rw [z5b, List.append_assoc]; rfl
              · have q1_ := z6_ (by omega)
                refine ⟨?_, ?_⟩
                · exact rwv_set (q_ := (a_ + j_).toNat) q1_.1 (by omega) (fun j9_ => by rw [g9_, e9_.2.1 z_])
                · exact rwv_cg q1_.2 (fun j9_ hj_ => by rw [g9_, if_neg (by omega)])
              · omega
              · rw [z8_]; exact g_z2_c
            · intro j9_
              rw [rd_ne (by decide), w9_]
              exact h3_ j9_
            · exact hDx27_
            · omega
        · have cx4_ : ¬ (k_ ≠ 3) := of_decide_eq_false cx4_
          refine sm_T_go 3 (c1 := (257, [some (.inr (.inr (some (1, 0)))), some (.inl k_), some (.inl b_), some (.inl a_), some (.inl nb_), some (.inl j_), some (.inl (S_.2.2.1 27 0 (a_ + j_).toNat)), some (.inl (S_.2.2.1 27 0 (b_ + j_).toNat))], [.inl (S_.2.2.1 27 0 (b_ + j_).toNat), .inl (S_.2.2.1 27 0 (a_ + j_).toNat), .inr (.inr (some (1, 0))), .inl (a_ + j_), .inr (.inr (some (27, 0)))], S_)) rfl ?_
          refine sm_T_cal (d1 := 1) (Q1 := vq_44 (S_.2.2.1 27 0 (a_ + j_).toNat) (S_.2.2.1 27 0 (b_ + j_).toNat) dd_ F_ G1_ r0_ s0_ S_) rfl rfl (by decide) (vc_44 (S_.2.2.1 27 0 (a_ + j_).toNat) (S_.2.2.1 27 0 (b_ + j_).toNat) dd_ F_ G1_ r0_ s0_ S_ hI_ (by exact cgl_d z1_) (by exact z1_) (by omega) (by omega) (by exact rx)) (fun u_ Sx28_ px31_ => ?_)
          obtain ⟨vx33_, rfl, hIx29_, hFx30_, px31_⟩ := px31_
          have hFx32_ : ai_fr (sx_W vw_39) S0_ Sx28_ := ai_fr_tr hF_ (fr_le hFx30_ rfl)
          obtain ⟨dx35_, px31_⟩ := px31_
          have hDx34_ : idf dd_ S0_ Sx28_ := idf_tr hD_ dx35_
          have e9_ : cgl dd_ F_ (g_bw F_ k_ G1_ r0_ s0_).2 Sx28_ ∧ (imq ((g_bw F_ k_ G1_ r0_ s0_).2.length ≤ 1000) (vx33_ = (g_bw F_ k_ G1_ r0_ s0_).1)) ∧ (0 ≤ vx33_ ∧ vx33_ ≤ 2025) := by rw [show k_ = 3 by omega, g_bw3]; exact px31_
          have f9_ : Sx28_.2.2.1 27 0 = S_.2.2.1 27 0 := fr_arr hFx30_ rfl
          have t9_ : Sx28_.1 1 0 6 = S_.1 1 0 6 := hFx30_.1 1 0 6 rfl
          have w9_ : Sx28_.2.2.1 28 0 = S_.2.2.1 28 0 := fr_arr hFx30_ rfl
          have g9_ : ∀ z9_ : Int, ∀ j9_ : Nat, (sm_aI Sx28_ 27 0 (a_ + j_).toNat z9_).2.2.1 27 0 j9_ = if j9_ = (a_ + j_).toNat then z9_ else S_.2.2.1 27 0 j9_ := fun z9_ j9_ => by rw [rd_eq, f9_]
          refine sm_T_go 1 (c1 := (287, [some (.inr (.inr (some (1, 0)))), some (.inl k_), some (.inl b_), some (.inl a_), some (.inl nb_), some (.inl j_), some (.inl (S_.2.2.1 27 0 (a_ + j_).toNat)), some (.inl (S_.2.2.1 27 0 (b_ + j_).toNat))], [.inl vx33_, .inl (a_ + j_), .inr (.inr (some (27, 0)))], Sx28_)) rfl ?_
          refine sm_T_iast (n := 4096) rfl rfl (by omega) (by omega) ?_
          have hIx36_ : gi (sm_aI Sx28_ 27 0 (a_ + j_).toNat vx33_) := gi_aI hIx29_ (show 0 ≤ vx33_ ∧ vx33_ ≤ 2025 from ⟨by omega, by omega⟩)
          have hFx37_ : ai_fr (sx_W vw_39) S0_ (sm_aI Sx28_ 27 0 (a_ + j_).toNat vx33_) := ai_fr_tr hFx32_ (ai_fr_aI rfl)
          have hDx38_ : idf dd_ S0_ (sm_aI Sx28_ 27 0 (a_ + j_).toNat vx33_) := idf_aI hDx34_ (Or.inl (by decide))
          refine sm_T_inc (a := 5) (z := 1) (v := j_) (w := j_ + 1) rfl rfl (by omega) (by omega) (by omega) ?_
          refine sm_T_go 1 (c1 := (210, [some (.inr (.inr (some (1, 0)))), some (.inl k_), some (.inl b_), some (.inl a_), some (.inl nb_), some (.inl (j_ + 1)), some (.inl (S_.2.2.1 27 0 (a_ + j_).toNat)), some (.inl (S_.2.2.1 27 0 (b_ + j_).toNat))], [], sm_aI Sx28_ 27 0 (a_ + j_).toNat vx33_)) rfl ?_
          refine sm_T_wk [some (.inr (.inr (some (1, 0)))), some (.inl k_), some (.inl b_), some (.inl a_), some (.inl nb_), some (.inl (j_ + 1)), none, none] (by exact ⟨rfl, rfl, rfl, rfl, rfl, rfl, trivial⟩) ?_
          refine ih_.2.2 b_ a_ nb_ (j_ + 1) (sm_aI Sx28_ 27 0 (a_ + j_).toNat vx33_) hIx36_ hFx37_ ⟨?_, ?_, ?_, ?_, ?_, trivial⟩ ?_
          · exact kn_
          · omega
          · refine ⟨y_, x_, l_, rfl, hnb_, ha_, hb_, t9_.trans h1t, fun j9_ hj_ => by rw [g9_, if_neg (by omega)]; exact h2_ j9_ hj_, (g_bw F_ k_ G1_ r0_ s0_).2, d_ ++ [(g_bw F_ k_ G1_ r0_ s0_).1], r1_, s2_, e2_ ++ [s0_], cgl_st e9_.1, ?_, ?_, ?_, ?_, ?_, fun z_ => ?_, ?_, ?_⟩
            · simp only [List.length_append, List.length_cons, List.length_nil]; push_cast; omega
            · simp only [List.length_append, List.length_cons, List.length_nil]; push_cast; omega
            · simp only [List.length_cons] at z3_; omega
            · simp only [List.length_cons] at z4_; push_cast at z4_; omega
            · rw [z5b, List.append_assoc]; rfl
            · have q1_ := z6_ (by omega)
              refine ⟨?_, ?_⟩
              · exact rwv_set (q_ := (a_ + j_).toNat) q1_.1 (by omega) (fun j9_ => by rw [g9_, e9_.2.1 z_])
              · exact rwv_cg q1_.2 (fun j9_ hj_ => by rw [g9_, if_neg (by omega)])
            · omega
            · rw [z8_]; exact g_z2_c
          · intro j9_
            rw [rd_ne (by decide), w9_]
            exact h3_ j9_
          · exact hDx38_
          · omega
set_option maxHeartbeats 2500000 in
set_option maxRecDepth 20000 in
theorem vc_39 {sc_ : Nat × (Nat → Int)} (k_ : Int) (dd_ : Nat) (F_ : Nat) (G_ : pGr) (V_ : gV) (r_ : pGr × gV) (S0_ : sm_S) (hI_ : gi S0_) (hI0_ : gi S0_) (hd_ : S0_.2.1 1 0 1 = some dd_) (hg_ : cgl dd_ F_ G_ S0_) (hV_ : cstk G_ V_ S0_) (he_ : e_op F_ k_ G_ V_ = some r_) : sm_T (mt_P sc_) 4 39 (0, [some (.inr (.inr (some (1, 0)))), some (.inl k_), none, none, none, none, none, none], [], S0_) (fun ro9_ => ∃ u_ S1_, ro9_ = (.inl u_, S1_, 0) ∧ vq_39 k_ dd_ F_ G_ V_ r_ S0_ u_ S1_) := by
  have hF_ : ai_fr (sx_W vw_39) S0_ S0_ := ai_fr_rf
  have hD_ : idf dd_ S0_ S0_ := idf_rf
  refine sm_T_go 2 (c1 := (3, [some (.inr (.inr (some (1, 0)))), some (.inl k_), none, none, none, none, none, none], [.inl 6, .inl k_], S0_)) rfl ?_
  refine sm_T_br (a := 1) (z := 47) rfl (fun cx1_ => ?_) (fun cx1_ => ?_)
  · have cx1_ : k_ ≠ 6 := of_decide_eq_true cx1_
    refine sm_T_go 2 (c1 := (53, [some (.inr (.inr (some (1, 0)))), some (.inl k_), none, none, none, none, none, none], [.inl 7, .inl k_], S0_)) rfl ?_
    refine sm_T_br (a := 1) (z := 8) rfl (fun cx2_ => ?_) (fun cx2_ => ?_)
    · have cx2_ : k_ ≠ 7 := of_decide_eq_true cx2_
      obtain ⟨hk15_, y_, x_, l_, hVe_, xy_, x1_, er⟩ := e_opb he_ (by omega) (by omega)
      have hV2_ : cstk G_ (y_ :: x_ :: l_) S0_ := by rw [← hVe_]; exact hV_
      have vy_ := hV2_.2
      have tp_ : S0_.1 1 0 6 = (l_.length : Int) + 2 := by rw [hV2_.1]; simp only [List.length_cons]; push_cast; omega
      have lx8_ : x_.length ≤ 8 := vy_.2.2.2.2.1.2
      have hvl_ : l_.length ≤ 510 := by have := hV2_.1; have q9_ : S0_.1 1 0 6 ≤ 512 := (hI_.1 1 0 6 rfl).2; omega
      have nbx_ : S0_.2.2.1 28 0 (S0_.1 1 0 6 - 1).toNat = (y_.length : Int) := by rw [show (S0_.1 1 0 6 - 1).toNat = (x_ :: l_).length by simp only [List.length_cons]; omega]; exact vy_.1
      have bx3_ : 0 ≤ S0_.1 1 0 6 ∧ S0_.1 1 0 6 ≤ 512 := hI_.1 1 0 6 rfl
      refine sm_T_go 4 (c1 := (67, [some (.inr (.inr (some (1, 0)))), some (.inl k_), none, none, none, none, none, none], [.inl 1, .inl (S0_.1 1 0 6), .inr (.inr (some (1, 0)))], S0_)) rfl ?_
      refine sm_T_bin (w := (S0_.1 1 0 6) - 1) rfl (bi_sub (by omega) (by omega) (by omega)) ?_
      have hIx4_ : gi (sm_pI S0_ 1 0 6 ((S0_.1 1 0 6) - 1)) := gi_pI hI_ (show 0 ≤ (S0_.1 1 0 6) - 1 ∧ (S0_.1 1 0 6) - 1 ≤ 512 from ⟨by omega, by omega⟩)
      have hFx5_ : ai_fr (sx_W vw_39) S0_ (sm_pI S0_ 1 0 6 ((S0_.1 1 0 6) - 1)) := ai_fr_tr hF_ (ai_fr_pI rfl)
      have hDx6_ : idf dd_ S0_ (sm_pI S0_ 1 0 6 ((S0_.1 1 0 6) - 1)) := idf_pI hD_ (Or.inl (by decide))
      refine sm_T_go 4 (c1 := (77, [some (.inr (.inr (some (1, 0)))), some (.inl k_), none, none, none, none, none, none], [.inl 8, .inl ((S0_.1 1 0 6) - 1)], sm_pI S0_ 1 0 6 ((S0_.1 1 0 6) - 1))) rfl ?_
      refine sm_T_bin (w := 8 * (S0_.1 1 0 6) - 8) rfl (bi_mul (by omega) (by omega) (by omega)) ?_
      refine sm_T_go 3 (c1 := (82, [some (.inr (.inr (some (1, 0)))), some (.inl k_), some (.inl (8 * (S0_.1 1 0 6) - 8)), none, none, none, none, none], [.inl 8, .inl (8 * (S0_.1 1 0 6) - 8)], sm_pI S0_ 1 0 6 ((S0_.1 1 0 6) - 1))) rfl ?_
      refine sm_T_bin (w := 8 * (S0_.1 1 0 6) - 16) rfl (bi_sub (by omega) (by omega) (by omega)) ?_
      refine sm_T_go 5 (c1 := (92, [some (.inr (.inr (some (1, 0)))), some (.inl k_), some (.inl (8 * (S0_.1 1 0 6) - 8)), some (.inl (8 * (S0_.1 1 0 6) - 16)), none, none, none, none], [.inl ((S0_.1 1 0 6) - 1), .inr (.inr (some (28, 0)))], sm_pI S0_ 1 0 6 ((S0_.1 1 0 6) - 1))) rfl ?_
      refine sm_T_iald (n := 512) rfl rfl (by omega) (by omega) ?_
      have bx7_ : 0 ≤ S0_.2.2.1 28 0 ((S0_.1 1 0 6) - 1).toNat ∧ S0_.2.2.1 28 0 ((S0_.1 1 0 6) - 1).toNat ≤ 8 := hI_.2 28 0 _
      refine sm_T_go 3 (c1 := (97, [some (.inr (.inr (some (1, 0)))), some (.inl k_), some (.inl (8 * (S0_.1 1 0 6) - 8)), some (.inl (8 * (S0_.1 1 0 6) - 16)), some (.inl (S0_.2.2.1 28 0 ((S0_.1 1 0 6) - 1).toNat)), none, none, none], [.inl 5, .inl k_], sm_pI S0_ 1 0 6 ((S0_.1 1 0 6) - 1))) rfl ?_
      refine sm_T_br (a := 1) (z := 14) rfl (fun cx8_ => ?_) (fun cx8_ => ?_)
      · have cx8_ : k_ ≠ 5 := of_decide_eq_true cx8_
        refine sm_T_go 2 (c1 := (113, [some (.inr (.inr (some (1, 0)))), some (.inl k_), some (.inl (8 * (S0_.1 1 0 6) - 8)), some (.inl (8 * (S0_.1 1 0 6) - 16)), some (.inl (S0_.2.2.1 28 0 ((S0_.1 1 0 6) - 1).toNat)), none, none, none], [.inl 4, .inl k_], sm_pI S0_ 1 0 6 ((S0_.1 1 0 6) - 1))) rfl ?_
        refine sm_T_br (a := 1) (z := 94) rfl (fun cx9_ => ?_) (fun cx9_ => ?_)
        · have cx9_ : k_ ≠ 4 := of_decide_eq_true cx9_
          refine sm_T_go 2 (c1 := (210, [some (.inr (.inr (some (1, 0)))), some (.inl k_), some (.inl (8 * (S0_.1 1 0 6) - 8)), some (.inl (8 * (S0_.1 1 0 6) - 16)), some (.inl (S0_.2.2.1 28 0 ((S0_.1 1 0 6) - 1).toNat)), some (.inl 0), none, none], [], sm_pI S0_ 1 0 6 ((S0_.1 1 0 6) - 1))) rfl ?_
          refine (vl_39 k_ dd_ F_ G_ V_ r_ S0_ hI0_ hd_ hg_ hV_ he_ _).2.2 (8 * (S0_.1 1 0 6) - 8) (8 * (S0_.1 1 0 6) - 16) (S0_.2.2.1 28 0 ((S0_.1 1 0 6) - 1).toNat) 0 (sm_pI S0_ 1 0 6 ((S0_.1 1 0 6) - 1)) hIx4_ hFx5_ ⟨?_, ?_, ?_, ?_, ?_, trivial⟩ (Nat.lt_succ_self _)
          · omega
          · omega
          · refine ⟨y_, x_, l_, hVe_, ?_, by omega, by omega, by (try simp only [rd_eq, rd_ne, rf_eq, rf_nk, rf_nt, rd_fa, rd_af, rd_fl, rd_al, rd_lf, rd_la, rd_leq, rd_lne, rd_fr, rd_ar, ne_eq, Nat.reduceEqDiff, not_false_eq_true]); omega, fun j9_ hj_ => rfl, G_, [], x_, y_, [], cgl_fr (w_ := ([(1, 6)], [], [])) hg_ (ai_fr_pI rfl) rfl rfl rfl rfl rfl rfl rfl rfl, rfl, rfl, xy_, ?_, rfl, fun z_ => ⟨vy_.2.2.2.2.2.1 z_, vy_.2.2.1 z_⟩, Nat.le_refl _, rfl⟩
            · rw [xy_, show (S0_.1 1 0 6 - 1).toNat = (x_ :: l_).length by simp only [List.length_cons]; omega]; exact vy_.1
            · rw [xy_, show (S0_.1 1 0 6 - 1).toNat = (x_ :: l_).length by simp only [List.length_cons]; omega, vy_.1]; omega
          · (intro j9_; rfl)
          · exact hDx6_
        · have cx9_ : ¬ (k_ ≠ 4) := of_decide_eq_false cx9_
          have k4_ : k_ = 4 := by omega
          obtain ⟨x0_, x9_, rfl⟩ : ∃ r0_ r1_, x_ = r0_ :: r1_ := by cases x_ with | nil => (simp only [List.length_nil] at x1_; omega) | cons p_ q_ => exact ⟨p_, q_, rfl⟩
          obtain ⟨y0_, y9_, rfl⟩ : ∃ s0_ s1_, y_ = s0_ :: s1_ := by cases y_ with | nil => (simp only [List.length_nil, List.length_cons] at xy_; omega) | cons p_ q_ => exact ⟨p_, q_, rfl⟩
          have rx : imq (G_.length ≤ 1000) (S0_.2.2.1 27 0 (8 * S0_.1 1 0 6 - 16).toNat = x0_ ∧ S0_.2.2.1 27 0 (8 * S0_.1 1 0 6 - 8).toNat = y0_) := fun z_ => by rw [show (8 * S0_.1 1 0 6 - 16).toNat = 8 * l_.length + 0 by omega, show (8 * S0_.1 1 0 6 - 8).toNat = 8 * ((x0_ :: x9_) :: l_).length + 0 by simp only [List.length_cons]; omega]; exact ⟨vy_.2.2.2.2.2.1 z_ 0 x0_ rfl, vy_.2.2.1 z_ 0 y0_ rfl⟩
          refine sm_T_go 5 (c1 := (125, [some (.inr (.inr (some (1, 0)))), some (.inl k_), some (.inl (8 * (S0_.1 1 0 6) - 8)), some (.inl (8 * (S0_.1 1 0 6) - 16)), some (.inl (S0_.2.2.1 28 0 ((S0_.1 1 0 6) - 1).toNat)), none, none, none], [.inl 1, .inl ((S0_.1 1 0 6) - 1), .inr (.inr (some (28, 0)))], sm_pI S0_ 1 0 6 ((S0_.1 1 0 6) - 1))) rfl ?_
          refine sm_T_bin (w := (S0_.1 1 0 6) - 2) rfl (bi_sub (by omega) (by omega) (by omega)) ?_
          refine sm_T_go 1 (c1 := (127, [some (.inr (.inr (some (1, 0)))), some (.inl k_), some (.inl (8 * (S0_.1 1 0 6) - 8)), some (.inl (8 * (S0_.1 1 0 6) - 16)), some (.inl (S0_.2.2.1 28 0 ((S0_.1 1 0 6) - 1).toNat)), none, none, none], [.inl 1, .inl ((S0_.1 1 0 6) - 2), .inr (.inr (some (28, 0)))], sm_pI S0_ 1 0 6 ((S0_.1 1 0 6) - 1))) rfl ?_
          refine sm_T_iast (n := 512) rfl rfl (by omega) (by omega) ?_
          have hIx10_ : gi (sm_aI (sm_pI S0_ 1 0 6 ((S0_.1 1 0 6) - 1)) 28 0 ((S0_.1 1 0 6) - 2).toNat 1) := gi_aI hIx4_ (show 0 ≤ 1 ∧ 1 ≤ 8 from ⟨by omega, by omega⟩)
          have hFx11_ : ai_fr (sx_W vw_39) S0_ (sm_aI (sm_pI S0_ 1 0 6 ((S0_.1 1 0 6) - 1)) 28 0 ((S0_.1 1 0 6) - 2).toNat 1) := ai_fr_tr hFx5_ (ai_fr_aI rfl)
          have hDx12_ : idf dd_ S0_ (sm_aI (sm_pI S0_ 1 0 6 ((S0_.1 1 0 6) - 1)) 28 0 ((S0_.1 1 0 6) - 2).toNat 1) := idf_aI hDx6_ (Or.inl (by decide))
          refine sm_T_go 4 (c1 := (134, [some (.inr (.inr (some (1, 0)))), some (.inl k_), some (.inl (8 * (S0_.1 1 0 6) - 8)), some (.inl (8 * (S0_.1 1 0 6) - 16)), some (.inl (S0_.2.2.1 28 0 ((S0_.1 1 0 6) - 1).toNat)), none, none, none], [.inl (8 * (S0_.1 1 0 6) - 16), .inr (.inr (some (27, 0))), .inr (.inr (some (1, 0)))], sm_aI (sm_pI S0_ 1 0 6 ((S0_.1 1 0 6) - 1)) 28 0 ((S0_.1 1 0 6) - 2).toNat 1)) rfl ?_
          refine sm_T_iald (n := 4096) rfl rfl (by omega) (by omega) ?_
          have bx13_ : 0 ≤ S0_.2.2.1 27 0 (8 * (S0_.1 1 0 6) - 16).toNat ∧ S0_.2.2.1 27 0 (8 * (S0_.1 1 0 6) - 16).toNat ≤ 2025 := hI_.2 27 0 _
          refine sm_T_go 3 (c1 := (140, [some (.inr (.inr (some (1, 0)))), some (.inl k_), some (.inl (8 * (S0_.1 1 0 6) - 8)), some (.inl (8 * (S0_.1 1 0 6) - 16)), some (.inl (S0_.2.2.1 28 0 ((S0_.1 1 0 6) - 1).toNat)), none, none, none], [.inl (8 * (S0_.1 1 0 6) - 8), .inr (.inr (some (27, 0))), .inl (S0_.2.2.1 27 0 (8 * (S0_.1 1 0 6) - 16).toNat), .inr (.inr (some (1, 0)))], sm_aI (sm_pI S0_ 1 0 6 ((S0_.1 1 0 6) - 1)) 28 0 ((S0_.1 1 0 6) - 2).toNat 1)) rfl ?_
          refine sm_T_iald (n := 4096) rfl rfl (by omega) (by omega) ?_
          have bx14_ : 0 ≤ S0_.2.2.1 27 0 (8 * (S0_.1 1 0 6) - 8).toNat ∧ S0_.2.2.1 27 0 (8 * (S0_.1 1 0 6) - 8).toNat ≤ 2025 := hI_.2 27 0 _
          refine sm_T_go 0 (c1 := (141, [some (.inr (.inr (some (1, 0)))), some (.inl k_), some (.inl (8 * (S0_.1 1 0 6) - 8)), some (.inl (8 * (S0_.1 1 0 6) - 16)), some (.inl (S0_.2.2.1 28 0 ((S0_.1 1 0 6) - 1).toNat)), none, none, none], [.inl (S0_.2.2.1 27 0 (8 * (S0_.1 1 0 6) - 8).toNat), .inl (S0_.2.2.1 27 0 (8 * (S0_.1 1 0 6) - 16).toNat), .inr (.inr (some (1, 0)))], sm_aI (sm_pI S0_ 1 0 6 ((S0_.1 1 0 6) - 1)) 28 0 ((S0_.1 1 0 6) - 2).toNat 1)) rfl ?_
          refine sm_T_cal (d1 := 2) (Q1 := vq_43 (S0_.2.2.1 27 0 (8 * (S0_.1 1 0 6) - 16).toNat) (S0_.2.2.1 27 0 (8 * (S0_.1 1 0 6) - 8).toNat) dd_ F_ G_ x0_ y0_ (sm_aI (sm_pI S0_ 1 0 6 ((S0_.1 1 0 6) - 1)) 28 0 ((S0_.1 1 0 6) - 2).toNat 1)) rfl rfl (by decide) (vc_43 (S0_.2.2.1 27 0 (8 * (S0_.1 1 0 6) - 16).toNat) (S0_.2.2.1 27 0 (8 * (S0_.1 1 0 6) - 8).toNat) dd_ F_ G_ x0_ y0_ (sm_aI (sm_pI S0_ 1 0 6 ((S0_.1 1 0 6) - 1)) 28 0 ((S0_.1 1 0 6) - 2).toNat 1) hIx10_ (by exact hd_) (by exact cgl_fr (w_ := ([(1, 6)], [28], [])) hg_ (ai_fr_tr (ai_fr_pI rfl) (ai_fr_aI rfl)) rfl rfl rfl rfl rfl rfl rfl rfl) (by omega) (by omega) (by exact rx)) (fun u_ Sx15_ px18_ => ?_)
          obtain ⟨vx20_, rfl, hIx16_, hFx17_, px18_⟩ := px18_
          have hFx19_ : ai_fr (sx_W vw_39) S0_ Sx15_ := ai_fr_tr hFx11_ (fr_le hFx17_ rfl)
          obtain ⟨dx22_, px18_⟩ := px18_
          have hDx21_ : idf dd_ S0_ Sx15_ := idf_tr hDx12_ dx22_
          have e141_ := px18_
          have t141_ : Sx15_.1 1 0 6 = S0_.1 1 0 6 - 1 := (hFx17_.1 1 0 6 rfl)
          have w141_ : ∀ j9_ : Nat, Sx15_.2.2.1 28 0 j9_ = if j9_ = l_.length then 1 else S0_.2.2.1 28 0 j9_ := fun j9_ => by rw [fr_arr (t := 28) (i := 0) hFx17_ rfl, rd_eq, show (S0_.1 1 0 6 - 2).toNat = l_.length by omega]; rfl
          have f141_ : Sx15_.2.2.1 27 0 = S0_.2.2.1 27 0 := (fr_arr hFx17_ rfl).trans (by funext j9_; exact rd_ne (by decide))
          refine sm_T_go 1 (c1 := (145, [some (.inr (.inr (some (1, 0)))), some (.inl k_), some (.inl (8 * (S0_.1 1 0 6) - 8)), some (.inl (8 * (S0_.1 1 0 6) - 16)), some (.inl (S0_.2.2.1 28 0 ((S0_.1 1 0 6) - 1).toNat)), none, none, none], [.inl 1, .inl vx20_], Sx15_)) rfl ?_
          refine sm_T_bin (w := (i_xor vx20_ 1)) rfl rfl ?_
          have bx23_ := i_x1 (x_ := vx20_) (by omega)
          refine sm_T_go 3 (c1 := (151, [some (.inr (.inr (some (1, 0)))), some (.inl k_), some (.inl (8 * (S0_.1 1 0 6) - 8)), some (.inl (8 * (S0_.1 1 0 6) - 16)), some (.inl (S0_.2.2.1 28 0 ((S0_.1 1 0 6) - 1).toNat)), some (.inl (i_xor vx20_ 1)), some (.inl 1), none], [], Sx15_)) rfl ?_
          refine (vl_39 k_ dd_ F_ G_ V_ r_ S0_ hI0_ hd_ hg_ hV_ he_ _).2.1 (8 * (S0_.1 1 0 6) - 8) (8 * (S0_.1 1 0 6) - 16) (S0_.2.2.1 28 0 ((S0_.1 1 0 6) - 1).toNat) (i_xor vx20_ 1) 1 Sx15_ hIx16_ hFx19_ ⟨?_, ?_, ?_, ?_, ?_, trivial⟩ (Nat.lt_succ_self _)
          · exact k4_
          · omega
          · refine ⟨y0_ :: y9_, x0_ :: x9_, l_, hVe_, ?_, by omega, by omega, by rw [t141_]; omega, w141_, (g_xo F_ G_ x0_ y0_).2, i_xor (g_xo F_ G_ x0_ y0_).1 1, x9_, y9_, [x0_], [y0_], e141_.1, rfl, rfl, ?_, ?_, rfl, rfl, fun z_ => by rw [e141_.2.1 z_], g_xo_le, rfl⟩
            · rw [xy_, show (S0_.1 1 0 6 - 1).toNat = ((x0_ :: x9_) :: l_).length by simp only [List.length_cons]; omega]; exact vy_.1
            · simp only [List.length_cons] at xy_; omega
            · rw [show (S0_.1 1 0 6 - 1).toNat = ((x0_ :: x9_) :: l_).length by simp only [List.length_cons]; omega, vy_.1, ← xy_]; simp only [List.length_cons]; push_cast; omega
          · (intro j9_; rw [f141_])
          · exact hDx21_
      · have cx8_ : ¬ (k_ ≠ 5) := of_decide_eq_false cx8_
        have k5_ : k_ = 5 := by omega
        refine sm_T_go 4 (c1 := (105, [some (.inr (.inr (some (1, 0)))), some (.inl k_), some (.inl (8 * (S0_.1 1 0 6) - 8)), some (.inl (8 * (S0_.1 1 0 6) - 16)), some (.inl (S0_.2.2.1 28 0 ((S0_.1 1 0 6) - 1).toNat)), none, none, none], [.inl (S0_.2.2.1 28 0 ((S0_.1 1 0 6) - 1).toNat), .inl (8 * (S0_.1 1 0 6) - 8), .inl (8 * (S0_.1 1 0 6) - 16), .inr (.inr (some (1, 0)))], sm_pI S0_ 1 0 6 ((S0_.1 1 0 6) - 1))) rfl ?_
        refine sm_T_cal (d1 := 3) (Q1 := vq_41 (8 * (S0_.1 1 0 6) - 16) (8 * (S0_.1 1 0 6) - 8) (S0_.2.2.1 28 0 ((S0_.1 1 0 6) - 1).toNat) dd_ F_ G_ x_ y_ (sm_pI S0_ 1 0 6 ((S0_.1 1 0 6) - 1))) rfl rfl (by decide) (vc_41 (8 * (S0_.1 1 0 6) - 16) (8 * (S0_.1 1 0 6) - 8) (S0_.2.2.1 28 0 ((S0_.1 1 0 6) - 1).toNat) dd_ F_ G_ x_ y_ (sm_pI S0_ 1 0 6 ((S0_.1 1 0 6) - 1)) hIx4_ (by exact hd_) (by exact cgl_fr (w_ := ([(1, 6)], [], [])) hg_ (ai_fr_pI rfl) rfl rfl rfl rfl rfl rfl rfl rfl) (by omega) (by (refine ⟨?_, xy_, lx8_⟩; have q9_ := vy_.1; rw [show (S0_.1 1 0 6 - 1).toNat = (x_ :: l_).length by simp only [List.length_cons]; omega]; rw [xy_]; exact q9_)) (by (intro z_; rw [show (8 * S0_.1 1 0 6 - 16).toNat = 8 * l_.length by omega, show (8 * S0_.1 1 0 6 - 8).toNat = 8 * (x_ :: l_).length by simp only [List.length_cons]; omega]; exact ⟨vy_.2.2.2.2.2.1 z_, vy_.2.2.1 z_⟩))) (fun u_ Sx24_ px27_ => ?_)
        obtain ⟨rfl, hIx25_, hFx26_, px27_⟩ := px27_
        have hFx28_ : ai_fr (sx_W vw_39) S0_ Sx24_ := ai_fr_tr hFx5_ (fr_le hFx26_ rfl)
        obtain ⟨dx30_, px27_⟩ := px27_
        have hDx29_ : idf dd_ S0_ Sx24_ := idf_tr hDx6_ dx30_
        have e105_ := px27_
        have t105_ : Sx24_.1 1 0 6 = S0_.1 1 0 6 - 1 := (hFx26_.1 1 0 6 rfl)
        have w105_ : ∀ j9_, Sx24_.2.2.1 28 0 j9_ = S0_.2.2.1 28 0 j9_ := fun j9_ => congrFun (fr_arr (t := 28) (i := 0) hFx26_ rfl) j9_
        have k5_ : k_ = 5 := by omega
        refine sm_T_go 1 (c1 := (294, [some (.inr (.inr (some (1, 0)))), some (.inl k_), some (.inl (8 * (S0_.1 1 0 6) - 8)), some (.inl (8 * (S0_.1 1 0 6) - 16)), some (.inl (S0_.2.2.1 28 0 ((S0_.1 1 0 6) - 1).toNat)), none, none, none], [], Sx24_)) rfl ?_
        refine sm_T_rv rfl ⟨_, _, rfl, rfl, hIx25_, hFx28_, ?_⟩
        refine ⟨hDx29_, ?_⟩
        first | exact hfin4 | exact hfin | (rw [er, k5_, g_op5]; refine ⟨e105_.1, by rw [t105_]; simp only [List.length_cons]; push_cast; omega, svl_tp (st_ := S0_.2.2.1 27 0) (wd_ := S0_.2.2.1 28 0) vy_.2.2.2.2.2.2 (fun z_ => Nat.le_trans (g_su_le x_ y_ G_ 0) z_) (fun j_ hj_ => e105_.2.2 j_ (Or.inl (by omega))) (fun j_ hj_ => by rw [w105_]) (by rw [w105_, g_su_ln x_ y_ G_ 0 xy_]; exact vy_.2.2.2.1) (by rw [g_su_ln x_ y_ G_ 0 xy_]; omega) (fun z_ => by have q9_ := e105_.2.1 z_; rw [show (8 * S0_.1 1 0 6 - 16).toNat = 8 * l_.length by omega] at q9_; exact q9_)⟩)
    · have cx2_ : ¬ (k_ ≠ 7) := of_decide_eq_false cx2_
      have hk_ : k_ = 7 := by omega
      obtain ⟨ve_, va_, c_, l_, hVe_, hl7_, er⟩ := e_op7 (show e_op F_ 7 G_ V_ = some r_ by rw [← hk_]; exact he_)
      have hV2_ : cstk G_ (ve_ :: va_ :: [c_] :: l_) S0_ := by rw [← hVe_]; exact hV_
      have tp_ : S0_.1 1 0 6 = (l_.length : Int) + 3 := by rw [hV2_.1]; simp only [List.length_cons]; push_cast; omega
      refine sm_T_go 1 (c1 := (57, [some (.inr (.inr (some (1, 0)))), some (.inl k_), none, none, none, none, none, none], [.inr (.inr (some (1, 0)))], S0_)) rfl ?_
      refine sm_T_cal (d1 := 3) (Q1 := vq_40 dd_ F_ G_ c_ va_ ve_ l_ S0_) rfl rfl (by decide) (vc_40 dd_ F_ G_ c_ va_ ve_ l_ S0_ hI_ (by exact hd_) (by exact hg_) (by exact tp_) (by exact hV2_.2) (by (have q9_ : S0_.1 1 0 6 ≤ 512 := (hI_.1 1 0 6 rfl).2); omega)) (fun u_ Sx31_ px34_ => ?_)
      obtain ⟨rfl, hIx32_, hFx33_, px34_⟩ := px34_
      have hFx35_ : ai_fr (sx_W vw_39) S0_ Sx31_ := ai_fr_tr hF_ (fr_le hFx33_ rfl)
      obtain ⟨dx37_, px34_⟩ := px34_
      have hDx36_ : idf dd_ S0_ Sx31_ := idf_tr hD_ dx37_
      have e57_ := px34_
      refine sm_T_rv rfl ⟨_, _, rfl, rfl, hIx32_, hFx35_, ?_⟩
      refine ⟨hDx36_, ?_⟩
      rw [er]
      exact e57_
  · have cx1_ : ¬ (k_ ≠ 6) := of_decide_eq_false cx1_
    have hk_ : k_ = 6 := by omega
    obtain ⟨x_, l_, hVe_, er⟩ := e_op6 (show e_op F_ 6 G_ V_ = some r_ by rw [← hk_]; exact he_)
    have hV2_ : cstk G_ (x_ :: l_) S0_ := by rw [← hVe_]; exact hV_
    have tp_ : S0_.1 1 0 6 = (l_.length : Int) + 1 := by rw [hV2_.1]; simp only [List.length_cons]; push_cast; omega
    have lx8_ : x_.length ≤ 8 := hV2_.2.2.1.2
    refine sm_T_go 2 (c1 := (8, [some (.inr (.inr (some (1, 0)))), some (.inl k_), some (.inl 0), none, none, none, none, none], [], S0_)) rfl ?_
    refine (vl_39 k_ dd_ F_ G_ V_ r_ S0_ hI0_ hd_ hg_ hV_ he_ _).1 0 S0_ hI_ hF_ ⟨?_, ?_, ?_, ?_, ?_, ?_, ?_, trivial⟩ (Nat.lt_succ_self _)
    · exact hk_
    · omega
    · rfl
    · exact ⟨x_, l_, x_, [], hVe_, hg_, rfl, by simp, rfl, fun z_ => hV2_.2.2.2.1 z_⟩
    · (intro j9_ hj_; rfl)
    · (intro j9_; rfl)
    · exact hD_
end
/-! 99.zb5a -/
section
/-! the class: loads; written by wip/p55/gen/vg -/

/-! loads -/
theorem e_ld11 {A_ : pA} {m_ a_ : Nat} {d_ : Int} {E_ : gE} {O_ : gO} {V_ W_ : gV} (h_ : e_ld A_ m_ 11 a_ d_ E_ O_ V_ = some W_) : ∃ x_ l_, V_ = x_ :: l_ ∧ a_ < x_.length ∧ W_ = [x_.getD a_ 0] :: l_ := by
  unfold e_ld at h_
  rw [if_pos rfl] at h_
  cases V_ with
  | nil => cases h_
  | cons x_ l_ =>
    have h_ : (if a_ < x_.length then some ([x_.getD a_ 0] :: l_) else none) = some W_ := h_
    split at h_
    · rename_i g_
      cases h_
      exact ⟨x_, l_, rfl, g_, rfl⟩
    · cases h_
theorem e_ld8 {A_ : pA} {m_ a_ : Nat} {d_ : Int} {E_ : gE} {O_ : gO} {V_ W_ : gV} (h_ : e_ld A_ m_ 8 a_ d_ E_ O_ V_ = some W_) : V_.length < 512 ∧ (1 ≤ a_ ∧ a_ ≤ 8) ∧ 0 ≤ d_ ∧ W_ = c_bt a_ d_ :: V_ := by
  unfold e_ld at h_
  rw [if_neg (by decide)] at h_
  split at h_
  · cases h_
  · rw [if_pos rfl] at h_
    split at h_
    · rename_i g1_ g_
      cases h_
      exact ⟨by omega, ⟨g_.1, g_.2.1⟩, g_.2.2, rfl⟩
    · cases h_
theorem e_ld9 {A_ : pA} {m_ a_ : Nat} {d_ : Int} {E_ : gE} {O_ : gO} {V_ W_ : gV} (h_ : e_ld A_ m_ 9 a_ d_ E_ O_ V_ = some W_) : V_.length < 512 ∧ a_ < A_.1 m_ ∧ (1 ≤ (E_ a_).length ∧ (E_ a_).length ≤ 8) ∧ ((E_ a_).length : Int) = A_.2.2.2.1 (40 * m_ + a_) ∧ W_ = E_ a_ :: V_ := by
  unfold e_ld at h_
  rw [if_neg (by decide)] at h_
  split at h_
  · cases h_
  · rw [if_neg (by decide), if_pos rfl] at h_
    split at h_
    · rename_i g1_ g_
      cases h_
      exact ⟨by omega, g_.1, ⟨g_.2.1, g_.2.2.1⟩, g_.2.2.2, rfl⟩
    · cases h_
theorem e_ldp {A_ : pA} {m_ a_ : Nat} {k_ d_ : Int} {E_ : gE} {O_ : gO} {V_ W_ : gV} (h_ : e_ld A_ m_ k_ a_ d_ E_ O_ V_ = some W_) (h11_ : k_ ≠ 11) (h8_ : k_ ≠ 8) (h9_ : k_ ≠ 9) : V_.length < 512 ∧ ∃ o_, O_ a_ = some o_ ∧ a_ < A_.1 m_ ∧ 0 ≤ d_ ∧ d_ < A_.1 (A_.2.2.2.2 (40 * m_ + a_)).toNat ∧ 0 ≤ A_.2.2.2.2 (40 * m_ + a_) ∧ A_.2.2.2.2 (40 * m_ + a_) < m_ ∧ (1 ≤ (o_ d_.toNat).length ∧ (o_ d_.toNat).length ≤ 8) ∧ ((o_ d_.toNat).length : Int) = A_.2.2.2.1 (40 * (A_.2.2.2.2 (40 * m_ + a_)).toNat + d_.toNat) ∧ W_ = o_ d_.toNat :: V_ := by
  unfold e_ld at h_
  rw [if_neg h11_] at h_
  by_cases g1_ : 512 ≤ V_.length
  · rw [if_pos g1_] at h_
    cases h_
  · rw [if_neg g1_, if_neg h8_, if_neg h9_] at h_
    by_cases g10_ : k_ = 10
    · rw [if_pos g10_] at h_
      cases ho_ : O_ a_ with
      | none => rw [ho_] at h_; cases h_
      | some o_ =>
        rw [ho_] at h_
        have h_ : (if a_ < A_.1 m_ ∧ 0 ≤ d_ ∧ d_ < A_.1 (A_.2.2.2.2 (40 * m_ + a_)).toNat ∧ 0 ≤ A_.2.2.2.2 (40 * m_ + a_) ∧ A_.2.2.2.2 (40 * m_ + a_) < m_ ∧ 1 ≤ (o_ d_.toNat).length ∧ (o_ d_.toNat).length ≤ 8 ∧ ((o_ d_.toNat).length : Int) = A_.2.2.2.1 (40 * (A_.2.2.2.2 (40 * m_ + a_)).toNat + d_.toNat) then some (o_ d_.toNat :: V_) else none) = some W_ := h_
        split at h_
        · rename_i g_
          cases h_
          exact ⟨by omega, o_, rfl, g_.1, g_.2.1, g_.2.2.1, g_.2.2.2.1, g_.2.2.2.2.1, ⟨g_.2.2.2.2.2.1, g_.2.2.2.2.2.2.1⟩, g_.2.2.2.2.2.2.2, rfl⟩
        · cases h_
    · rw [if_neg g10_] at h_
      cases h_
theorem ld_st {S0_ : sm_S} {k_ p_ q_ : Nat} {z_ t_ : Int} : (sm_pI (sm_acI (sm_aI S0_ 28 0 k_ z_) 26 0 27 0 p_ q_ 8) 1 0 6 t_).2.2.1 27 0 = sm_cp (S0_.2.2.1 26 0) (S0_.2.2.1 27 0) p_ q_ 8 := by
  show (sm_acI (sm_aI S0_ 28 0 k_ z_) 26 0 27 0 p_ q_ 8).2.2.1 27 0 = _
  rw [sm_acI_at]
  have e1_ : (sm_aI S0_ 28 0 k_ z_).2.2.1 26 0 = S0_.2.2.1 26 0 := funext fun j_ => rd_ne (by decide)
  have e2_ : (sm_aI S0_ 28 0 k_ z_).2.2.1 27 0 = S0_.2.2.1 27 0 := funext fun j_ => rd_ne (by decide)
  rw [e1_, e2_]
theorem ld_wd {S0_ : sm_S} {k_ p_ q_ j_ : Nat} {z_ t_ : Int} : (sm_pI (sm_acI (sm_aI S0_ 28 0 k_ z_) 26 0 27 0 p_ q_ 8) 1 0 6 t_).2.2.1 28 0 j_ = if j_ = k_ then z_ else S0_.2.2.1 28 0 j_ := by
  show (sm_acI (sm_aI S0_ 28 0 k_ z_) 26 0 27 0 p_ q_ 8).2.2.1 28 0 j_ = _
  rw [sm_acI_ne (by decide), rd_eq]
theorem ld_go {G_ : pGr} {V_ : gV} {v_ : List Int} {S0_ : sm_S} {k_ p_ q_ : Nat} {z_ t_ : Int} (hV_ : cstk G_ V_ S0_) (hk_ : k_ = V_.length) (hq_ : q_ = 8 * V_.length) (hz_ : z_ = (v_.length : Int)) (ht_ : t_ = (V_.length : Int) + 1) (hv_ : 1 ≤ v_.length ∧ v_.length ≤ 8) (hr_ : rwv (S0_.2.2.1 26 0) p_ v_) : cstk G_ (v_ :: V_) (sm_pI (sm_acI (sm_aI S0_ 28 0 k_ z_) 26 0 27 0 p_ q_ 8) 1 0 6 t_) := by
  refine ⟨?_, svl_tp hV_.2 (fun z_ => z_) (fun j_ hj_ => ?_) (fun j_ hj_ => ?_) ?_ hv_ (fun _ => ?_)⟩
  · rw [rf_eq, ht_, List.length_cons]
    push_cast
    rfl
  · rw [ld_st, sm_cp_o (by omega)]
  · rw [ld_wd, if_neg (by omega)]
  · rw [ld_wd, if_pos hk_.symm, hz_]
  · rw [ld_st, hq_]
    exact rwv_cp hr_ hv_.2
end
/-! 99.zb5b -/
section
/-! Builder.cellOf -/
def vw_35 : sx_Wl := ([], [], [])
def vq_35 (f_ : Int) (s_ : Int) (S0_ : sm_S) (u_ : Option sm_V) (S1_ : sm_S) : Prop := S0_ = S1_ ∧ ∃ v_ : Int, u_ = some (.inl v_) ∧ (v_ = 8 * (40 * f_ + s_))
set_option maxHeartbeats 400000 in
theorem vc_35 {sc_ : Nat × (Nat → Int)} (f_ : Int) (s_ : Int) (S0_ : sm_S) (hI_ : gi S0_) (hf_ : 0 ≤ f_ ∧ f_ ≤ 100000) (hs_ : 0 ≤ s_ ∧ s_ ≤ 100000) : sm_T (mt_P sc_) 0 35 (0, [some (.inl f_), some (.inl s_)], [], S0_) (fun ro9_ => ∃ u_ S1_, ro9_ = (.inl u_, S1_, 0) ∧ vq_35 f_ s_ S0_ u_ S1_) := by
  have hF_ : ai_fr (sx_W vw_35) S0_ S0_ := ai_fr_rf
  refine sm_T_go 2 (c1 := (3, [some (.inl f_), some (.inl s_)], [.inl 40, .inl f_], S0_)) rfl ?_
  refine sm_T_bin (w := 40 * f_) rfl (bi_mul (by omega) (by omega) (by omega)) ?_
  refine sm_T_go 1 (c1 := (5, [some (.inl f_), some (.inl s_)], [.inl s_, .inl (40 * f_)], S0_)) rfl ?_
  refine sm_T_bin (w := 40 * f_ + s_) rfl (bi_add (by omega) (by omega) (by omega)) ?_
  refine sm_T_go 1 (c1 := (8, [some (.inl f_), some (.inl s_)], [.inl 8, .inl (40 * f_ + s_)], S0_)) rfl ?_
  refine sm_T_bin (w := 320 * f_ + 8 * s_) rfl (bi_mul (by omega) (by omega) (by omega)) ?_
  refine sm_T_ri rfl ⟨_, _, rfl, rfl, _, rfl, ?_⟩
  omega
end
/-! 99.zb5c -/
section
/-! Builder.load -/
def vw_37 : sx_Wl := ([(1, 6)], [27, 28], [])
def vq_37 (k_ : Int) (m_ : Int) (f_ : Int) (a_ : Int) (d_ : Int) (tb_ : Nat → Int) (tn_ : Nat) (A_ : pA) (mm_ : Nat) (ff_ : Nat) (aa_ : Nat) (G_ : pGr) (E_ : gE) (O_ : gO) (V_ : gV) (V1_ : gV) (fc0_ : Nat) (fc_ : Nat) (S0_ : sm_S) (u_ : Option sm_V) (S1_ : sm_S) : Prop := u_ = none ∧ gi S1_ ∧ ai_fr (sx_W vw_37) S0_ S1_ ∧ (cstk G_ V1_ S1_)
set_option maxHeartbeats 1500000 in
set_option maxRecDepth 20000 in
theorem vl_37 {sc_ : Nat × (Nat → Int)} (k_ : Int) (m_ : Int) (f_ : Int) (a_ : Int) (d_ : Int) (tb_ : Nat → Int) (tn_ : Nat) (A_ : pA) (mm_ : Nat) (ff_ : Nat) (aa_ : Nat) (G_ : pGr) (E_ : gE) (O_ : gO) (V_ : gV) (V1_ : gV) (fc0_ : Nat) (fc_ : Nat) (S0_ : sm_S) (hI0_ : gi S0_) (hk0_ : 8 ≤ k_ ∧ k_ ≤ 11) (hd0_ : 0 ≤ d_ ∧ d_ ≤ 1048576) (hm1_ : m_ = (mm_ : Int) ∧ mm_ ≤ 15) (hf1_ : f_ = (ff_ : Int) ∧ ff_ < fc0_ ∧ fc0_ ≤ fc_ ∧ fc_ ≤ 201) (ha1_ : a_ = (aa_ : Int) ∧ aa_ ≤ 63) (her_ : ∀ k9_, k9_ ≤ mm_ → er1 tb_ tn_ A_ k9_ S0_) (hA_ : a_ok tb_ tn_ A_ mm_) (hfr_ : cfr ff_ fc0_ fc_ E_ O_ (S0_.2.2.1 26 0)) (hV_ : cstk G_ V_ S0_) (hok_ : G_.length ≤ 1000) (he_ : e_ld A_ mm_ k_ aa_ d_ E_ O_ V_ = some V1_) : ∀ nn_ : Nat, (∀ (ap_ : Int) (sy_ : Int) (j_ : Int) (S_ : sm_S), gi S_ → ai_fr (sx_W vw_37) S0_ S_ → ((k_ = 8) ∧ (0 ≤ j_ ∧ j_ ≤ a_ ∧ ap_ = 8 * (V_.length : Int)) ∧ ((S_.1 1 0 6) = (V_.length : Int)) ∧ (∀ j9_, S_.2.2.1 28 0 j9_ = if j9_ = V_.length then a_ else S0_.2.2.1 28 0 j9_) ∧ (rwv (S_.2.2.1 27 0) (8 * V_.length) (c_bt j_.toNat d_)) ∧ (∀ j9_, j9_ < 8 * V_.length → S_.2.2.1 27 0 j9_ = S0_.2.2.1 27 0 j9_) ∧ True) → ((a_ - j_).toNat) < nn_ → sm_T (mt_P sc_) 1 37 (88, [some (.inr (.inr (some (1, 0)))), some (.inl k_), some (.inl m_), some (.inl f_), some (.inl a_), some (.inl d_), some (.inl ap_), some (.inl sy_), some (.inl j_)], [], S_) (fun ro9_ => ∃ u_ S1_, ro9_ = (.inl u_, S1_, 0) ∧ vq_37 k_ m_ f_ a_ d_ tb_ tn_ A_ mm_ ff_ aa_ G_ E_ O_ V_ V1_ fc0_ fc_ S0_ u_ S1_)) := by
  intro nn_
  induction nn_ with
  | zero => exact fun _ _ _ _ _ _ _ h_ => absurd h_ (Nat.not_lt_zero _)
  | succ nn_ ih_ =>
    rintro ap_ sy_ j_ S_ hI_ hF_ ⟨hk_, h0_, ht1_, hw_, h1_, h2_, -⟩ hm_
    obtain ⟨v5_, ha8_, d0_, eV_⟩ := e_ld8 (show e_ld A_ mm_ 8 aa_ d_ E_ O_ V_ = some V1_ by rw [← hk_]; exact he_)
    refine sm_T_go 2 (c1 := (92, [some (.inr (.inr (some (1, 0)))), some (.inl k_), some (.inl m_), some (.inl f_), some (.inl a_), some (.inl d_), some (.inl ap_), some (.inl sy_), some (.inl j_)], [.inl a_, .inl j_], S_)) rfl ?_
    refine sm_T_br (a := 3) (z := 26) rfl (fun cx1_ => ?_) (fun cx1_ => ?_)
    · have cx1_ : a_ ≤ j_ := of_decide_eq_true cx1_
      have hfin : cstk G_ V1_ (sm_pI S_ 1 0 6 (S_.1 1 0 6 + 1)) := by rw [eV_]; refine ⟨?_, svl_tp hV_.2 (fun z_ => z_) (fun j9_ hj_ => h2_ j9_ hj_) (fun j9_ hj_ => ?_) ?_ (by rw [c_bt_l]; omega) (fun _ => ?_)⟩; (rw [rf_eq, ht1_, List.length_cons]; push_cast; rfl); (show S_.2.2.1 28 0 j9_ = _; rw [hw_, if_neg (by omega)]); (show S_.2.2.1 28 0 V_.length = _; rw [hw_, if_pos rfl, c_bt_l]; omega); (have q9_ := h1_; rw [show j_.toNat = aa_ by omega] at q9_; exact q9_)
      have bx2_ : 0 ≤ S_.1 1 0 6 ∧ S_.1 1 0 6 ≤ 512 := hI_.1 1 0 6 rfl
      refine sm_T_go 5 (c1 := (240, [some (.inr (.inr (some (1, 0)))), some (.inl k_), some (.inl m_), some (.inl f_), some (.inl a_), some (.inl d_), some (.inl ap_), some (.inl sy_), some (.inl j_)], [.inl 1, .inl (S_.1 1 0 6), .inr (.inr (some (1, 0)))], S_)) rfl ?_
      refine sm_T_bin (w := (S_.1 1 0 6) + 1) rfl (bi_add (by omega) (by omega) (by omega)) ?_
      have hIx3_ : gi (sm_pI S_ 1 0 6 ((S_.1 1 0 6) + 1)) := gi_pI hI_ (show 0 ≤ (S_.1 1 0 6) + 1 ∧ (S_.1 1 0 6) + 1 ≤ 512 from ⟨by omega, by omega⟩)
      have hFx4_ : ai_fr (sx_W vw_37) S0_ (sm_pI S_ 1 0 6 ((S_.1 1 0 6) + 1)) := ai_fr_tr hF_ (ai_fr_pI rfl)
      refine sm_T_go 1 (c1 := (244, [some (.inr (.inr (some (1, 0)))), some (.inl k_), some (.inl m_), some (.inl f_), some (.inl a_), some (.inl d_), some (.inl ap_), some (.inl sy_), some (.inl j_)], [], sm_pI S_ 1 0 6 ((S_.1 1 0 6) + 1))) rfl ?_
      refine sm_T_rv rfl ⟨_, _, rfl, rfl, hIx3_, hFx4_, ?_⟩
      first | exact hfin | (rw [eV_]; exact ld_go hV_ (by omega) (by omega) (by omega) (by omega) l8_ (by first | (rw [e153_, show (8 * (40 * f_ + a_)).toNat = 8 * (40 * ff_ + aa_) by omega]; exact (hfr_.1 aa_ (by omega)).1) | (rw [e220_, pt2_, show (8 * (40 * (P_ aa_ : Int) + d_)).toNat = 8 * (40 * P_ aa_ + d_.toNat) by omega]; exact (yP_.2.2.2 d_.toNat (by omega)).1)))
    · have cx1_ : ¬ (a_ ≤ j_) := of_decide_eq_false cx1_
      refine sm_T_go 4 (c1 := (103, [some (.inr (.inr (some (1, 0)))), some (.inl k_), some (.inl m_), some (.inl f_), some (.inl a_), some (.inl d_), some (.inl ap_), some (.inl sy_), some (.inl j_)], [.inl j_, .inl ap_, .inr (.inr (some (27, 0)))], S_)) rfl ?_
      refine sm_T_bin (w := ap_ + j_) rfl (bi_add (by omega) (by omega) (by omega)) ?_
      refine sm_T_go 2 (c1 := (108, [some (.inr (.inr (some (1, 0)))), some (.inl k_), some (.inl m_), some (.inl f_), some (.inl a_), some (.inl d_), some (.inl ap_), some (.inl sy_), some (.inl j_)], [.inl j_, .inl d_, .inl (ap_ + j_), .inr (.inr (some (27, 0)))], S_)) rfl ?_
      refine sm_T_bin (w := (i_shr d_ j_)) rfl rfl ?_
      refine sm_T_go 1 (c1 := (110, [some (.inr (.inr (some (1, 0)))), some (.inl k_), some (.inl m_), some (.inl f_), some (.inl a_), some (.inl d_), some (.inl ap_), some (.inl sy_), some (.inl j_)], [.inl 1, .inl (i_shr d_ j_), .inl (ap_ + j_), .inr (.inr (some (27, 0)))], S_)) rfl ?_
      refine sm_T_bin (w := ((i_shr d_ j_) % 2)) rfl (bi_msk (k := 1) (by decide)) ?_
      refine sm_T_iast (n := 4096) rfl rfl (by omega) (by omega) ?_
      have hIx5_ : gi (sm_aI S_ 27 0 (ap_ + j_).toNat ((i_shr d_ j_) % 2)) := gi_aI hI_ (show 0 ≤ ((i_shr d_ j_) % 2) ∧ ((i_shr d_ j_) % 2) ≤ 2025 from ⟨by omega, by omega⟩)
      have hFx6_ : ai_fr (sx_W vw_37) S0_ (sm_aI S_ 27 0 (ap_ + j_).toNat ((i_shr d_ j_) % 2)) := ai_fr_tr hF_ (ai_fr_aI rfl)
      refine sm_T_inc (a := 8) (z := 1) (v := j_) (w := j_ + 1) rfl rfl (by omega) (by omega) (by omega) ?_
      refine sm_T_go 1 (c1 := (88, [some (.inr (.inr (some (1, 0)))), some (.inl k_), some (.inl m_), some (.inl f_), some (.inl a_), some (.inl d_), some (.inl ap_), some (.inl sy_), some (.inl (j_ + 1))], [], sm_aI S_ 27 0 (ap_ + j_).toNat ((i_shr d_ j_) % 2))) rfl ?_
      refine ih_ ap_ sy_ (j_ + 1) (sm_aI S_ 27 0 (ap_ + j_).toNat ((i_shr d_ j_) % 2)) hIx5_ hFx6_ ⟨?_, ?_, ?_, ?_, ?_, ?_, trivial⟩ ?_
      · exact hk_
      · omega
      · exact ht1_
      · (intro j9_; rw [rd_ne (by decide)]; exact hw_ j9_)
      · rw [show (j_ + 1).toNat = j_.toNat + 1 by omega, c_bt_s]
        exact rwv_ap (q_ := (ap_ + j_).toNat) h1_ (by rw [c_bt_l]; omega) (fun j9_ => by rw [rd_eq, show ((j_.toNat : Nat) : Int) = j_ by omega])
      · (intro j9_ hj_; rw [rd_eq, if_neg (by omega)]; exact h2_ j9_ hj_)
      · omega
set_option maxHeartbeats 1500000 in
set_option maxRecDepth 20000 in
theorem vc_37 {sc_ : Nat × (Nat → Int)} (k_ : Int) (m_ : Int) (f_ : Int) (a_ : Int) (d_ : Int) (tb_ : Nat → Int) (tn_ : Nat) (A_ : pA) (mm_ : Nat) (ff_ : Nat) (aa_ : Nat) (G_ : pGr) (E_ : gE) (O_ : gO) (V_ : gV) (V1_ : gV) (fc0_ : Nat) (fc_ : Nat) (S0_ : sm_S) (hI_ : gi S0_) (hI0_ : gi S0_) (hk0_ : 8 ≤ k_ ∧ k_ ≤ 11) (hd0_ : 0 ≤ d_ ∧ d_ ≤ 1048576) (hm1_ : m_ = (mm_ : Int) ∧ mm_ ≤ 15) (hf1_ : f_ = (ff_ : Int) ∧ ff_ < fc0_ ∧ fc0_ ≤ fc_ ∧ fc_ ≤ 201) (ha1_ : a_ = (aa_ : Int) ∧ aa_ ≤ 63) (her_ : ∀ k9_, k9_ ≤ mm_ → er1 tb_ tn_ A_ k9_ S0_) (hA_ : a_ok tb_ tn_ A_ mm_) (hfr_ : cfr ff_ fc0_ fc_ E_ O_ (S0_.2.2.1 26 0)) (hV_ : cstk G_ V_ S0_) (hok_ : G_.length ≤ 1000) (he_ : e_ld A_ mm_ k_ aa_ d_ E_ O_ V_ = some V1_) : sm_T (mt_P sc_) 1 37 (0, [some (.inr (.inr (some (1, 0)))), some (.inl k_), some (.inl m_), some (.inl f_), some (.inl a_), some (.inl d_), none, none, none], [], S0_) (fun ro9_ => ∃ u_ S1_, ro9_ = (.inl u_, S1_, 0) ∧ vq_37 k_ m_ f_ a_ d_ tb_ tn_ A_ mm_ ff_ aa_ G_ E_ O_ V_ V1_ fc0_ fc_ S0_ u_ S1_) := by
  have hF_ : ai_fr (sx_W vw_37) S0_ S0_ := ai_fr_rf
  have tp9_ := hV_.1
  have tq9_ : S0_.1 1 0 6 ≤ 512 := (hI0_.1 1 0 6 rfl).2
  refine sm_T_go 2 (c1 := (3, [some (.inr (.inr (some (1, 0)))), some (.inl k_), some (.inl m_), some (.inl f_), some (.inl a_), some (.inl d_), none, none, none], [.inl 11, .inl k_], S0_)) rfl ?_
  refine sm_T_br (a := 1) (z := 47) rfl (fun cx1_ => ?_) (fun cx1_ => ?_)
  · have cx1_ : k_ ≠ 11 := of_decide_eq_true cx1_
    have bx2_ : 0 ≤ S0_.1 1 0 6 ∧ S0_.1 1 0 6 ≤ 512 := hI_.1 1 0 6 rfl
    refine sm_T_go 3 (c1 := (56, [some (.inr (.inr (some (1, 0)))), some (.inl k_), some (.inl m_), some (.inl f_), some (.inl a_), some (.inl d_), none, none, none], [.inl 8, .inl (S0_.1 1 0 6)], S0_)) rfl ?_
    refine sm_T_bin (w := 8 * (S0_.1 1 0 6)) rfl (bi_mul (by omega) (by omega) (by omega)) ?_
    refine sm_T_go 3 (c1 := (62, [some (.inr (.inr (some (1, 0)))), some (.inl k_), some (.inl m_), some (.inl f_), some (.inl a_), some (.inl d_), some (.inl (8 * (S0_.1 1 0 6))), none, none], [.inl 40, .inl m_], S0_)) rfl ?_
    refine sm_T_bin (w := 40 * m_) rfl (bi_mul (by omega) (by omega) (by omega)) ?_
    refine sm_T_go 1 (c1 := (65, [some (.inr (.inr (some (1, 0)))), some (.inl k_), some (.inl m_), some (.inl f_), some (.inl a_), some (.inl d_), some (.inl (8 * (S0_.1 1 0 6))), none, none], [.inl a_, .inl (40 * m_)], S0_)) rfl ?_
    refine sm_T_bin (w := 40 * m_ + a_) rfl (bi_add (by omega) (by omega) (by omega)) ?_
    refine sm_T_go 3 (c1 := (71, [some (.inr (.inr (some (1, 0)))), some (.inl k_), some (.inl m_), some (.inl f_), some (.inl a_), some (.inl d_), some (.inl (8 * (S0_.1 1 0 6))), some (.inl (40 * m_ + a_)), none], [.inl 8, .inl k_], S0_)) rfl ?_
    refine sm_T_br (a := 1) (z := 50) rfl (fun cx3_ => ?_) (fun cx3_ => ?_)
    · have cx3_ : k_ ≠ 8 := of_decide_eq_true cx3_
      refine sm_T_go 2 (c1 := (124, [some (.inr (.inr (some (1, 0)))), some (.inl k_), some (.inl m_), some (.inl f_), some (.inl a_), some (.inl d_), some (.inl (8 * (S0_.1 1 0 6))), some (.inl (40 * m_ + a_)), none], [.inl 9, .inl k_], S0_)) rfl ?_
      refine sm_T_br (a := 1) (z := 46) rfl (fun cx4_ => ?_) (fun cx4_ => ?_)
      · have cx4_ : k_ ≠ 9 := of_decide_eq_true cx4_
        obtain ⟨v5_, o_, hO_, aM_, d0_, dM_, q0_, qm_, l8_, lw_, eV_⟩ := e_ldp he_ (by omega) (by omega) (by omega)
        have A40_ := (hA_.2 mm_ (Nat.le_refl _)).1
        have w80_ : S0_.2.2.1 80 0 (40 * m_ + a_).toNat = A_.2.2.2.1 (40 * mm_ + aa_) ∧ S0_.2.2.1 81 0 (40 * m_ + a_).toNat = A_.2.2.2.2 (40 * mm_ + aa_) := by rw [show (40 * m_ + a_).toNat = 40 * mm_ + aa_ by omega]; exact ((her_ mm_ (Nat.le_refl _)).2 aa_ (by omega)).2.2
        obtain ⟨xE_, P_, xP_⟩ := id hfr_
        have yP_ := xP_ aa_ (by omega) o_ hO_
        have y2_ := yP_.2.1
        have D40_ := (hA_.2 (A_.2.2.2.2 (40 * mm_ + aa_)).toNat (by omega)).1
        have pt_ : S0_.2.2.1 26 0 (8 * (40 * f_ + a_)).toNat = (P_ aa_ : Int) := by rw [show (8 * (40 * f_ + a_)).toNat = 8 * (40 * ff_ + aa_) by omega]; exact yP_.1
        have w82_ : S0_.2.2.1 80 0 (40 * (S0_.2.2.1 81 0 (40 * m_ + a_).toNat) + d_).toNat = A_.2.2.2.1 (40 * (A_.2.2.2.2 (40 * mm_ + aa_)).toNat + d_.toNat) := by rw [w80_.2, show (40 * A_.2.2.2.2 (40 * mm_ + aa_) + d_).toNat = 40 * (A_.2.2.2.2 (40 * mm_ + aa_)).toNat + d_.toNat by omega]; exact ((her_ (A_.2.2.2.2 (40 * mm_ + aa_)).toNat (by omega)).2 d_.toNat (by omega)).2.2.1
        refine sm_T_go 11 (c1 := (194, [some (.inr (.inr (some (1, 0)))), some (.inl k_), some (.inl m_), some (.inl f_), some (.inl a_), some (.inl d_), some (.inl (8 * (S0_.1 1 0 6))), some (.inl (40 * m_ + a_)), none], [.inl (40 * m_ + a_), .inr (.inr (some (81, 0))), .inr (.inr (some (80, 0))), .inl (S0_.1 1 0 6), .inr (.inr (some (28, 0)))], S0_)) rfl ?_
        refine sm_T_iald (n := 640) rfl rfl (by omega) (by omega) ?_
        have bx5_ : 0 ≤ S0_.2.2.1 81 0 (40 * m_ + a_).toNat ∧ S0_.2.2.1 81 0 (40 * m_ + a_).toNat ≤ 255 := hI_.2 81 0 _
        refine sm_T_go 1 (c1 := (197, [some (.inr (.inr (some (1, 0)))), some (.inl k_), some (.inl m_), some (.inl f_), some (.inl a_), some (.inl d_), some (.inl (8 * (S0_.1 1 0 6))), some (.inl (40 * m_ + a_)), none], [.inl 40, .inl (S0_.2.2.1 81 0 (40 * m_ + a_).toNat), .inr (.inr (some (80, 0))), .inl (S0_.1 1 0 6), .inr (.inr (some (28, 0)))], S0_)) rfl ?_
        refine sm_T_bin (w := 40 * (S0_.2.2.1 81 0 (40 * m_ + a_).toNat)) rfl (bi_mul (by omega) (by omega) (by omega)) ?_
        refine sm_T_go 1 (c1 := (200, [some (.inr (.inr (some (1, 0)))), some (.inl k_), some (.inl m_), some (.inl f_), some (.inl a_), some (.inl d_), some (.inl (8 * (S0_.1 1 0 6))), some (.inl (40 * m_ + a_)), none], [.inl d_, .inl (40 * (S0_.2.2.1 81 0 (40 * m_ + a_).toNat)), .inr (.inr (some (80, 0))), .inl (S0_.1 1 0 6), .inr (.inr (some (28, 0)))], S0_)) rfl ?_
        refine sm_T_bin (w := 40 * (S0_.2.2.1 81 0 (40 * m_ + a_).toNat) + d_) rfl (bi_add (by omega) (by omega) (by omega)) ?_
        refine sm_T_iald (n := 640) rfl rfl (by omega) (by omega) ?_
        have bx6_ : 0 ≤ S0_.2.2.1 80 0 (40 * (S0_.2.2.1 81 0 (40 * m_ + a_).toNat) + d_).toNat ∧ S0_.2.2.1 80 0 (40 * (S0_.2.2.1 81 0 (40 * m_ + a_).toNat) + d_).toNat ≤ 8 := hI_.2 80 0 _
        refine sm_T_iast (n := 512) rfl rfl (by omega) (by omega) ?_
        have hIx7_ : gi (sm_aI S0_ 28 0 (S0_.1 1 0 6).toNat (S0_.2.2.1 80 0 (40 * (S0_.2.2.1 81 0 (40 * m_ + a_).toNat) + d_).toNat)) := gi_aI hI_ (show 0 ≤ (S0_.2.2.1 80 0 (40 * (S0_.2.2.1 81 0 (40 * m_ + a_).toNat) + d_).toNat) ∧ (S0_.2.2.1 80 0 (40 * (S0_.2.2.1 81 0 (40 * m_ + a_).toNat) + d_).toNat) ≤ 8 from ⟨by omega, by omega⟩)
        have hFx8_ : ai_fr (sx_W vw_37) S0_ (sm_aI S0_ 28 0 (S0_.1 1 0 6).toNat (S0_.2.2.1 80 0 (40 * (S0_.2.2.1 81 0 (40 * m_ + a_).toNat) + d_).toNat)) := ai_fr_tr hF_ (ai_fr_aI rfl)
        refine sm_T_go 6 (c1 := (214, [some (.inr (.inr (some (1, 0)))), some (.inl k_), some (.inl m_), some (.inl f_), some (.inl a_), some (.inl d_), some (.inl (8 * (S0_.1 1 0 6))), some (.inl (40 * m_ + a_)), none], [.inl a_, .inl f_, .inr (.inr (some (26, 0))), .inr (.inr (some (26, 0)))], sm_aI S0_ 28 0 (S0_.1 1 0 6).toNat (S0_.2.2.1 80 0 (40 * (S0_.2.2.1 81 0 (40 * m_ + a_).toNat) + d_).toNat))) rfl ?_
        refine sm_T_cal (d1 := 0) (Q1 := vq_35 f_ a_ (sm_aI S0_ 28 0 (S0_.1 1 0 6).toNat (S0_.2.2.1 80 0 (40 * (S0_.2.2.1 81 0 (40 * m_ + a_).toNat) + d_).toNat))) rfl rfl (by decide) (vc_35 f_ a_ (sm_aI S0_ 28 0 (S0_.1 1 0 6).toNat (S0_.2.2.1 80 0 (40 * (S0_.2.2.1 81 0 (40 * m_ + a_).toNat) + d_).toNat)) hIx7_ (by omega) (by omega)) (fun u_ Sx9_ px12_ => ?_)
        obtain ⟨rfl, vx14_, rfl, px12_⟩ := px12_
        have e214_ := px12_
        have pt2_ : S0_.2.2.1 26 0 vx14_.toNat = (P_ aa_ : Int) := by rw [e214_]; exact pt_
        refine sm_T_iald (n := 64320) rfl rfl (by omega) (by omega) ?_
        have bx15_ : 0 ≤ S0_.2.2.1 26 0 vx14_.toNat ∧ S0_.2.2.1 26 0 vx14_.toNat ≤ 2025 := hI_.2 26 0 _
        refine sm_T_go 1 (c1 := (220, [some (.inr (.inr (some (1, 0)))), some (.inl k_), some (.inl m_), some (.inl f_), some (.inl a_), some (.inl d_), some (.inl (8 * (S0_.1 1 0 6))), some (.inl (40 * m_ + a_)), none], [.inl d_, .inl (S0_.2.2.1 26 0 vx14_.toNat), .inr (.inr (some (26, 0)))], sm_aI S0_ 28 0 (S0_.1 1 0 6).toNat (S0_.2.2.1 80 0 (40 * (S0_.2.2.1 81 0 (40 * m_ + a_).toNat) + d_).toNat))) rfl ?_
        refine sm_T_cal (d1 := 0) (Q1 := vq_35 (S0_.2.2.1 26 0 vx14_.toNat) d_ (sm_aI S0_ 28 0 (S0_.1 1 0 6).toNat (S0_.2.2.1 80 0 (40 * (S0_.2.2.1 81 0 (40 * m_ + a_).toNat) + d_).toNat))) rfl rfl (by decide) (vc_35 (S0_.2.2.1 26 0 vx14_.toNat) d_ (sm_aI S0_ 28 0 (S0_.1 1 0 6).toNat (S0_.2.2.1 80 0 (40 * (S0_.2.2.1 81 0 (40 * m_ + a_).toNat) + d_).toNat)) hIx7_ (by omega) (by omega)) (fun u_ Sx16_ px19_ => ?_)
        obtain ⟨rfl, vx21_, rfl, px19_⟩ := px19_
        have e220_ := px19_
        refine sm_T_go 4 (c1 := (231, [some (.inr (.inr (some (1, 0)))), some (.inl k_), some (.inl m_), some (.inl f_), some (.inl a_), some (.inl d_), some (.inl (8 * (S0_.1 1 0 6))), some (.inl (40 * m_ + a_)), none], [.inl 8, .inl (8 * (S0_.1 1 0 6)), .inr (.inr (some (27, 0))), .inl vx21_, .inr (.inr (some (26, 0)))], sm_aI S0_ 28 0 (S0_.1 1 0 6).toNat (S0_.2.2.1 80 0 (40 * (S0_.2.2.1 81 0 (40 * m_ + a_).toNat) + d_).toNat))) rfl ?_
        refine sm_T_nt (u := none) (S1 := sm_acI (sm_aI S0_ 28 0 (S0_.1 1 0 6).toNat (S0_.2.2.1 80 0 (40 * (S0_.2.2.1 81 0 (40 * m_ + a_).toNat) + d_).toNat)) 26 0 27 0 vx21_.toNat (8 * (S0_.1 1 0 6)).toNat (8 : Int).toNat) rfl rfl (nt_acI (sc := sc_) (n := 64320) (n1 := 4096) rfl rfl (by omega) (by omega) (by omega) (by omega) (by omega)) ?_
        have hIx22_ : gi (sm_acI (sm_aI S0_ 28 0 (S0_.1 1 0 6).toNat (S0_.2.2.1 80 0 (40 * (S0_.2.2.1 81 0 (40 * m_ + a_).toNat) + d_).toNat)) 26 0 27 0 vx21_.toNat (8 * (S0_.1 1 0 6)).toNat (8 : Int).toNat) := gi_ac hIx7_ (by decide) (by decide)
        have hFx23_ : ai_fr (sx_W vw_37) S0_ (sm_acI (sm_aI S0_ 28 0 (S0_.1 1 0 6).toNat (S0_.2.2.1 80 0 (40 * (S0_.2.2.1 81 0 (40 * m_ + a_).toNat) + d_).toNat)) 26 0 27 0 vx21_.toNat (8 * (S0_.1 1 0 6)).toNat (8 : Int).toNat) := ai_fr_tr hFx8_ (fr_ac rfl)
        refine sm_T_go 4 (c1 := (240, [some (.inr (.inr (some (1, 0)))), some (.inl k_), some (.inl m_), some (.inl f_), some (.inl a_), some (.inl d_), some (.inl (8 * (S0_.1 1 0 6))), some (.inl (40 * m_ + a_)), none], [.inl 1, .inl (S0_.1 1 0 6), .inr (.inr (some (1, 0)))], sm_acI (sm_aI S0_ 28 0 (S0_.1 1 0 6).toNat (S0_.2.2.1 80 0 (40 * (S0_.2.2.1 81 0 (40 * m_ + a_).toNat) + d_).toNat)) 26 0 27 0 vx21_.toNat (8 * (S0_.1 1 0 6)).toNat (8 : Int).toNat)) rfl ?_
        refine sm_T_bin (w := (S0_.1 1 0 6) + 1) rfl (bi_add (by omega) (by omega) (by omega)) ?_
        have hIx24_ : gi (sm_pI (sm_acI (sm_aI S0_ 28 0 (S0_.1 1 0 6).toNat (S0_.2.2.1 80 0 (40 * (S0_.2.2.1 81 0 (40 * m_ + a_).toNat) + d_).toNat)) 26 0 27 0 vx21_.toNat (8 * (S0_.1 1 0 6)).toNat (8 : Int).toNat) 1 0 6 ((S0_.1 1 0 6) + 1)) := gi_pI hIx22_ (show 0 ≤ (S0_.1 1 0 6) + 1 ∧ (S0_.1 1 0 6) + 1 ≤ 512 from ⟨by omega, by omega⟩)
        have hFx25_ : ai_fr (sx_W vw_37) S0_ (sm_pI (sm_acI (sm_aI S0_ 28 0 (S0_.1 1 0 6).toNat (S0_.2.2.1 80 0 (40 * (S0_.2.2.1 81 0 (40 * m_ + a_).toNat) + d_).toNat)) 26 0 27 0 vx21_.toNat (8 * (S0_.1 1 0 6)).toNat (8 : Int).toNat) 1 0 6 ((S0_.1 1 0 6) + 1)) := ai_fr_tr hFx23_ (ai_fr_pI rfl)
        refine sm_T_go 1 (c1 := (244, [some (.inr (.inr (some (1, 0)))), some (.inl k_), some (.inl m_), some (.inl f_), some (.inl a_), some (.inl d_), some (.inl (8 * (S0_.1 1 0 6))), some (.inl (40 * m_ + a_)), none], [], sm_pI (sm_acI (sm_aI S0_ 28 0 (S0_.1 1 0 6).toNat (S0_.2.2.1 80 0 (40 * (S0_.2.2.1 81 0 (40 * m_ + a_).toNat) + d_).toNat)) 26 0 27 0 vx21_.toNat (8 * (S0_.1 1 0 6)).toNat (8 : Int).toNat) 1 0 6 ((S0_.1 1 0 6) + 1))) rfl ?_
        refine sm_T_rv rfl ⟨_, _, rfl, rfl, hIx24_, hFx25_, ?_⟩
        first | exact hfin | (rw [eV_]; exact ld_go hV_ (by omega) (by omega) (by omega) (by omega) l8_ (by first | (rw [e153_, show (8 * (40 * f_ + a_)).toNat = 8 * (40 * ff_ + aa_) by omega]; exact (hfr_.1 aa_ (by omega)).1) | (rw [e220_, pt2_, show (8 * (40 * (P_ aa_ : Int) + d_)).toNat = 8 * (40 * P_ aa_ + d_.toNat) by omega]; exact (yP_.2.2.2 d_.toNat (by omega)).1)))
      · have cx4_ : ¬ (k_ ≠ 9) := of_decide_eq_false cx4_
        have hk_ : k_ = 9 := by omega
        obtain ⟨v5_, aM_, l8_, lw_, eV_⟩ := e_ld9 (show e_ld A_ mm_ 9 aa_ d_ E_ O_ V_ = some V1_ by rw [← hk_]; exact he_)
        have A40_ := (hA_.2 mm_ (Nat.le_refl _)).1
        have w80_ : S0_.2.2.1 80 0 (40 * m_ + a_).toNat = A_.2.2.2.1 (40 * mm_ + aa_) ∧ S0_.2.2.1 81 0 (40 * m_ + a_).toNat = A_.2.2.2.2 (40 * mm_ + aa_) := by rw [show (40 * m_ + a_).toNat = 40 * mm_ + aa_ by omega]; exact ((her_ mm_ (Nat.le_refl _)).2 aa_ (by omega)).2.2
        refine sm_T_go 8 (c1 := (144, [some (.inr (.inr (some (1, 0)))), some (.inl k_), some (.inl m_), some (.inl f_), some (.inl a_), some (.inl d_), some (.inl (8 * (S0_.1 1 0 6))), some (.inl (40 * m_ + a_)), none], [.inl (40 * m_ + a_), .inr (.inr (some (80, 0))), .inl (S0_.1 1 0 6), .inr (.inr (some (28, 0)))], S0_)) rfl ?_
        refine sm_T_iald (n := 640) rfl rfl (by omega) (by omega) ?_
        have bx26_ : 0 ≤ S0_.2.2.1 80 0 (40 * m_ + a_).toNat ∧ S0_.2.2.1 80 0 (40 * m_ + a_).toNat ≤ 8 := hI_.2 80 0 _
        refine sm_T_iast (n := 512) rfl rfl (by omega) (by omega) ?_
        have hIx27_ : gi (sm_aI S0_ 28 0 (S0_.1 1 0 6).toNat (S0_.2.2.1 80 0 (40 * m_ + a_).toNat)) := gi_aI hI_ (show 0 ≤ (S0_.2.2.1 80 0 (40 * m_ + a_).toNat) ∧ (S0_.2.2.1 80 0 (40 * m_ + a_).toNat) ≤ 8 from ⟨by omega, by omega⟩)
        have hFx28_ : ai_fr (sx_W vw_37) S0_ (sm_aI S0_ 28 0 (S0_.1 1 0 6).toNat (S0_.2.2.1 80 0 (40 * m_ + a_).toNat)) := ai_fr_tr hF_ (ai_fr_aI rfl)
        refine sm_T_go 4 (c1 := (153, [some (.inr (.inr (some (1, 0)))), some (.inl k_), some (.inl m_), some (.inl f_), some (.inl a_), some (.inl d_), some (.inl (8 * (S0_.1 1 0 6))), some (.inl (40 * m_ + a_)), none], [.inl a_, .inl f_, .inr (.inr (some (26, 0)))], sm_aI S0_ 28 0 (S0_.1 1 0 6).toNat (S0_.2.2.1 80 0 (40 * m_ + a_).toNat))) rfl ?_
        refine sm_T_cal (d1 := 0) (Q1 := vq_35 f_ a_ (sm_aI S0_ 28 0 (S0_.1 1 0 6).toNat (S0_.2.2.1 80 0 (40 * m_ + a_).toNat))) rfl rfl (by decide) (vc_35 f_ a_ (sm_aI S0_ 28 0 (S0_.1 1 0 6).toNat (S0_.2.2.1 80 0 (40 * m_ + a_).toNat)) hIx27_ (by omega) (by omega)) (fun u_ Sx29_ px32_ => ?_)
        obtain ⟨rfl, vx34_, rfl, px32_⟩ := px32_
        have e153_ := px32_
        refine sm_T_go 4 (c1 := (164, [some (.inr (.inr (some (1, 0)))), some (.inl k_), some (.inl m_), some (.inl f_), some (.inl a_), some (.inl d_), some (.inl (8 * (S0_.1 1 0 6))), some (.inl (40 * m_ + a_)), none], [.inl 8, .inl (8 * (S0_.1 1 0 6)), .inr (.inr (some (27, 0))), .inl vx34_, .inr (.inr (some (26, 0)))], sm_aI S0_ 28 0 (S0_.1 1 0 6).toNat (S0_.2.2.1 80 0 (40 * m_ + a_).toNat))) rfl ?_
        refine sm_T_nt (u := none) (S1 := sm_acI (sm_aI S0_ 28 0 (S0_.1 1 0 6).toNat (S0_.2.2.1 80 0 (40 * m_ + a_).toNat)) 26 0 27 0 vx34_.toNat (8 * (S0_.1 1 0 6)).toNat (8 : Int).toNat) rfl rfl (nt_acI (sc := sc_) (n := 64320) (n1 := 4096) rfl rfl (by omega) (by omega) (by omega) (by omega) (by omega)) ?_
        have hIx35_ : gi (sm_acI (sm_aI S0_ 28 0 (S0_.1 1 0 6).toNat (S0_.2.2.1 80 0 (40 * m_ + a_).toNat)) 26 0 27 0 vx34_.toNat (8 * (S0_.1 1 0 6)).toNat (8 : Int).toNat) := gi_ac hIx27_ (by decide) (by decide)
        have hFx36_ : ai_fr (sx_W vw_37) S0_ (sm_acI (sm_aI S0_ 28 0 (S0_.1 1 0 6).toNat (S0_.2.2.1 80 0 (40 * m_ + a_).toNat)) 26 0 27 0 vx34_.toNat (8 * (S0_.1 1 0 6)).toNat (8 : Int).toNat) := ai_fr_tr hFx28_ (fr_ac rfl)
        refine sm_T_go 5 (c1 := (240, [some (.inr (.inr (some (1, 0)))), some (.inl k_), some (.inl m_), some (.inl f_), some (.inl a_), some (.inl d_), some (.inl (8 * (S0_.1 1 0 6))), some (.inl (40 * m_ + a_)), none], [.inl 1, .inl (S0_.1 1 0 6), .inr (.inr (some (1, 0)))], sm_acI (sm_aI S0_ 28 0 (S0_.1 1 0 6).toNat (S0_.2.2.1 80 0 (40 * m_ + a_).toNat)) 26 0 27 0 vx34_.toNat (8 * (S0_.1 1 0 6)).toNat (8 : Int).toNat)) rfl ?_
        refine sm_T_bin (w := (S0_.1 1 0 6) + 1) rfl (bi_add (by omega) (by omega) (by omega)) ?_
        have hIx37_ : gi (sm_pI (sm_acI (sm_aI S0_ 28 0 (S0_.1 1 0 6).toNat (S0_.2.2.1 80 0 (40 * m_ + a_).toNat)) 26 0 27 0 vx34_.toNat (8 * (S0_.1 1 0 6)).toNat (8 : Int).toNat) 1 0 6 ((S0_.1 1 0 6) + 1)) := gi_pI hIx35_ (show 0 ≤ (S0_.1 1 0 6) + 1 ∧ (S0_.1 1 0 6) + 1 ≤ 512 from ⟨by omega, by omega⟩)
        have hFx38_ : ai_fr (sx_W vw_37) S0_ (sm_pI (sm_acI (sm_aI S0_ 28 0 (S0_.1 1 0 6).toNat (S0_.2.2.1 80 0 (40 * m_ + a_).toNat)) 26 0 27 0 vx34_.toNat (8 * (S0_.1 1 0 6)).toNat (8 : Int).toNat) 1 0 6 ((S0_.1 1 0 6) + 1)) := ai_fr_tr hFx36_ (ai_fr_pI rfl)
        refine sm_T_go 1 (c1 := (244, [some (.inr (.inr (some (1, 0)))), some (.inl k_), some (.inl m_), some (.inl f_), some (.inl a_), some (.inl d_), some (.inl (8 * (S0_.1 1 0 6))), some (.inl (40 * m_ + a_)), none], [], sm_pI (sm_acI (sm_aI S0_ 28 0 (S0_.1 1 0 6).toNat (S0_.2.2.1 80 0 (40 * m_ + a_).toNat)) 26 0 27 0 vx34_.toNat (8 * (S0_.1 1 0 6)).toNat (8 : Int).toNat) 1 0 6 ((S0_.1 1 0 6) + 1))) rfl ?_
        refine sm_T_rv rfl ⟨_, _, rfl, rfl, hIx37_, hFx38_, ?_⟩
        first | exact hfin | (rw [eV_]; exact ld_go hV_ (by omega) (by omega) (by omega) (by omega) l8_ (by first | (rw [e153_, show (8 * (40 * f_ + a_)).toNat = 8 * (40 * ff_ + aa_) by omega]; exact (hfr_.1 aa_ (by omega)).1) | (rw [e220_, pt2_, show (8 * (40 * (P_ aa_ : Int) + d_)).toNat = 8 * (40 * P_ aa_ + d_.toNat) by omega]; exact (yP_.2.2.2 d_.toNat (by omega)).1)))
    · have cx3_ : ¬ (k_ ≠ 8) := of_decide_eq_false cx3_
      have hk_ : k_ = 8 := by omega
      obtain ⟨v5_, ha8_, d0_, eV_⟩ := e_ld8 (show e_ld A_ mm_ 8 aa_ d_ E_ O_ V_ = some V1_ by rw [← hk_]; exact he_)
      refine sm_T_go 5 (c1 := (84, [some (.inr (.inr (some (1, 0)))), some (.inl k_), some (.inl m_), some (.inl f_), some (.inl a_), some (.inl d_), some (.inl (8 * (S0_.1 1 0 6))), some (.inl (40 * m_ + a_)), none], [.inl a_, .inl (S0_.1 1 0 6), .inr (.inr (some (28, 0)))], S0_)) rfl ?_
      refine sm_T_iast (n := 512) rfl rfl (by omega) (by omega) ?_
      have hIx39_ : gi (sm_aI S0_ 28 0 (S0_.1 1 0 6).toNat a_) := gi_aI hI_ (show 0 ≤ a_ ∧ a_ ≤ 8 from ⟨by omega, by omega⟩)
      have hFx40_ : ai_fr (sx_W vw_37) S0_ (sm_aI S0_ 28 0 (S0_.1 1 0 6).toNat a_) := ai_fr_tr hF_ (ai_fr_aI rfl)
      refine sm_T_go 2 (c1 := (88, [some (.inr (.inr (some (1, 0)))), some (.inl k_), some (.inl m_), some (.inl f_), some (.inl a_), some (.inl d_), some (.inl (8 * (S0_.1 1 0 6))), some (.inl (40 * m_ + a_)), some (.inl 0)], [], sm_aI S0_ 28 0 (S0_.1 1 0 6).toNat a_)) rfl ?_
      refine (vl_37 k_ m_ f_ a_ d_ tb_ tn_ A_ mm_ ff_ aa_ G_ E_ O_ V_ V1_ fc0_ fc_ S0_ hI0_ hk0_ hd0_ hm1_ hf1_ ha1_ her_ hA_ hfr_ hV_ hok_ he_ _) (8 * (S0_.1 1 0 6)) (40 * m_ + a_) 0 (sm_aI S0_ 28 0 (S0_.1 1 0 6).toNat a_) hIx39_ hFx40_ ⟨?_, ?_, ?_, ?_, ?_, ?_, trivial⟩ (Nat.lt_succ_self _)
      · exact hk_
      · omega
      · exact hV_.1
      · (intro j9_; rw [rd_eq, show (S0_.1 1 0 6).toNat = V_.length by omega])
      · (intro k9_ z9_ e9_; simp [c_bt] at e9_)
      · (intro j9_ hj_; exact rd_ne (by decide))
  · have cx1_ : ¬ (k_ ≠ 11) := of_decide_eq_false cx1_
    have hk_ : k_ = 11 := by omega
    obtain ⟨x_, l_, rfl, ax_, eV_⟩ := e_ld11 (show e_ld A_ mm_ 11 aa_ d_ E_ O_ V_ = some V1_ by rw [← hk_]; exact he_)
    have x8_ : x_.length ≤ 8 := hV_.2.2.1.2
    have tp_ : S0_.1 1 0 6 = (l_.length : Int) + 1 := by rw [hV_.1]; simp only [List.length_cons]; push_cast; omega
    have bx41_ : 0 ≤ S0_.1 1 0 6 ∧ S0_.1 1 0 6 ≤ 512 := hI_.1 1 0 6 rfl
    refine sm_T_go 5 (c1 := (15, [some (.inr (.inr (some (1, 0)))), some (.inl k_), some (.inl m_), some (.inl f_), some (.inl a_), some (.inl d_), none, none, none], [.inl 1, .inl (S0_.1 1 0 6), .inr (.inr (some (27, 0)))], S0_)) rfl ?_
    refine sm_T_bin (w := (S0_.1 1 0 6) - 1) rfl (bi_sub (by omega) (by omega) (by omega)) ?_
    refine sm_T_go 1 (c1 := (18, [some (.inr (.inr (some (1, 0)))), some (.inl k_), some (.inl m_), some (.inl f_), some (.inl a_), some (.inl d_), none, none, none], [.inl 8, .inl ((S0_.1 1 0 6) - 1), .inr (.inr (some (27, 0)))], S0_)) rfl ?_
    refine sm_T_bin (w := 8 * (S0_.1 1 0 6) - 8) rfl (bi_mul (by omega) (by omega) (by omega)) ?_
    refine sm_T_go 5 (c1 := (28, [some (.inr (.inr (some (1, 0)))), some (.inl k_), some (.inl m_), some (.inl f_), some (.inl a_), some (.inl d_), none, none, none], [.inl 1, .inl (S0_.1 1 0 6), .inr (.inr (some (27, 0))), .inl (8 * (S0_.1 1 0 6) - 8), .inr (.inr (some (27, 0)))], S0_)) rfl ?_
    refine sm_T_bin (w := (S0_.1 1 0 6) - 1) rfl (bi_sub (by omega) (by omega) (by omega)) ?_
    refine sm_T_go 1 (c1 := (31, [some (.inr (.inr (some (1, 0)))), some (.inl k_), some (.inl m_), some (.inl f_), some (.inl a_), some (.inl d_), none, none, none], [.inl 8, .inl ((S0_.1 1 0 6) - 1), .inr (.inr (some (27, 0))), .inl (8 * (S0_.1 1 0 6) - 8), .inr (.inr (some (27, 0)))], S0_)) rfl ?_
    refine sm_T_bin (w := 8 * (S0_.1 1 0 6) - 8) rfl (bi_mul (by omega) (by omega) (by omega)) ?_
    refine sm_T_go 1 (c1 := (34, [some (.inr (.inr (some (1, 0)))), some (.inl k_), some (.inl m_), some (.inl f_), some (.inl a_), some (.inl d_), none, none, none], [.inl a_, .inl (8 * (S0_.1 1 0 6) - 8), .inr (.inr (some (27, 0))), .inl (8 * (S0_.1 1 0 6) - 8), .inr (.inr (some (27, 0)))], S0_)) rfl ?_
    refine sm_T_bin (w := 8 * (S0_.1 1 0 6) + a_ - 8) rfl (bi_add (by omega) (by omega) (by omega)) ?_
    refine sm_T_iald (n := 4096) rfl rfl (by omega) (by omega) ?_
    have bx42_ : 0 ≤ S0_.2.2.1 27 0 (8 * (S0_.1 1 0 6) + a_ - 8).toNat ∧ S0_.2.2.1 27 0 (8 * (S0_.1 1 0 6) + a_ - 8).toNat ≤ 2025 := hI_.2 27 0 _
    refine sm_T_iast (n := 4096) rfl rfl (by omega) (by omega) ?_
    have hIx43_ : gi (sm_aI S0_ 27 0 (8 * (S0_.1 1 0 6) - 8).toNat (S0_.2.2.1 27 0 (8 * (S0_.1 1 0 6) + a_ - 8).toNat)) := gi_aI hI_ (show 0 ≤ (S0_.2.2.1 27 0 (8 * (S0_.1 1 0 6) + a_ - 8).toNat) ∧ (S0_.2.2.1 27 0 (8 * (S0_.1 1 0 6) + a_ - 8).toNat) ≤ 2025 from ⟨by omega, by omega⟩)
    have hFx44_ : ai_fr (sx_W vw_37) S0_ (sm_aI S0_ 27 0 (8 * (S0_.1 1 0 6) - 8).toNat (S0_.2.2.1 27 0 (8 * (S0_.1 1 0 6) + a_ - 8).toNat)) := ai_fr_tr hF_ (ai_fr_aI rfl)
    refine sm_T_go 5 (c1 := (46, [some (.inr (.inr (some (1, 0)))), some (.inl k_), some (.inl m_), some (.inl f_), some (.inl a_), some (.inl d_), none, none, none], [.inl 1, .inl (S0_.1 1 0 6), .inr (.inr (some (28, 0)))], sm_aI S0_ 27 0 (8 * (S0_.1 1 0 6) - 8).toNat (S0_.2.2.1 27 0 (8 * (S0_.1 1 0 6) + a_ - 8).toNat))) rfl ?_
    refine sm_T_bin (w := (S0_.1 1 0 6) - 1) rfl (bi_sub (by omega) (by omega) (by omega)) ?_
    refine sm_T_go 1 (c1 := (48, [some (.inr (.inr (some (1, 0)))), some (.inl k_), some (.inl m_), some (.inl f_), some (.inl a_), some (.inl d_), none, none, none], [.inl 1, .inl ((S0_.1 1 0 6) - 1), .inr (.inr (some (28, 0)))], sm_aI S0_ 27 0 (8 * (S0_.1 1 0 6) - 8).toNat (S0_.2.2.1 27 0 (8 * (S0_.1 1 0 6) + a_ - 8).toNat))) rfl ?_
    refine sm_T_iast (n := 512) rfl rfl (by omega) (by omega) ?_
    have hIx45_ : gi (sm_aI (sm_aI S0_ 27 0 (8 * (S0_.1 1 0 6) - 8).toNat (S0_.2.2.1 27 0 (8 * (S0_.1 1 0 6) + a_ - 8).toNat)) 28 0 ((S0_.1 1 0 6) - 1).toNat 1) := gi_aI hIx43_ (show 0 ≤ 1 ∧ 1 ≤ 8 from ⟨by omega, by omega⟩)
    have hFx46_ : ai_fr (sx_W vw_37) S0_ (sm_aI (sm_aI S0_ 27 0 (8 * (S0_.1 1 0 6) - 8).toNat (S0_.2.2.1 27 0 (8 * (S0_.1 1 0 6) + a_ - 8).toNat)) 28 0 ((S0_.1 1 0 6) - 1).toNat 1) := ai_fr_tr hFx44_ (ai_fr_aI rfl)
    refine sm_T_rv rfl ⟨_, _, rfl, rfl, hIx45_, hFx46_, ?_⟩
    rw [eV_]
    refine ⟨by show S0_.1 1 0 6 = _; rw [tp_]; simp only [List.length_cons]; push_cast; rfl, svl_tp hV_.2.2.2.2 (fun z_ => z_) (fun j_ hj_ => ?_) (fun j_ hj_ => ?_) ?_ (by simp) (fun z_ => ?_)⟩
    · rw [rd_ne (by decide), rd_eq, if_neg (by omega)]
    · rw [rd_eq, if_neg (by omega), rd_ne (by decide)]
    · rw [rd_eq, if_pos (by omega)]; rfl
    · intro k9_ z9_ e9_; have k0_ : k9_ = 0 := (by cases k9_ with | zero => rfl | succ k9_ => simp at e9_); subst k0_; rw [rd_ne (by decide), rd_eq, if_pos (by omega)]; have q9_ := Option.some.inj e9_; rw [← q9_, show (8 * S0_.1 1 0 6 + a_ - 8).toNat = 8 * l_.length + aa_ by omega]; exact rwv_g (hV_.2.2.2.1 z_) ax_
end
/-! 99.zb6a -/
section
/-! the class: stores; written by wip/p55/gen/vg -/

/-! stores -/
/-- the_ beginning takes one_ more bit_ -/
theorem bg_all : ∀ r_ : Fin 6, ∀ x_ : Fin 64, ∀ b_ : Fin 2, (x_ : Nat) < 2 ^ (r_ : Nat) → 0 ≤ i_or ((x_ : Nat) : Int) (i_shl ((b_ : Nat) : Int) ((r_ : Nat) : Int)) ∧ i_or ((x_ : Nat) : Int) (i_shl ((b_ : Nat) : Int) ((r_ : Nat) : Int)) < 2 ^ ((r_ : Nat) + 1) := by decide +kernel
theorem bg_up {x_ b_ : Int} {r_ : Nat} (h0_ : 0 ≤ x_) (h1_ : x_ < 2 ^ r_) (hb_ : 0 ≤ b_ ∧ b_ ≤ 1) (hr_ : r_ ≤ 5) : 0 ≤ i_or x_ (i_shl b_ (r_ : Int)) ∧ i_or x_ (i_shl b_ (r_ : Int)) < 2 ^ (r_ + 1) := by
  obtain ⟨x_, rfl⟩ := Int.eq_ofNat_of_zero_le h0_
  obtain ⟨b_, rfl⟩ := Int.eq_ofNat_of_zero_le hb_.1
  have hx_ : x_ < 2 ^ r_ := by exact_mod_cast h1_
  have h64_ : 2 ^ r_ ≤ 2 ^ 5 := Nat.pow_le_pow_right (by decide) hr_
  exact bg_all ⟨r_, by omega⟩ ⟨x_, by omega⟩ ⟨b_, by omega⟩ hx_
/-- the_ next values are_ literals of_ the_ graph -/
def nxb (dd_ R_ : Nat) (S_ : sm_S) : Prop := ∀ k_, k_ < R_ → 0 ≤ S_.2.2.1 46 (0 + dd_) k_ ∧ S_.2.2.1 46 (0 + dd_) k_ < 2 * S_.1 3 dd_ 4
def cxb (dd_ R_ : Nat) (S_ : sm_S) : Prop := (0 ≤ S_.1 3 dd_ 5 ∧ S_.1 3 dd_ 5 < 2 ^ R_) ∧ nxb dd_ R_ S_
def cxe (dd_ I_ R_ : Nat) (S_ : sm_S) : Prop := S_.1 3 dd_ 1 = (I_ : Int) ∧ cxb dd_ R_ S_
theorem nxb_up {dd_ R_ : Nat} {S_ S'_ : sm_S} (h_ : nxb dd_ R_ S_) (e1_ : S'_.2.2.1 46 (0 + dd_) = S_.2.2.1 46 (0 + dd_)) (e2_ : S_.1 3 dd_ 4 ≤ S'_.1 3 dd_ 4) : nxb dd_ R_ S'_ := fun k_ hk_ => by
  have q_ := h_ k_ hk_
  rw [e1_]
  omega
theorem nxb_cp {dd_ R_ p_ q_ n_ : Nat} {st_ : Nat → Int} {S_ S'_ : sm_S} {x_ : List Int} (h_ : nxb dd_ R_ S_) (e4_ : S'_.1 3 dd_ 4 = S_.1 3 dd_ 4) (e46_ : S'_.2.2.1 46 (0 + dd_) = sm_cp st_ (S_.2.2.1 46 (0 + dd_)) p_ q_ n_) (hx_ : rwv st_ p_ x_) (hn_ : n_ = x_.length) (hl_ : ∀ z_, z_ ∈ x_ → 0 ≤ z_ ∧ z_ < 2 * S_.1 3 dd_ 4) : nxb dd_ R_ S'_ := fun k_ hk_ => by
  rw [e46_, e4_]
  unfold sm_cp
  split
  · rename_i w_
    have l9_ : k_ - q_ < x_.length := by omega
    have e_ := hx_ (k_ - q_) x_[k_ - q_] (List.getElem?_eq_getElem l9_)
    have e2_ := hl_ x_[k_ - q_] (List.getElem_mem l9_)
    first | (rw [e_]; exact e2_) | (rw [show p_ + k_ - q_ = p_ + (k_ - q_) by omega, e_]; exact e2_)
  · exact h_ k_ hk_
theorem cxe_fr {w_ : sx_Wl} {dd_ I_ R_ : Nat} {S_ S'_ : sm_S} (h_ : cxe dd_ I_ R_ S_) (g_ : ai_fr (sx_W w_) S_ S'_) (h1_ : (sx_W w_).1 3 1 = false) (h2_ : (sx_W w_).1 3 5 = false) (h3_ : (sx_W w_).1 3 4 = false) (h4_ : (sx_W w_).2.1 46 = false) : cxe dd_ I_ R_ S'_ := by
  unfold cxe cxb
  rw [g_.1 3 dd_ 1 h1_, g_.1 3 dd_ 5 h2_]
  exact ⟨h_.1, h_.2.1, nxb_up h_.2.2 (fr_arr g_ h4_) (by rw [g_.1 3 dd_ 4 h3_]; exact Int.le_refl _)⟩
theorem cgl_n {dd_ F_ : Nat} {G_ : pGr} {S_ : sm_S} (h_ : cgl dd_ F_ G_ S_) (hl_ : G_.length ≤ 1000) : S_.1 3 dd_ 4 = ((F_ + G_.length : Nat) : Int) := by
  obtain ⟨G1_, x_, y_⟩ := h_
  rcases y_ with y_ | y_
  · rw [← y_.2.1]; exact x_.2.2.2.1
  · omega
/-- the_ state of_ an_ execution in the_ class -/
def cxs (dd_ F_ I_ f_ fc0_ : Nat) (s_ : gS) (S_ : sm_S) : Prop := cgl dd_ F_ s_.1.1 S_ ∧ S_.1 1 0 9 = (s_.1.2.1 : Int) ∧ S_.1 1 0 3 = (s_.1.2.2 : Int) ∧ s_.1.2.2 ≤ 201 ∧ f_ < fc0_ ∧ fc0_ ≤ s_.1.2.2 ∧ cfr f_ fc0_ s_.1.2.2 s_.2.1 s_.2.2.1 (S_.2.2.1 26 0) ∧ cstk s_.1.1 s_.2.2.2 S_ ∧ cxe dd_ I_ s_.1.2.1 S_
theorem cgl_b {dd_ F_ : Nat} {G_ : pGr} {S_ : sm_S} (h_ : cgl dd_ F_ G_ S_) : (F_ : Int) = 1 + S_.1 3 dd_ 1 + S_.1 3 dd_ 2 ∧ (1 ≤ F_ ∧ F_ ≤ 13) := by
  obtain ⟨G1_, x_, _⟩ := h_
  exact ⟨x_.2.1, x_.2.2.1⟩
def fun_ (f_ fc0_ : Nat) (g_ h_ : Nat → Int) : Prop := ∀ j_, j_ < 8 * (40 * fc0_) → j_ < 8 * (40 * f_) ∨ 8 * (40 * f_) + 320 ≤ j_ → h_ j_ = g_ j_
theorem cfr_cg {f_ fc0_ fc_ : Nat} {E_ : gE} {O_ : gO} {g_ h_ : Nat → Int} (x_ : cfr f_ fc0_ fc_ E_ O_ g_) (e_ : ∀ j_, h_ j_ = g_ j_) : cfr f_ fc0_ fc_ E_ O_ h_ := by
  rw [show h_ = g_ from funext e_]
  exact x_
theorem svl_pop {ok_ : Prop} {st_ wd_ st'_ wd'_ : Nat → Int} {x_ : List Int} {l_ : gV} (h_ : svl ok_ st_ wd_ (x_ :: l_)) (e1_ : ∀ j_, st'_ j_ = st_ j_) (e2_ : ∀ j_, wd'_ j_ = wd_ j_) : svl ok_ st'_ wd'_ l_ := by
  rw [show st'_ = st_ from funext e1_, show wd'_ = wd_ from funext e2_]
  exact h_.2.2.2
end
/-! 99.zb7a -/
section
/-! the class: executing; written by wip/p55/gen/vg -/

/-! executing -/
theorem rwv_tl {st_ : Nat → Int} {p_ : Nat} {w_ : Int} {c_ : List Int} (h_ : rwv st_ p_ (w_ :: c_)) : rwv st_ (p_ + 1) c_ := by
  intro k_ z_ e_
  rw [show p_ + 1 + k_ = p_ + (k_ + 1) by omega]
  exact h_ (k_ + 1) z_ (by rw [List.getElem?_cons_succ]; exact e_)
def ccd (C_ : Nat → List Int) (mm_ : Nat) (S_ : sm_S) : Prop := ∀ k_, k_ ≤ mm_ → ∃ p_ : Nat, S_.2.2.1 76 0 k_ = (p_ : Int) ∧ S_.2.2.1 76 0 (k_ + 1) = ((p_ + (C_ k_).length : Nat) : Int) ∧ p_ + (C_ k_).length ≤ 65536 ∧ rwv (S_.2.2.1 74 0) p_ (C_ k_)
theorem ccd_fr {w_ : sx_Wl} {C_ : Nat → List Int} {m_ k_ : Nat} {S_ S'_ : sm_S} (h_ : ccd C_ m_ S_) (hk_ : k_ ≤ m_) (g_ : ai_fr (sx_W w_) S_ S'_) (h1_ : (sx_W w_).2.1 74 = false) (h2_ : (sx_W w_).2.1 76 = false) : ccd C_ k_ S'_ := by
  intro j_ hj_
  rw [fr_arr (t := 76) g_ h2_, fr_arr (t := 74) g_ h1_]
  exact h_ j_ (by omega)
theorem cgl_big {dd_ F_ : Nat} {G_ H_ : pGr} {S_ : sm_S} (h_ : cgl dd_ F_ G_ S_) (h1_ : 1000 < G_.length) (h2_ : 1000 < H_.length) : cgl dd_ F_ H_ S_ := by
  obtain ⟨G1_, x_, y_⟩ := h_
  rcases y_ with y_ | y_
  · omega
  · exact ⟨G1_, x_, Or.inr ⟨h2_, y_.2⟩⟩
def cxo (dd_ f_ : Nat) (q_ : gQ) (r_ : gQ × gE) (S_ : sm_S) : Prop := cxb dd_ r_.1.2.1 S_ ∧ S_.1 1 0 9 = (r_.1.2.1 : Int) ∧ S_.1 1 0 3 = (r_.1.2.2 : Int) ∧ r_.1.2.2 ≤ 201 ∧ q_.2.2 ≤ r_.1.2.2 ∧ S_.1 1 0 6 = 0 ∧ ∀ s_, s_ < 40 → rwv (S_.2.2.1 26 0) (8 * (40 * f_ + s_)) (r_.2 s_) ∧ (r_.2 s_).length ≤ 8
theorem cxs_cl {dd_ F_ I_ p_ : Nat} {s_ : gS} {o_ : Nat → List Int} {S_ : sm_S} {f_ fc0_ a_ : Nat} (h_ : cxs dd_ F_ I_ f_ fc0_ s_ S_) (hV_ : s_.2.2.2 = []) (ha_ : a_ < 40) (hO_ : s_.2.2.1 a_ = some o_) (hp_ : S_.2.2.1 26 0 (8 * (40 * f_ + a_)) = (p_ : Int)) : cxs dd_ F_ I_ p_ s_.1.2.2 (s_.1, o_, fun _ => none, []) S_ ∧ fc0_ ≤ p_ ∧ p_ < s_.1.2.2 := by
  obtain ⟨x1_, x2_, x3_, x4_, x5_, x6_, ⟨xE_, P_, xP_⟩, x8_, x9_⟩ := h_
  have y_ := xP_ a_ ha_ o_ hO_
  have py_ : p_ = P_ a_ := by have := y_.1; omega
  subst py_
  rw [hV_] at x8_
  exact ⟨⟨x1_, x2_, x3_, x4_, y_.2.1.2, Nat.le_refl _, ⟨fun t_ ht_ => y_.2.2.2 t_ ht_, fun _ => 0, fun a1_ _ o1_ ho1_ => by cases ho1_⟩, x8_, x9_⟩, y_.2.1⟩
theorem cxs_ba {dd_ F_ I_ p_ : Nat} {s_ : gS} {z_ : gQ × gE} {o_ : Nat → List Int} {S_ S1_ : sm_S} {f_ fc0_ a_ : Nat} (h_ : cxs dd_ F_ I_ f_ fc0_ s_ S_) (ha_ : a_ < 40) (hO_ : s_.2.2.1 a_ = some o_) (hp_ : S_.2.2.1 26 0 (8 * (40 * f_ + a_)) = (p_ : Int)) (h1_ : cgl dd_ F_ z_.1.1 S1_) (h2_ : cxo dd_ p_ s_.1 z_ S1_) (h3_ : fun_ p_ s_.1.2.2 (S_.2.2.1 26 0) (S1_.2.2.1 26 0)) (h4_ : S1_.1 3 dd_ 1 = S_.1 3 dd_ 1) : cxs dd_ F_ I_ f_ fc0_ (z_.1, s_.2.1, up1 s_.2.2.1 a_ (some z_.2), []) S1_ := by
  obtain ⟨x1_, x2_, x3_, x4_, x5_, x6_, x7_, x8_, x9_⟩ := h_
  obtain ⟨y0_, y1_, y2_, y3_, y4_, y5_, y6_⟩ := h2_
  exact ⟨h1_, y1_, y2_, y3_, x5_, Nat.le_trans x6_ y4_, cfr_cl x7_ x5_ ha_ hO_ hp_ y4_ y6_ h3_ x6_, ⟨y5_, trivial⟩, ⟨h4_.trans x9_.1, y0_⟩⟩
theorem fun_tr {f_ fc0_ : Nat} {g_ h_ k_ : Nat → Int} (h1_ : fun_ f_ fc0_ g_ h_) (h2_ : fun_ f_ fc0_ h_ k_) : fun_ f_ fc0_ g_ k_ := fun j_ q1_ q2_ => (h2_ j_ q1_ q2_).trans (h1_ j_ q1_ q2_)
end
/-! 99.zc1a -/
section
/-! the reference: AND, OR, XOR; written by wip/p55/gen/vg -/
/-! M_.and -/
def vw_328 : sx_Wl := ([(13, 37)], [140, 141, 142, 143], [])
def vq_328 (x_ : Int) (y_ : Int) (F_ : Nat) (G_ : pGr) (A_ : Int) (B_ : Int) (S0_ : sm_S) (u_ : Option sm_V) (S1_ : sm_S) : Prop := ∃ v_ : Int, u_ = some (.inl v_) ∧ gi S1_ ∧ ai_fr (sx_W vw_328) S0_ S1_ ∧ (rgl F_ (g_an F_ G_ A_ B_).2 S1_ ∧ (imq ((g_an F_ G_ A_ B_).2.length ≤ 1001) (v_ = (g_an F_ G_ A_ B_).1)) ∧ (0 ≤ v_ ∧ v_ ≤ 2047))
set_option maxHeartbeats 400000 in
set_option maxRecDepth 20000 in
theorem vl_328 {sc_ : Nat × (Nat → Int)} (x_ : Int) (y_ : Int) (F_ : Nat) (G_ : pGr) (A_ : Int) (B_ : Int) (S0_ : sm_S) (hg_ : rgl F_ G_ S0_) (hx_ : 0 ≤ x_ ∧ x_ ≤ 2047) (hy_ : 0 ≤ y_ ∧ y_ ≤ 2047) (hab_ : imq (G_.length ≤ 1001) (x_ = A_ ∧ y_ = B_)) : ∀ nn_ : Nat, (∀ (a_ : Int) (b_ : Int) (c_ : Int) (n_ : Int) (S_ : sm_S), gi S_ → ai_fr (sx_W vw_328) S0_ S_ → ((S_ = S0_) ∧ (rcb F_ (F_ + ((S_.1 13 0 37) - (S_.1 13 0 38)).toNat) n_) ∧ (c_ = (1021 * a_ + b_) % 4096) ∧ ((0 ≤ a_ ∧ a_ ≤ 2047) ∧ 0 ≤ b_ ∧ b_ ≤ 2047) ∧ ((x_ < y_ ∧ a_ = x_ ∧ b_ = y_) ∨ (y_ ≤ x_ ∧ a_ = y_ ∧ b_ = x_)) ∧ (¬ (a_ = 0 ∨ a_ = i_xor b_ 1)) ∧ (¬ (a_ = 1 ∨ a_ = b_)) ∧ (∀ t_ : Int, (S_.2.2.1 140 0 t_.toNat = a_ ∧ S_.2.2.1 141 0 t_.toNat = b_ ∧ (F_ : Int) ≤ t_ ∧ t_ < (S_.1 13 0 37)) → ∃ f_, rch (S_.2.2.1 143 0) f_ n_ t_) ∧ True) → (n_.toNat) < nn_ → sm_T (mt_P sc_) 0 328 (74, [some (.inr (.inr (some (13, 0)))), some (.inl x_), some (.inl y_), some (.inl a_), some (.inl b_), some (.inl c_), some (.inl n_)], [], S_) (fun ro9_ => ∃ u_ S1_, ro9_ = (.inl u_, S1_, 0) ∧ vq_328 x_ y_ F_ G_ A_ B_ S0_ u_ S1_)) := by
  intro nn_
  induction nn_ with
  | zero => exact fun _ _ _ _ _ _ _ _ h_ => absurd h_ (Nat.not_lt_zero _)
  | succ nn_ ih_ =>
    rintro a_ b_ c_ n_ S_ hI_ hF_ ⟨hS_, hn2_, hc_, hbd_, hmn_, hn0_, hn1_, h2_, -⟩ hm_
    have hgS_ : rgl F_ G_ S_ := by rw [hS_]; exact hg_
    obtain ⟨G1_, hG1_, hG2_⟩ := id hgS_
    obtain ⟨x1_, x2_, x4_, x5_, x6_, x7_, x8_⟩ := id hG1_
    refine sm_T_go 1 (c1 := (76, [some (.inr (.inr (some (13, 0)))), some (.inl x_), some (.inl y_), some (.inl a_), some (.inl b_), some (.inl c_), some (.inl n_)], [.inl n_], S_)) rfl ?_
    refine sm_T_b0 (a := 5) (z := 43) rfl (fun cx1_ => ?_) (fun cx1_ => ?_)
    · have cx1_ : n_ ≤ 0 := of_decide_eq_true cx1_
      have n0_ : n_ = 0 := by rcases hn2_ with z_ | z_; exact z_; omega
      have fd_ : g_fd a_ b_ G1_ 0 = none := by cases e9_ : g_fd a_ b_ G1_ 0 with | none => rfl | some k9_ => (exfalso; have q9_ := g_fd_b e9_; have q8_ := q9_.2.2; rw [Nat.sub_zero] at q8_; have q7_ := x6_ k9_ a_ b_ q8_; obtain ⟨f9_, q6_⟩ := h2_ ((F_ + k9_ : Nat) : Int) (by rw [Int.toNat_natCast]; exact ⟨q7_.1, q7_.2, by omega, by have := q9_.2.1; omega⟩); rw [n0_] at q6_; have := rch_0 q6_; omega)
      have bx2_ : 0 ≤ S_.1 13 0 37 ∧ S_.1 13 0 37 ≤ 1014 := hI_.1 13 0 37 rfl
      have bx3_ : 0 ≤ S_.1 13 0 38 ∧ S_.1 13 0 38 ≤ 19 := hI_.1 13 0 38 rfl
      refine sm_T_go 4 (c1 := (127, [some (.inr (.inr (some (13, 0)))), some (.inl x_), some (.inl y_), some (.inl a_), some (.inl b_), some (.inl c_), some (.inl n_)], [.inl (S_.1 13 0 38), .inl (S_.1 13 0 37)], S_)) rfl ?_
      refine sm_T_bin (w := (S_.1 13 0 37) - (S_.1 13 0 38)) rfl (bi_sub (by omega) (by omega) (by omega)) ?_
      refine sm_T_go 1 (c1 := (131, [some (.inr (.inr (some (13, 0)))), some (.inl x_), some (.inl y_), some (.inl a_), some (.inl b_), some (.inl c_), some (.inl n_)], [.inl 1000, .inl ((S_.1 13 0 37) - (S_.1 13 0 38))], S_)) rfl ?_
      refine sm_T_br (a := 5) (z := 5) rfl (fun cx4_ => ?_) (fun cx4_ => ?_)
      · have cx4_ : (S_.1 13 0 37) - (S_.1 13 0 38) ≤ 1000 := of_decide_eq_true cx4_
        refine sm_T_go 5 (c1 := (145, [some (.inr (.inr (some (13, 0)))), some (.inl x_), some (.inl y_), some (.inl a_), some (.inl b_), some (.inl c_), some (.inl n_)], [.inl a_, .inl (S_.1 13 0 37), .inr (.inr (some (140, 0)))], S_)) rfl ?_
        refine sm_T_iast (n := 2048) rfl rfl (by omega) (by omega) ?_
        have hIx5_ : gi (sm_aI S_ 140 0 (S_.1 13 0 37).toNat a_) := gi_aI hI_ (show 0 ≤ a_ ∧ a_ ≤ 2047 from ⟨by omega, by omega⟩)
        have hFx6_ : ai_fr (sx_W vw_328) S0_ (sm_aI S_ 140 0 (S_.1 13 0 37).toNat a_) := ai_fr_tr hF_ (ai_fr_aI rfl)
        refine sm_T_go 5 (c1 := (156, [some (.inr (.inr (some (13, 0)))), some (.inl x_), some (.inl y_), some (.inl a_), some (.inl b_), some (.inl c_), some (.inl n_)], [.inl b_, .inl (S_.1 13 0 37), .inr (.inr (some (141, 0)))], sm_aI S_ 140 0 (S_.1 13 0 37).toNat a_)) rfl ?_
        refine sm_T_iast (n := 2048) rfl rfl (by omega) (by omega) ?_
        have hIx7_ : gi (sm_aI (sm_aI S_ 140 0 (S_.1 13 0 37).toNat a_) 141 0 (S_.1 13 0 37).toNat b_) := gi_aI hIx5_ (show 0 ≤ b_ ∧ b_ ≤ 2047 from ⟨by omega, by omega⟩)
        have hFx8_ : ai_fr (sx_W vw_328) S0_ (sm_aI (sm_aI S_ 140 0 (S_.1 13 0 37).toNat a_) 141 0 (S_.1 13 0 37).toNat b_) := ai_fr_tr hFx6_ (ai_fr_aI rfl)
        refine sm_T_go 7 (c1 := (171, [some (.inr (.inr (some (13, 0)))), some (.inl x_), some (.inl y_), some (.inl a_), some (.inl b_), some (.inl c_), some (.inl n_)], [.inl c_, .inr (.inr (some (142, 0))), .inl (S_.1 13 0 37), .inr (.inr (some (143, 0)))], sm_aI (sm_aI S_ 140 0 (S_.1 13 0 37).toNat a_) 141 0 (S_.1 13 0 37).toNat b_)) rfl ?_
        refine sm_T_iald (n := 4096) rfl rfl (by omega) (by omega) ?_
        have bx9_ : 0 ≤ S_.2.2.1 142 0 c_.toNat ∧ S_.2.2.1 142 0 c_.toNat ≤ 1023 := hI_.2 142 0 _
        refine sm_T_go 0 (c1 := (172, [some (.inr (.inr (some (13, 0)))), some (.inl x_), some (.inl y_), some (.inl a_), some (.inl b_), some (.inl c_), some (.inl n_)], [.inl (S_.2.2.1 142 0 c_.toNat), .inl (S_.1 13 0 37), .inr (.inr (some (143, 0)))], sm_aI (sm_aI S_ 140 0 (S_.1 13 0 37).toNat a_) 141 0 (S_.1 13 0 37).toNat b_)) rfl ?_
        refine sm_T_iast (n := 2048) rfl rfl (by omega) (by omega) ?_
        have hIx10_ : gi (sm_aI (sm_aI (sm_aI S_ 140 0 (S_.1 13 0 37).toNat a_) 141 0 (S_.1 13 0 37).toNat b_) 143 0 (S_.1 13 0 37).toNat (S_.2.2.1 142 0 c_.toNat)) := gi_aI hIx7_ (show 0 ≤ (S_.2.2.1 142 0 c_.toNat) ∧ (S_.2.2.1 142 0 c_.toNat) ≤ 1023 from ⟨by omega, by omega⟩)
        have hFx11_ : ai_fr (sx_W vw_328) S0_ (sm_aI (sm_aI (sm_aI S_ 140 0 (S_.1 13 0 37).toNat a_) 141 0 (S_.1 13 0 37).toNat b_) 143 0 (S_.1 13 0 37).toNat (S_.2.2.1 142 0 c_.toNat)) := ai_fr_tr hFx8_ (ai_fr_aI rfl)
        refine sm_T_go 5 (c1 := (183, [some (.inr (.inr (some (13, 0)))), some (.inl x_), some (.inl y_), some (.inl a_), some (.inl b_), some (.inl c_), some (.inl n_)], [.inl (S_.1 13 0 37), .inl c_, .inr (.inr (some (142, 0)))], sm_aI (sm_aI (sm_aI S_ 140 0 (S_.1 13 0 37).toNat a_) 141 0 (S_.1 13 0 37).toNat b_) 143 0 (S_.1 13 0 37).toNat (S_.2.2.1 142 0 c_.toNat))) rfl ?_
        refine sm_T_iast (n := 4096) rfl rfl (by omega) (by omega) ?_
        have hIx12_ : gi (sm_aI (sm_aI (sm_aI (sm_aI S_ 140 0 (S_.1 13 0 37).toNat a_) 141 0 (S_.1 13 0 37).toNat b_) 143 0 (S_.1 13 0 37).toNat (S_.2.2.1 142 0 c_.toNat)) 142 0 c_.toNat (S_.1 13 0 37)) := gi_aI hIx10_ (show 0 ≤ (S_.1 13 0 37) ∧ (S_.1 13 0 37) ≤ 1023 from ⟨by omega, by omega⟩)
        have hFx13_ : ai_fr (sx_W vw_328) S0_ (sm_aI (sm_aI (sm_aI (sm_aI S_ 140 0 (S_.1 13 0 37).toNat a_) 141 0 (S_.1 13 0 37).toNat b_) 143 0 (S_.1 13 0 37).toNat (S_.2.2.1 142 0 c_.toNat)) 142 0 c_.toNat (S_.1 13 0 37)) := ai_fr_tr hFx11_ (ai_fr_aI rfl)
        refine sm_T_go 4 (c1 := (190, [some (.inr (.inr (some (13, 0)))), some (.inl x_), some (.inl y_), some (.inl a_), some (.inl b_), some (.inl c_), some (.inl n_)], [.inl 1, .inl (S_.1 13 0 37), .inr (.inr (some (13, 0)))], sm_aI (sm_aI (sm_aI (sm_aI S_ 140 0 (S_.1 13 0 37).toNat a_) 141 0 (S_.1 13 0 37).toNat b_) 143 0 (S_.1 13 0 37).toNat (S_.2.2.1 142 0 c_.toNat)) 142 0 c_.toNat (S_.1 13 0 37))) rfl ?_
        refine sm_T_bin (w := (S_.1 13 0 37) + 1) rfl (bi_add (by omega) (by omega) (by omega)) ?_
        have hIx14_ : gi (sm_pI (sm_aI (sm_aI (sm_aI (sm_aI S_ 140 0 (S_.1 13 0 37).toNat a_) 141 0 (S_.1 13 0 37).toNat b_) 143 0 (S_.1 13 0 37).toNat (S_.2.2.1 142 0 c_.toNat)) 142 0 c_.toNat (S_.1 13 0 37)) 13 0 37 ((S_.1 13 0 37) + 1)) := gi_pI hIx12_ (show 0 ≤ (S_.1 13 0 37) + 1 ∧ (S_.1 13 0 37) + 1 ≤ 1014 from ⟨by omega, by omega⟩)
        have hFx15_ : ai_fr (sx_W vw_328) S0_ (sm_pI (sm_aI (sm_aI (sm_aI (sm_aI S_ 140 0 (S_.1 13 0 37).toNat a_) 141 0 (S_.1 13 0 37).toNat b_) 143 0 (S_.1 13 0 37).toNat (S_.2.2.1 142 0 c_.toNat)) 142 0 c_.toNat (S_.1 13 0 37)) 13 0 37 ((S_.1 13 0 37) + 1)) := ai_fr_tr hFx13_ (ai_fr_pI rfl)
        refine sm_T_go 4 (c1 := (199, [some (.inr (.inr (some (13, 0)))), some (.inl x_), some (.inl y_), some (.inl a_), some (.inl b_), some (.inl c_), some (.inl n_)], [.inl ((S_.1 13 0 37) + 1), .inl 2], sm_pI (sm_aI (sm_aI (sm_aI (sm_aI S_ 140 0 (S_.1 13 0 37).toNat a_) 141 0 (S_.1 13 0 37).toNat b_) 143 0 (S_.1 13 0 37).toNat (S_.2.2.1 142 0 c_.toNat)) 142 0 c_.toNat (S_.1 13 0 37)) 13 0 37 ((S_.1 13 0 37) + 1))) rfl ?_
        refine sm_T_bin (w := 2 * (S_.1 13 0 37) + 2) rfl (bi_mul (by omega) (by omega) (by omega)) ?_
        refine sm_T_go 1 (c1 := (201, [some (.inr (.inr (some (13, 0)))), some (.inl x_), some (.inl y_), some (.inl a_), some (.inl b_), some (.inl c_), some (.inl n_)], [.inl 2, .inl (2 * (S_.1 13 0 37) + 2)], sm_pI (sm_aI (sm_aI (sm_aI (sm_aI S_ 140 0 (S_.1 13 0 37).toNat a_) 141 0 (S_.1 13 0 37).toNat b_) 143 0 (S_.1 13 0 37).toNat (S_.2.2.1 142 0 c_.toNat)) 142 0 c_.toNat (S_.1 13 0 37)) 13 0 37 ((S_.1 13 0 37) + 1))) rfl ?_
        refine sm_T_bin (w := 2 * (S_.1 13 0 37)) rfl (bi_sub (by omega) (by omega) (by omega)) ?_
        refine sm_T_ri rfl ⟨_, _, rfl, _, rfl, hIx14_, hFx15_, ?_⟩
        have ea_ : g_an F_ G1_ x_ y_ = (2 * ((F_ + G1_.length : Nat) : Int), G1_ ++ [(a_, b_)]) := by rw [g_an_mn hmn_, g_a2_n hn0_ hn1_ fd_]
        have nn9_ : (S_.1 13 0 37).toNat = F_ + G1_.length := by omega
        have hc9_ : hsr a_ b_ = c_.toNat := by unfold hsr; omega
        have hr_ := ar_go (v_ := 2 * S_.1 13 0 37) (S1_ := (sm_pI (sm_aI (sm_aI (sm_aI (sm_aI S_ 140 0 (S_.1 13 0 37).toNat a_) 141 0 (S_.1 13 0 37).toNat b_) 143 0 (S_.1 13 0 37).toNat (S_.2.2.1 142 0 c_.toNat)) 142 0 c_.toNat (S_.1 13 0 37)) 13 0 37 ((S_.1 13 0 37) + 1))) hG1_ hG2_ hab_ (Or.inl ⟨by rw [ea_]; exact rgx_up hG1_ (by omega) fd_ (by (try simp only [rd_eq, rd_ne, rf_eq, rf_nk, rf_nt, rd_fa, rd_af, rd_fl, rd_al, rd_lf, rd_la, rd_leq, rd_lne, rd_fr, rd_ar, ne_eq, Nat.reduceEqDiff, not_false_eq_true])) (by (try simp only [rd_eq, rd_ne, rf_eq, rf_nk, rf_nt, rd_fa, rd_af, rd_fl, rd_al, rd_lf, rd_la, rd_leq, rd_lne, rd_fr, rd_ar, ne_eq, Nat.reduceEqDiff, not_false_eq_true])) (fun k_ => by (try simp only [rd_eq, rd_ne, rf_eq, rf_nk, rf_nt, rd_fa, rd_af, rd_fl, rd_al, rd_lf, rd_la, rd_leq, rd_lne, rd_fr, rd_ar, ne_eq, Nat.reduceEqDiff, not_false_eq_true]); rw [hc9_, x4_]) (fun k_ => by (try simp only [rd_eq, rd_ne, rf_eq, rf_nk, rf_nt, rd_fa, rd_af, rd_fl, rd_al, rd_lf, rd_la, rd_leq, rd_lne, rd_fr, rd_ar, ne_eq, Nat.reduceEqDiff, not_false_eq_true]); rw [hc9_, nn9_]) (fun k_ => by (try simp only [rd_eq, rd_ne, rf_eq, rf_nk, rf_nt, rd_fa, rd_af, rd_fl, rd_al, rd_lf, rd_la, rd_leq, rd_lne, rd_fr, rd_ar, ne_eq, Nat.reduceEqDiff, not_false_eq_true]); rw [nn9_]) (fun k_ => by (try simp only [rd_eq, rd_ne, rf_eq, rf_nk, rf_nt, rd_fa, rd_af, rd_fl, rd_al, rd_lf, rd_la, rd_leq, rd_lne, rd_fr, rd_ar, ne_eq, Nat.reduceEqDiff, not_false_eq_true]); rw [nn9_]), by rw [ea_]; omega⟩)
        first | exact ⟨hr_.1, hr_.2, by omega⟩ | (refine ⟨hr_.1, fun z_ => ?_, by omega⟩; rw [← hr_.2 z_]; omega)
      · have cx4_ : ¬ ((S_.1 13 0 37) - (S_.1 13 0 38) ≤ 1000) := of_decide_eq_false cx4_
        refine sm_T_go 1 (c1 := (135, [some (.inr (.inr (some (13, 0)))), some (.inl x_), some (.inl y_), some (.inl a_), some (.inl b_), some (.inl c_), some (.inl n_)], [.inl 0], S_)) rfl ?_
        refine sm_T_ri rfl ⟨_, _, rfl, _, rfl, hI_, hF_, ?_⟩
        have ea_ : g_an F_ G1_ x_ y_ = (2 * ((F_ + G1_.length : Nat) : Int), G1_ ++ [(a_, b_)]) := by rw [g_an_mn hmn_, g_a2_n hn0_ hn1_ fd_]
        have hr_ := ar_go (v_ := 0) (S1_ := S_) hG1_ hG2_ hab_ (Or.inr ⟨by omega, by rw [ea_]; simp only [List.length_append, List.length_cons, List.length_nil]; omega, hG1_⟩)
        exact ⟨hr_.1, hr_.2, by omega⟩
    · have cx1_ : ¬ (n_ ≤ 0) := of_decide_eq_false cx1_
      have hn3_ : (F_ : Int) ≤ n_ ∧ n_ < S_.1 13 0 37 := by rcases hn2_ with z_ | z_; omega; omega
      obtain ⟨⟨px_, py_⟩, ep_⟩ : ∃ p_, G1_[(n_ - F_).toNat]? = some p_ := ⟨_, List.getElem?_eq_getElem (by omega)⟩
      have ep2_ := x6_ _ px_ py_ ep_
      rw [show F_ + (n_ - F_).toNat = n_.toNat by omega] at ep2_
      refine sm_T_go 3 (c1 := (85, [some (.inr (.inr (some (13, 0)))), some (.inl x_), some (.inl y_), some (.inl a_), some (.inl b_), some (.inl c_), some (.inl n_)], [.inl n_, .inr (.inr (some (140, 0)))], S_)) rfl ?_
      refine sm_T_iald (n := 2048) rfl rfl (by omega) (by omega) ?_
      have bx16_ : 0 ≤ S_.2.2.1 140 0 n_.toNat ∧ S_.2.2.1 140 0 n_.toNat ≤ 2047 := hI_.2 140 0 _
      refine sm_T_go 1 (c1 := (87, [some (.inr (.inr (some (13, 0)))), some (.inl x_), some (.inl y_), some (.inl a_), some (.inl b_), some (.inl c_), some (.inl n_)], [.inl a_, .inl (S_.2.2.1 140 0 n_.toNat)], S_)) rfl ?_
      refine sm_T_br (a := 1) (z := 20) rfl (fun cx17_ => ?_) (fun cx17_ => ?_)
      · have cx17_ : (S_.2.2.1 140 0 n_.toNat) ≠ a_ := of_decide_eq_true cx17_
        refine sm_T_go 3 (c1 := (113, [some (.inr (.inr (some (13, 0)))), some (.inl x_), some (.inl y_), some (.inl a_), some (.inl b_), some (.inl c_), some (.inl n_)], [.inl n_, .inr (.inr (some (143, 0)))], S_)) rfl ?_
        refine sm_T_iald (n := 2048) rfl rfl (by omega) (by omega) ?_
        have bx18_ : 0 ≤ S_.2.2.1 143 0 n_.toNat ∧ S_.2.2.1 143 0 n_.toNat ≤ 1023 := hI_.2 143 0 _
        refine sm_T_go 2 (c1 := (74, [some (.inr (.inr (some (13, 0)))), some (.inl x_), some (.inl y_), some (.inl a_), some (.inl b_), some (.inl c_), some (.inl (S_.2.2.1 143 0 n_.toNat))], [], S_)) rfl ?_
        refine ih_ a_ b_ c_ (S_.2.2.1 143 0 n_.toNat) S_ hI_ hF_ ⟨?_, ?_, ?_, ?_, ?_, ?_, ?_, ?_, trivial⟩ ?_
        · exact hS_
        · have q_ := x8_.2.1 (n_ - F_).toNat (by omega)
          rw [show F_ + (n_ - F_).toNat = n_.toNat by omega] at q_
          rcases q_ with q_ | q_
          · exact Or.inl q_
          · exact Or.inr (by omega)
        · exact hc_
        · exact hbd_
        · exact hmn_
        · exact hn0_
        · exact hn1_
        · intro t_ q_
          obtain ⟨f_, q5_⟩ := h2_ t_ q_
          by_cases e9_ : n_ = t_
          · exfalso; subst e9_; omega
          · exact (rch_s q5_ e9_).2
        · (have q_ := x8_.2.1 (n_ - F_).toNat (by omega)); rw [show F_ + (n_ - F_).toNat = n_.toNat by omega] at q_; rcases q_ with q_ | q_; omega; omega
      · have cx17_ : ¬ ((S_.2.2.1 140 0 n_.toNat) ≠ a_) := of_decide_eq_false cx17_
        refine sm_T_go 3 (c1 := (96, [some (.inr (.inr (some (13, 0)))), some (.inl x_), some (.inl y_), some (.inl a_), some (.inl b_), some (.inl c_), some (.inl n_)], [.inl n_, .inr (.inr (some (141, 0)))], S_)) rfl ?_
        refine sm_T_iald (n := 2048) rfl rfl (by omega) (by omega) ?_
        have bx19_ : 0 ≤ S_.2.2.1 141 0 n_.toNat ∧ S_.2.2.1 141 0 n_.toNat ≤ 2047 := hI_.2 141 0 _
        refine sm_T_go 1 (c1 := (99, [some (.inr (.inr (some (13, 0)))), some (.inl x_), some (.inl y_), some (.inl a_), some (.inl b_), some (.inl c_), some (.inl n_)], [.inl b_, .inl (S_.2.2.1 141 0 n_.toNat)], S_)) rfl ?_
        refine sm_T_br (a := 1) (z := 8) rfl (fun cx20_ => ?_) (fun cx20_ => ?_)
        · have cx20_ : (S_.2.2.1 141 0 n_.toNat) ≠ b_ := of_decide_eq_true cx20_
          refine sm_T_go 3 (c1 := (113, [some (.inr (.inr (some (13, 0)))), some (.inl x_), some (.inl y_), some (.inl a_), some (.inl b_), some (.inl c_), some (.inl n_)], [.inl n_, .inr (.inr (some (143, 0)))], S_)) rfl ?_
          refine sm_T_iald (n := 2048) rfl rfl (by omega) (by omega) ?_
          have bx21_ : 0 ≤ S_.2.2.1 143 0 n_.toNat ∧ S_.2.2.1 143 0 n_.toNat ≤ 1023 := hI_.2 143 0 _
          refine sm_T_go 2 (c1 := (74, [some (.inr (.inr (some (13, 0)))), some (.inl x_), some (.inl y_), some (.inl a_), some (.inl b_), some (.inl c_), some (.inl (S_.2.2.1 143 0 n_.toNat))], [], S_)) rfl ?_
          refine ih_ a_ b_ c_ (S_.2.2.1 143 0 n_.toNat) S_ hI_ hF_ ⟨?_, ?_, ?_, ?_, ?_, ?_, ?_, ?_, trivial⟩ ?_
          · exact hS_
          · have q_ := x8_.2.1 (n_ - F_).toNat (by omega)
            rw [show F_ + (n_ - F_).toNat = n_.toNat by omega] at q_
            rcases q_ with q_ | q_
            · exact Or.inl q_
            · exact Or.inr (by omega)
          · exact hc_
          · exact hbd_
          · exact hmn_
          · exact hn0_
          · exact hn1_
          · intro t_ q_
            obtain ⟨f_, q5_⟩ := h2_ t_ q_
            by_cases e9_ : n_ = t_
            · exfalso; subst e9_; omega
            · exact (rch_s q5_ e9_).2
          · (have q_ := x8_.2.1 (n_ - F_).toNat (by omega)); rw [show F_ + (n_ - F_).toNat = n_.toNat by omega] at q_; rcases q_ with q_ | q_; omega; omega
        · have cx20_ : ¬ ((S_.2.2.1 141 0 n_.toNat) ≠ b_) := of_decide_eq_false cx20_
          refine sm_T_go 2 (c1 := (105, [some (.inr (.inr (some (13, 0)))), some (.inl x_), some (.inl y_), some (.inl a_), some (.inl b_), some (.inl c_), some (.inl n_)], [.inl n_, .inl 2], S_)) rfl ?_
          refine sm_T_bin (w := 2 * n_) rfl (bi_mul (by omega) (by omega) (by omega)) ?_
          refine sm_T_ri rfl ⟨_, _, rfl, _, rfl, hI_, hF_, ?_⟩
          have epp_ : G1_[(n_ - F_).toNat]? = some (a_, b_) := by rw [ep_]; have q1_ : px_ = a_ := (by rw [← ep2_.1]; omega); have q2_ : py_ = b_ := (by rw [← ep2_.2]; omega); rw [q1_, q2_]
          have ea_ : g_an F_ G1_ x_ y_ = (2 * ((F_ + (n_ - F_).toNat : Nat) : Int), G1_) := by rw [g_an_mn hmn_, g_a2_f hn0_ hn1_ (g_fd_s x7_ epp_)]
          have hr_ := ar_go (v_ := 2 * n_) (S1_ := S_) hG1_ hG2_ hab_ (Or.inl ⟨by rw [ea_]; exact hG1_, by rw [ea_]; omega⟩)
          exact ⟨hr_.1, hr_.2, by omega⟩
set_option maxHeartbeats 400000 in
set_option maxRecDepth 20000 in
theorem vc_328 {sc_ : Nat × (Nat → Int)} (x_ : Int) (y_ : Int) (F_ : Nat) (G_ : pGr) (A_ : Int) (B_ : Int) (S0_ : sm_S) (hI_ : gi S0_) (hg_ : rgl F_ G_ S0_) (hx_ : 0 ≤ x_ ∧ x_ ≤ 2047) (hy_ : 0 ≤ y_ ∧ y_ ≤ 2047) (hab_ : imq (G_.length ≤ 1001) (x_ = A_ ∧ y_ = B_)) : sm_T (mt_P sc_) 0 328 (0, [some (.inr (.inr (some (13, 0)))), some (.inl x_), some (.inl y_), none, none, none, none], [], S0_) (fun ro9_ => ∃ u_ S1_, ro9_ = (.inl u_, S1_, 0) ∧ vq_328 x_ y_ F_ G_ A_ B_ S0_ u_ S1_) := by
  have hF_ : ai_fr (sx_W vw_328) S0_ S0_ := ai_fr_rf
  obtain ⟨G1_, hG1_, hG2_⟩ := id hg_
  obtain ⟨x1_, x2_, x4_, x5_, x6_, x7_, x8_⟩ := id hG1_
  refine sm_T_go 2 (c1 := (2, [some (.inr (.inr (some (13, 0)))), some (.inl x_), some (.inl y_), none, none, none, none], [.inl y_, .inl x_], S0_)) rfl ?_
  refine sm_T_br (a := 3) (z := 7) rfl (fun cx1_ => ?_) (fun cx1_ => ?_)
  · have cx1_ : y_ ≤ x_ := of_decide_eq_true cx1_
    refine sm_T_go 4 (c1 := (13, [some (.inr (.inr (some (13, 0)))), some (.inl x_), some (.inl y_), some (.inl y_), none, none, none], [.inl y_, .inl x_], S0_)) rfl ?_
    refine sm_T_br (a := 3) (z := 7) rfl (fun cx2_ => ?_) (fun cx2_ => ?_)
    · have cx2_ : y_ ≤ x_ := of_decide_eq_true cx2_
      refine sm_T_go 3 (c1 := (24, [some (.inr (.inr (some (13, 0)))), some (.inl x_), some (.inl y_), some (.inl y_), some (.inl x_), none, none], [.inl y_], S0_)) rfl ?_
      refine sm_T_b0 (a := 0) (z := 11) rfl (fun cx3_ => ?_) (fun cx3_ => ?_)
      · have cx3_ : y_ = 0 := of_decide_eq_true cx3_
        refine sm_T_go 1 (c1 := (36, [some (.inr (.inr (some (13, 0)))), some (.inl x_), some (.inl y_), some (.inl y_), some (.inl x_), none, none], [.inl 0], S0_)) rfl ?_
        refine sm_T_ri rfl ⟨_, _, rfl, _, rfl, hI_, hF_, ?_⟩
        have ea_ : g_an F_ G1_ x_ y_ = (0, G1_) := by first | (rw [g_an_mn (a_ := x_) (b_ := y_) (by omega)]; unfold g_a2; rw [if_pos (by omega)]) | (rw [g_an_mn (a_ := y_) (b_ := x_) (by omega)]; unfold g_a2; rw [if_pos (by omega)])
        have hr_ := ar_go (v_ := 0) hG1_ hG2_ hab_ (Or.inl ⟨by rw [ea_]; exact hG1_, by rw [ea_]⟩)
        exact ⟨hr_.1, hr_.2, by omega⟩
      · have cx3_ : ¬ (y_ = 0) := of_decide_eq_false cx3_
        refine sm_T_go 3 (c1 := (31, [some (.inr (.inr (some (13, 0)))), some (.inl x_), some (.inl y_), some (.inl y_), some (.inl x_), none, none], [.inl 1, .inl x_, .inl y_], S0_)) rfl ?_
        refine sm_T_bin (w := (i_xor x_ 1)) rfl rfl ?_
        have bx4_ := i_x1 (x_ := x_) (by omega)
        refine sm_T_br (a := 1) (z := 5) rfl (fun cx5_ => ?_) (fun cx5_ => ?_)
        · have cx5_ : y_ ≠ (i_xor x_ 1) := of_decide_eq_true cx5_
          refine sm_T_go 2 (c1 := (39, [some (.inr (.inr (some (13, 0)))), some (.inl x_), some (.inl y_), some (.inl y_), some (.inl x_), none, none], [.inl 1, .inl y_], S0_)) rfl ?_
          refine sm_T_br (a := 0) (z := 9) rfl (fun cx6_ => ?_) (fun cx6_ => ?_)
          · have cx6_ : y_ = 1 := of_decide_eq_true cx6_
            refine sm_T_go 1 (c1 := (50, [some (.inr (.inr (some (13, 0)))), some (.inl x_), some (.inl y_), some (.inl y_), some (.inl x_), none, none], [.inl x_], S0_)) rfl ?_
            refine sm_T_ri rfl ⟨_, _, rfl, _, rfl, hI_, hF_, ?_⟩
            first | (have ea_ : g_an F_ G1_ x_ y_ = (y_, G1_) := (by rw [g_an_mn (a_ := x_) (b_ := y_) (by omega)]; unfold g_a2; rw [if_neg (by omega), if_pos (by omega)]); have hr_ := ar_go (v_ := y_) hG1_ hG2_ hab_ (Or.inl ⟨by rw [ea_]; exact hG1_, by rw [ea_]⟩); exact ⟨hr_.1, hr_.2, by omega⟩) | (have ea_ : g_an F_ G1_ x_ y_ = (x_, G1_) := (by rw [g_an_mn (a_ := y_) (b_ := x_) (by omega)]; unfold g_a2; rw [if_neg (by omega), if_pos (by omega)]); have hr_ := ar_go (v_ := x_) hG1_ hG2_ hab_ (Or.inl ⟨by rw [ea_]; exact hG1_, by rw [ea_]⟩); exact ⟨hr_.1, hr_.2, by omega⟩)
          · have cx6_ : ¬ (y_ = 1) := of_decide_eq_false cx6_
            refine sm_T_go 2 (c1 := (45, [some (.inr (.inr (some (13, 0)))), some (.inl x_), some (.inl y_), some (.inl y_), some (.inl x_), none, none], [.inl x_, .inl y_], S0_)) rfl ?_
            refine sm_T_br (a := 1) (z := 6) rfl (fun cx7_ => ?_) (fun cx7_ => ?_)
            · have cx7_ : y_ ≠ x_ := of_decide_eq_true cx7_
              refine sm_T_go 2 (c1 := (55, [some (.inr (.inr (some (13, 0)))), some (.inl x_), some (.inl y_), some (.inl y_), some (.inl x_), none, none], [.inl y_, .inl 1021], S0_)) rfl ?_
              refine sm_T_bin (w := 1021 * y_) rfl (bi_mul (by omega) (by omega) (by omega)) ?_
              refine sm_T_go 1 (c1 := (58, [some (.inr (.inr (some (13, 0)))), some (.inl x_), some (.inl y_), some (.inl y_), some (.inl x_), none, none], [.inl x_, .inl (1021 * y_)], S0_)) rfl ?_
              refine sm_T_bin (w := 1021 * y_ + x_) rfl (bi_add (by omega) (by omega) (by omega)) ?_
              refine sm_T_go 1 (c1 := (62, [some (.inr (.inr (some (13, 0)))), some (.inl x_), some (.inl y_), some (.inl y_), some (.inl x_), none, none], [.inl 4095, .inl (1021 * y_ + x_)], S0_)) rfl ?_
              refine sm_T_bin (w := ((1021 * y_ + x_) % 4096)) rfl (bi_msk (k := 12) (by decide)) ?_
              refine sm_T_go 4 (c1 := (71, [some (.inr (.inr (some (13, 0)))), some (.inl x_), some (.inl y_), some (.inl y_), some (.inl x_), some (.inl ((1021 * y_ + x_) % 4096)), none], [.inl ((1021 * y_ + x_) % 4096), .inr (.inr (some (142, 0)))], S0_)) rfl ?_
              refine sm_T_iald (n := 4096) rfl rfl (by omega) (by omega) ?_
              have bx8_ : 0 ≤ S0_.2.2.1 142 0 ((1021 * y_ + x_) % 4096).toNat ∧ S0_.2.2.1 142 0 ((1021 * y_ + x_) % 4096).toNat ≤ 1023 := hI_.2 142 0 _
              refine sm_T_go 1 (c1 := (74, [some (.inr (.inr (some (13, 0)))), some (.inl x_), some (.inl y_), some (.inl y_), some (.inl x_), some (.inl ((1021 * y_ + x_) % 4096)), some (.inl (S0_.2.2.1 142 0 ((1021 * y_ + x_) % 4096).toNat))], [], S0_)) rfl ?_
              refine (vl_328 x_ y_ F_ G_ A_ B_ S0_ hg_ hx_ hy_ hab_ _) y_ x_ ((1021 * y_ + x_) % 4096) (S0_.2.2.1 142 0 ((1021 * y_ + x_) % 4096).toNat) S0_ hI_ hF_ ⟨?_, ?_, ?_, ?_, ?_, ?_, ?_, ?_, trivial⟩ (Nat.lt_succ_self _)
              · rfl
              · rw [show F_ + (S0_.1 13 0 37 - S0_.1 13 0 38).toNat = F_ + G1_.length by omega]
                first | exact x8_.1 ((1021 * x_ + y_) % 4096).toNat (by omega) | exact x8_.1 ((1021 * y_ + x_) % 4096).toNat (by omega)
              · rfl
              · omega
              · omega
              · omega
              · omega
              · intro t_ ⟨q1_, q2_, q3_, q4_⟩
                obtain ⟨⟨px_, py_⟩, ep_⟩ : ∃ p_, G1_[(t_ - F_).toNat]? = some p_ := ⟨_, List.getElem?_eq_getElem (by omega)⟩
                have ep2_ := x6_ _ px_ py_ ep_
                rw [show F_ + (t_ - F_).toNat = t_.toNat by omega] at ep2_
                obtain ⟨f_, q5_⟩ := x8_.2.2 _ px_ py_ ep_
                refine ⟨f_, ?_⟩
                rw [← ep2_.1, ← ep2_.2, q1_, q2_, show ((F_ + (t_ - F_).toNat : Nat) : Int) = t_ by omega] at q5_
                exact q5_
            · have cx7_ : ¬ (y_ ≠ x_) := of_decide_eq_false cx7_
              refine sm_T_go 1 (c1 := (50, [some (.inr (.inr (some (13, 0)))), some (.inl x_), some (.inl y_), some (.inl y_), some (.inl x_), none, none], [.inl x_], S0_)) rfl ?_
              refine sm_T_ri rfl ⟨_, _, rfl, _, rfl, hI_, hF_, ?_⟩
              first | (have ea_ : g_an F_ G1_ x_ y_ = (y_, G1_) := (by rw [g_an_mn (a_ := x_) (b_ := y_) (by omega)]; unfold g_a2; rw [if_neg (by omega), if_pos (by omega)]); have hr_ := ar_go (v_ := y_) hG1_ hG2_ hab_ (Or.inl ⟨by rw [ea_]; exact hG1_, by rw [ea_]⟩); exact ⟨hr_.1, hr_.2, by omega⟩) | (have ea_ : g_an F_ G1_ x_ y_ = (x_, G1_) := (by rw [g_an_mn (a_ := y_) (b_ := x_) (by omega)]; unfold g_a2; rw [if_neg (by omega), if_pos (by omega)]); have hr_ := ar_go (v_ := x_) hG1_ hG2_ hab_ (Or.inl ⟨by rw [ea_]; exact hG1_, by rw [ea_]⟩); exact ⟨hr_.1, hr_.2, by omega⟩)
        · have cx5_ : ¬ (y_ ≠ (i_xor x_ 1)) := of_decide_eq_false cx5_
          refine sm_T_go 1 (c1 := (36, [some (.inr (.inr (some (13, 0)))), some (.inl x_), some (.inl y_), some (.inl y_), some (.inl x_), none, none], [.inl 0], S0_)) rfl ?_
          refine sm_T_ri rfl ⟨_, _, rfl, _, rfl, hI_, hF_, ?_⟩
          have ea_ : g_an F_ G1_ x_ y_ = (0, G1_) := by first | (rw [g_an_mn (a_ := x_) (b_ := y_) (by omega)]; unfold g_a2; rw [if_pos (by omega)]) | (rw [g_an_mn (a_ := y_) (b_ := x_) (by omega)]; unfold g_a2; rw [if_pos (by omega)])
          have hr_ := ar_go (v_ := 0) hG1_ hG2_ hab_ (Or.inl ⟨by rw [ea_]; exact hG1_, by rw [ea_]⟩)
          exact ⟨hr_.1, hr_.2, by omega⟩
    · have cx2_ : ¬ (y_ ≤ x_) := of_decide_eq_false cx2_
      exfalso; omega
  · have cx1_ : ¬ (y_ ≤ x_) := of_decide_eq_false cx1_
    refine sm_T_go 5 (c1 := (13, [some (.inr (.inr (some (13, 0)))), some (.inl x_), some (.inl y_), some (.inl x_), none, none, none], [.inl y_, .inl x_], S0_)) rfl ?_
    refine sm_T_br (a := 3) (z := 7) rfl (fun cx9_ => ?_) (fun cx9_ => ?_)
    · have cx9_ : y_ ≤ x_ := of_decide_eq_true cx9_
      exfalso; omega
    · have cx9_ : ¬ (y_ ≤ x_) := of_decide_eq_false cx9_
      refine sm_T_go 4 (c1 := (24, [some (.inr (.inr (some (13, 0)))), some (.inl x_), some (.inl y_), some (.inl x_), some (.inl y_), none, none], [.inl x_], S0_)) rfl ?_
      refine sm_T_b0 (a := 0) (z := 11) rfl (fun cx10_ => ?_) (fun cx10_ => ?_)
      · have cx10_ : x_ = 0 := of_decide_eq_true cx10_
        refine sm_T_go 1 (c1 := (36, [some (.inr (.inr (some (13, 0)))), some (.inl x_), some (.inl y_), some (.inl x_), some (.inl y_), none, none], [.inl 0], S0_)) rfl ?_
        refine sm_T_ri rfl ⟨_, _, rfl, _, rfl, hI_, hF_, ?_⟩
        have ea_ : g_an F_ G1_ x_ y_ = (0, G1_) := by first | (rw [g_an_mn (a_ := x_) (b_ := y_) (by omega)]; unfold g_a2; rw [if_pos (by omega)]) | (rw [g_an_mn (a_ := y_) (b_ := x_) (by omega)]; unfold g_a2; rw [if_pos (by omega)])
        have hr_ := ar_go (v_ := 0) hG1_ hG2_ hab_ (Or.inl ⟨by rw [ea_]; exact hG1_, by rw [ea_]⟩)
        exact ⟨hr_.1, hr_.2, by omega⟩
      · have cx10_ : ¬ (x_ = 0) := of_decide_eq_false cx10_
        refine sm_T_go 3 (c1 := (31, [some (.inr (.inr (some (13, 0)))), some (.inl x_), some (.inl y_), some (.inl x_), some (.inl y_), none, none], [.inl 1, .inl y_, .inl x_], S0_)) rfl ?_
        refine sm_T_bin (w := (i_xor y_ 1)) rfl rfl ?_
        have bx11_ := i_x1 (x_ := y_) (by omega)
        refine sm_T_br (a := 1) (z := 5) rfl (fun cx12_ => ?_) (fun cx12_ => ?_)
        · have cx12_ : x_ ≠ (i_xor y_ 1) := of_decide_eq_true cx12_
          refine sm_T_go 2 (c1 := (39, [some (.inr (.inr (some (13, 0)))), some (.inl x_), some (.inl y_), some (.inl x_), some (.inl y_), none, none], [.inl 1, .inl x_], S0_)) rfl ?_
          refine sm_T_br (a := 0) (z := 9) rfl (fun cx13_ => ?_) (fun cx13_ => ?_)
          · have cx13_ : x_ = 1 := of_decide_eq_true cx13_
            refine sm_T_go 1 (c1 := (50, [some (.inr (.inr (some (13, 0)))), some (.inl x_), some (.inl y_), some (.inl x_), some (.inl y_), none, none], [.inl y_], S0_)) rfl ?_
            refine sm_T_ri rfl ⟨_, _, rfl, _, rfl, hI_, hF_, ?_⟩
            first | (have ea_ : g_an F_ G1_ x_ y_ = (y_, G1_) := (by rw [g_an_mn (a_ := x_) (b_ := y_) (by omega)]; unfold g_a2; rw [if_neg (by omega), if_pos (by omega)]); have hr_ := ar_go (v_ := y_) hG1_ hG2_ hab_ (Or.inl ⟨by rw [ea_]; exact hG1_, by rw [ea_]⟩); exact ⟨hr_.1, hr_.2, by omega⟩) | (have ea_ : g_an F_ G1_ x_ y_ = (x_, G1_) := (by rw [g_an_mn (a_ := y_) (b_ := x_) (by omega)]; unfold g_a2; rw [if_neg (by omega), if_pos (by omega)]); have hr_ := ar_go (v_ := x_) hG1_ hG2_ hab_ (Or.inl ⟨by rw [ea_]; exact hG1_, by rw [ea_]⟩); exact ⟨hr_.1, hr_.2, by omega⟩)
          · have cx13_ : ¬ (x_ = 1) := of_decide_eq_false cx13_
            refine sm_T_go 2 (c1 := (45, [some (.inr (.inr (some (13, 0)))), some (.inl x_), some (.inl y_), some (.inl x_), some (.inl y_), none, none], [.inl y_, .inl x_], S0_)) rfl ?_
            refine sm_T_br (a := 1) (z := 6) rfl (fun cx14_ => ?_) (fun cx14_ => ?_)
            · have cx14_ : x_ ≠ y_ := of_decide_eq_true cx14_
              refine sm_T_go 2 (c1 := (55, [some (.inr (.inr (some (13, 0)))), some (.inl x_), some (.inl y_), some (.inl x_), some (.inl y_), none, none], [.inl x_, .inl 1021], S0_)) rfl ?_
              refine sm_T_bin (w := 1021 * x_) rfl (bi_mul (by omega) (by omega) (by omega)) ?_
              refine sm_T_go 1 (c1 := (58, [some (.inr (.inr (some (13, 0)))), some (.inl x_), some (.inl y_), some (.inl x_), some (.inl y_), none, none], [.inl y_, .inl (1021 * x_)], S0_)) rfl ?_
              refine sm_T_bin (w := 1021 * x_ + y_) rfl (bi_add (by omega) (by omega) (by omega)) ?_
              refine sm_T_go 1 (c1 := (62, [some (.inr (.inr (some (13, 0)))), some (.inl x_), some (.inl y_), some (.inl x_), some (.inl y_), none, none], [.inl 4095, .inl (1021 * x_ + y_)], S0_)) rfl ?_
              refine sm_T_bin (w := ((1021 * x_ + y_) % 4096)) rfl (bi_msk (k := 12) (by decide)) ?_
              refine sm_T_go 4 (c1 := (71, [some (.inr (.inr (some (13, 0)))), some (.inl x_), some (.inl y_), some (.inl x_), some (.inl y_), some (.inl ((1021 * x_ + y_) % 4096)), none], [.inl ((1021 * x_ + y_) % 4096), .inr (.inr (some (142, 0)))], S0_)) rfl ?_
              refine sm_T_iald (n := 4096) rfl rfl (by omega) (by omega) ?_
              have bx15_ : 0 ≤ S0_.2.2.1 142 0 ((1021 * x_ + y_) % 4096).toNat ∧ S0_.2.2.1 142 0 ((1021 * x_ + y_) % 4096).toNat ≤ 1023 := hI_.2 142 0 _
              refine sm_T_go 1 (c1 := (74, [some (.inr (.inr (some (13, 0)))), some (.inl x_), some (.inl y_), some (.inl x_), some (.inl y_), some (.inl ((1021 * x_ + y_) % 4096)), some (.inl (S0_.2.2.1 142 0 ((1021 * x_ + y_) % 4096).toNat))], [], S0_)) rfl ?_
              refine (vl_328 x_ y_ F_ G_ A_ B_ S0_ hg_ hx_ hy_ hab_ _) x_ y_ ((1021 * x_ + y_) % 4096) (S0_.2.2.1 142 0 ((1021 * x_ + y_) % 4096).toNat) S0_ hI_ hF_ ⟨?_, ?_, ?_, ?_, ?_, ?_, ?_, ?_, trivial⟩ (Nat.lt_succ_self _)
              · rfl
              · rw [show F_ + (S0_.1 13 0 37 - S0_.1 13 0 38).toNat = F_ + G1_.length by omega]
                first | exact x8_.1 ((1021 * x_ + y_) % 4096).toNat (by omega) | exact x8_.1 ((1021 * y_ + x_) % 4096).toNat (by omega)
              · rfl
              · omega
              · omega
              · omega
              · omega
              · intro t_ ⟨q1_, q2_, q3_, q4_⟩
                obtain ⟨⟨px_, py_⟩, ep_⟩ : ∃ p_, G1_[(t_ - F_).toNat]? = some p_ := ⟨_, List.getElem?_eq_getElem (by omega)⟩
                have ep2_ := x6_ _ px_ py_ ep_
                rw [show F_ + (t_ - F_).toNat = t_.toNat by omega] at ep2_
                obtain ⟨f_, q5_⟩ := x8_.2.2 _ px_ py_ ep_
                refine ⟨f_, ?_⟩
                rw [← ep2_.1, ← ep2_.2, q1_, q2_, show ((F_ + (t_ - F_).toNat : Nat) : Int) = t_ by omega] at q5_
                exact q5_
            · have cx14_ : ¬ (x_ ≠ y_) := of_decide_eq_false cx14_
              exfalso; omega
        · have cx12_ : ¬ (x_ ≠ (i_xor y_ 1)) := of_decide_eq_false cx12_
          refine sm_T_go 1 (c1 := (36, [some (.inr (.inr (some (13, 0)))), some (.inl x_), some (.inl y_), some (.inl x_), some (.inl y_), none, none], [.inl 0], S0_)) rfl ?_
          refine sm_T_ri rfl ⟨_, _, rfl, _, rfl, hI_, hF_, ?_⟩
          have ea_ : g_an F_ G1_ x_ y_ = (0, G1_) := by first | (rw [g_an_mn (a_ := x_) (b_ := y_) (by omega)]; unfold g_a2; rw [if_pos (by omega)]) | (rw [g_an_mn (a_ := y_) (b_ := x_) (by omega)]; unfold g_a2; rw [if_pos (by omega)])
          have hr_ := ar_go (v_ := 0) hG1_ hG2_ hab_ (Or.inl ⟨by rw [ea_]; exact hG1_, by rw [ea_]⟩)
          exact ⟨hr_.1, hr_.2, by omega⟩
end
/-! 99.zc1b -/
section
/-! M_.or -/
def vw_329 : sx_Wl := ([(13, 37)], [140, 141, 142, 143], [])
def vq_329 (x_ : Int) (y_ : Int) (F_ : Nat) (G_ : pGr) (A_ : Int) (B_ : Int) (S0_ : sm_S) (u_ : Option sm_V) (S1_ : sm_S) : Prop := ∃ v_ : Int, u_ = some (.inl v_) ∧ gi S1_ ∧ ai_fr (sx_W vw_329) S0_ S1_ ∧ (rgl F_ (g_or F_ G_ A_ B_).2 S1_ ∧ (imq ((g_or F_ G_ A_ B_).2.length ≤ 1001) (v_ = (g_or F_ G_ A_ B_).1)) ∧ (0 ≤ v_ ∧ v_ ≤ 2047))
set_option maxHeartbeats 400000 in
theorem vc_329 {sc_ : Nat × (Nat → Int)} (x_ : Int) (y_ : Int) (F_ : Nat) (G_ : pGr) (A_ : Int) (B_ : Int) (S0_ : sm_S) (hI_ : gi S0_) (hg_ : rgl F_ G_ S0_) (hx_ : 0 ≤ x_ ∧ x_ ≤ 2047) (hy_ : 0 ≤ y_ ∧ y_ ≤ 2047) (hab_ : imq (G_.length ≤ 1001) (x_ = A_ ∧ y_ = B_)) : sm_T (mt_P sc_) 1 329 (0, [some (.inr (.inr (some (13, 0)))), some (.inl x_), some (.inl y_)], [], S0_) (fun ro9_ => ∃ u_ S1_, ro9_ = (.inl u_, S1_, 0) ∧ vq_329 x_ y_ F_ G_ A_ B_ S0_ u_ S1_) := by
  have hF_ : ai_fr (sx_W vw_329) S0_ S0_ := ai_fr_rf
  refine sm_T_go 4 (c1 := (4, [some (.inr (.inr (some (13, 0)))), some (.inl x_), some (.inl y_)], [.inl 1, .inl x_, .inr (.inr (some (13, 0))), .inl 1], S0_)) rfl ?_
  refine sm_T_bin (w := (i_xor x_ 1)) rfl rfl ?_
  first | have bx1_ := (i_xc (x_ := x_) (y_ := 1)).trans (i_x1 (x_ := 1) (by omega)) | have bx1_ := i_x1 (x_ := x_) (by omega)
  refine sm_T_go 2 (c1 := (7, [some (.inr (.inr (some (13, 0)))), some (.inl x_), some (.inl y_)], [.inl 1, .inl y_, .inl (i_xor x_ 1), .inr (.inr (some (13, 0))), .inl 1], S0_)) rfl ?_
  refine sm_T_bin (w := (i_xor y_ 1)) rfl rfl ?_
  first | have bx2_ := (i_xc (x_ := y_) (y_ := 1)).trans (i_x1 (x_ := 1) (by omega)) | have bx2_ := i_x1 (x_ := y_) (by omega)
  refine sm_T_cal (d1 := 0) (Q1 := vq_328 (i_xor x_ 1) (i_xor y_ 1) F_ G_ (i_xor A_ 1) (i_xor B_ 1) S0_) rfl rfl (by decide) (vc_328 (i_xor x_ 1) (i_xor y_ 1) F_ G_ (i_xor A_ 1) (i_xor B_ 1) S0_ hI_ (by exact hg_) (by omega) (by omega) (by (intro z_; have q_ := hab_ z_; rw [q_.1, q_.2]; exact ⟨rfl, rfl⟩))) (fun u_ Sx3_ px6_ => ?_)
  obtain ⟨vx8_, rfl, hIx4_, hFx5_, px6_⟩ := px6_
  have hFx7_ : ai_fr (sx_W vw_329) S0_ Sx3_ := ai_fr_tr hF_ (fr_le hFx5_ rfl)
  have e7_ := px6_
  refine sm_T_bin (w := (i_xor 1 vx8_)) rfl rfl ?_
  first | have bx9_ := (i_xc (x_ := 1) (y_ := vx8_)).trans (i_x1 (x_ := vx8_) (by omega)) | have bx9_ := i_x1 (x_ := 1) (by omega)
  refine sm_T_ri rfl ⟨_, _, rfl, _, rfl, hIx4_, hFx7_, ?_⟩
  refine ⟨e7_.1, fun z_ => ?_, by omega⟩
  show _ = i_xor _ 1
  rw [i_xc, e7_.2.1 z_]
end
/-! 99.zc1c -/
section
/-! M_.xor -/
def vw_330 : sx_Wl := ([(13, 37)], [140, 141, 142, 143], [])
def vq_330 (x_ : Int) (y_ : Int) (F_ : Nat) (G_ : pGr) (A_ : Int) (B_ : Int) (S0_ : sm_S) (u_ : Option sm_V) (S1_ : sm_S) : Prop := ∃ v_ : Int, u_ = some (.inl v_) ∧ gi S1_ ∧ ai_fr (sx_W vw_330) S0_ S1_ ∧ (rgl F_ (g_xo F_ G_ A_ B_).2 S1_ ∧ (imq ((g_xo F_ G_ A_ B_).2.length ≤ 1001) (v_ = (g_xo F_ G_ A_ B_).1)) ∧ (0 ≤ v_ ∧ v_ ≤ 2047))
set_option maxHeartbeats 400000 in
theorem vc_330 {sc_ : Nat × (Nat → Int)} (x_ : Int) (y_ : Int) (F_ : Nat) (G_ : pGr) (A_ : Int) (B_ : Int) (S0_ : sm_S) (hI_ : gi S0_) (hg_ : rgl F_ G_ S0_) (hx_ : 0 ≤ x_ ∧ x_ ≤ 2047) (hy_ : 0 ≤ y_ ∧ y_ ≤ 2047) (hab_ : imq (G_.length ≤ 1001) (x_ = A_ ∧ y_ = B_)) : sm_T (mt_P sc_) 2 330 (0, [some (.inr (.inr (some (13, 0)))), some (.inl x_), some (.inl y_), none, none], [], S0_) (fun ro9_ => ∃ u_ S1_, ro9_ = (.inl u_, S1_, 0) ∧ vq_330 x_ y_ F_ G_ A_ B_ S0_ u_ S1_) := by
  have hF_ : ai_fr (sx_W vw_330) S0_ S0_ := ai_fr_rf
  refine sm_T_go 4 (c1 := (4, [some (.inr (.inr (some (13, 0)))), some (.inl x_), some (.inl y_), none, none], [.inl 1, .inl y_, .inl x_, .inr (.inr (some (13, 0)))], S0_)) rfl ?_
  refine sm_T_bin (w := (i_xor y_ 1)) rfl rfl ?_
  have bx1_ := i_x1 (x_ := y_) (by omega)
  refine sm_T_cal (d1 := 0) (Q1 := vq_328 x_ (i_xor y_ 1) F_ G_ A_ (i_xor B_ 1) S0_) rfl rfl (by decide) (vc_328 x_ (i_xor y_ 1) F_ G_ A_ (i_xor B_ 1) S0_ hI_ (by exact hg_) (by omega) (by omega) (by (intro z_; have q_ := hab_ z_; rw [q_.1, q_.2]; exact ⟨rfl, rfl⟩))) (fun u_ Sx2_ px5_ => ?_)
  obtain ⟨vx7_, rfl, hIx3_, hFx4_, px5_⟩ := px5_
  have hFx6_ : ai_fr (sx_W vw_330) S0_ Sx2_ := ai_fr_tr hF_ (fr_le hFx4_ rfl)
  have e5_ := px5_
  have l5_ := g_an_le (F_ := F_) (G_ := G_) (a_ := A_) (b_ := i_xor B_ 1)
  refine sm_T_go 4 (c1 := (12, [some (.inr (.inr (some (13, 0)))), some (.inl x_), some (.inl y_), some (.inl vx7_), none], [.inl 1, .inl x_, .inr (.inr (some (13, 0)))], Sx2_)) rfl ?_
  refine sm_T_bin (w := (i_xor x_ 1)) rfl rfl ?_
  have bx8_ := i_x1 (x_ := x_) (by omega)
  refine sm_T_go 1 (c1 := (14, [some (.inr (.inr (some (13, 0)))), some (.inl x_), some (.inl y_), some (.inl vx7_), none], [.inl y_, .inl (i_xor x_ 1), .inr (.inr (some (13, 0)))], Sx2_)) rfl ?_
  refine sm_T_cal (d1 := 0) (Q1 := vq_328 (i_xor x_ 1) y_ F_ (g_an F_ G_ A_ (i_xor B_ 1)).2 (i_xor A_ 1) B_ Sx2_) rfl rfl (by decide) (vc_328 (i_xor x_ 1) y_ F_ (g_an F_ G_ A_ (i_xor B_ 1)).2 (i_xor A_ 1) B_ Sx2_ hIx3_ (by exact e5_.1) (by omega) (by omega) (by (intro z_; have q_ := hab_ (by omega); rw [q_.1, q_.2]; exact ⟨rfl, rfl⟩))) (fun u_ Sx9_ px12_ => ?_)
  obtain ⟨vx14_, rfl, hIx10_, hFx11_, px12_⟩ := px12_
  have hFx13_ : ai_fr (sx_W vw_330) S0_ Sx9_ := ai_fr_tr hFx6_ (fr_le hFx11_ rfl)
  have e18_ := px12_
  have l18_ := g_an_le (F_ := F_) (G_ := (g_an F_ G_ A_ (i_xor B_ 1)).2) (a_ := i_xor A_ 1) (b_ := B_)
  refine sm_T_go 4 (c1 := (23, [some (.inr (.inr (some (13, 0)))), some (.inl x_), some (.inl y_), some (.inl vx7_), some (.inl vx14_)], [.inl vx14_, .inl vx7_, .inr (.inr (some (13, 0)))], Sx9_)) rfl ?_
  refine sm_T_cal (d1 := 1) (Q1 := vq_329 vx7_ vx14_ F_ (g_an F_ (g_an F_ G_ A_ (i_xor B_ 1)).2 (i_xor A_ 1) B_).2 (g_an F_ G_ A_ (i_xor B_ 1)).1 (g_an F_ (g_an F_ G_ A_ (i_xor B_ 1)).2 (i_xor A_ 1) B_).1 Sx9_) rfl rfl (by decide) (vc_329 vx7_ vx14_ F_ (g_an F_ (g_an F_ G_ A_ (i_xor B_ 1)).2 (i_xor A_ 1) B_).2 (g_an F_ G_ A_ (i_xor B_ 1)).1 (g_an F_ (g_an F_ G_ A_ (i_xor B_ 1)).2 (i_xor A_ 1) B_).1 Sx9_ hIx10_ (by exact e18_.1) (by omega) (by omega) (by (intro z_; exact ⟨e5_.2.1 (by omega), e18_.2.1 z_⟩))) (fun u_ Sx15_ px18_ => ?_)
  obtain ⟨vx20_, rfl, hIx16_, hFx17_, px18_⟩ := px18_
  have hFx19_ : ai_fr (sx_W vw_330) S0_ Sx15_ := ai_fr_tr hFx13_ (fr_le hFx17_ rfl)
  have e23_ := px18_
  refine sm_T_ri rfl ⟨_, _, rfl, _, rfl, hIx16_, hFx19_, ?_⟩
  exact e23_
end
/-! 99.zc2a -/
section
/-! the reference: joining; written by wip/p55/gen/vg -/

/-! joining -/
theorem rgl_st {F_ : Nat} {G_ : pGr} {S_ : sm_S} {k_ : Nat} {z_ : Int} (h_ : rgl F_ G_ S_) : rgl F_ G_ (sm_aI S_ 139 0 k_ z_) := rgl_fr (w_ := ([], [139], [])) h_ (ai_fr_aI rfl) rfl rfl rfl rfl rfl rfl
theorem rd_self {S_ : sm_S} {k_ j_ : Nat} : (sm_aI S_ 139 0 k_ (S_.2.2.1 139 0 k_)).2.2.1 139 0 j_ = S_.2.2.1 139 0 j_ := by
  rw [rd_eq]
  by_cases e_ : j_ = k_
  · rw [if_pos e_, e_]
  · rw [if_neg e_]
end
/-! 99.zc2b -/
section
/-! M_.join -/
def vw_331w : sx_Wl := ([(13, 37)], [139, 140, 141, 142, 143], [])
def vq_331w (s_ : Int) (a_ : Int) (b_ : Int) (F_ : Nat) (G_ : pGr) (x_ : List Int) (y_ : List Int) (kk_ : Int) (S0_ : sm_S) (u_ : Option sm_V) (S1_ : sm_S) : Prop := u_ = none ∧ gi S1_ ∧ ai_fr (sx_W vw_331w) S0_ S1_ ∧ (rgl F_ (g_op F_ kk_ G_ x_ y_).2 S1_ ∧ (imq ((g_op F_ kk_ G_ x_ y_).2.length ≤ 1001) (rwv (S1_.2.2.1 139 0) (8 * a_.toNat) (g_op F_ kk_ G_ x_ y_).1)) ∧ ∀ j_ : Nat, j_ < 8 * a_.toNat ∨ 8 * a_.toNat + 8 ≤ j_ → S1_.2.2.1 139 0 j_ = S0_.2.2.1 139 0 j_)
set_option maxHeartbeats 1500000 in
set_option maxRecDepth 20000 in
theorem vl_331w {sc_ : Nat × (Nat → Int)} (s_ : Int) (a_ : Int) (b_ : Int) (F_ : Nat) (G_ : pGr) (x_ : List Int) (y_ : List Int) (kk_ : Int) (S0_ : sm_S) (hg_ : rgl F_ G_ S0_) (ha_ : 0 ≤ a_ ∧ a_ + 1 ≤ b_ ∧ b_ ≤ 1023) (hw_ : S0_.2.2.1 138 0 a_.toNat = (x_.length : Int)) (hn_ : x_.length = y_.length ∧ 1 ≤ x_.length ∧ x_.length ≤ 8) (hr_ : imq (G_.length ≤ 1001) (rwv (S0_.2.2.1 139 0) (8 * a_.toNat) x_ ∧ rwv (S0_.2.2.1 139 0) (8 * b_.toNat) y_)) (hs_ : (s_ = 124 ∧ kk_ = 1) ∨ (s_ = 94 ∧ kk_ = 2) ∨ (s_ = 38 ∧ kk_ = 3)) : ∀ nn_ : Nat, (∀ (nb_ : Int) (cy_ : Int) (sa_ : Int) (k_ : Int) (S_ : sm_S), gi S_ → ai_fr (sx_W vw_331w) S0_ S_ → ((0 ≤ k_ ∧ k_ ≤ nb_ ∧ nb_ = (x_.length : Int)) ∧ ((0 ≤ cy_ ∧ cy_ ≤ 2047) ∧ (0 ≤ sa_ ∧ sa_ ≤ 2047)) ∧ (∃ (G1_ : pGr) (d_ r_ e_ t_ : List Int), rgl F_ G1_ S_ ∧ (d_.length : Int) = k_ ∧ (e_.length : Int) = k_ ∧ r_.length = t_.length ∧ k_ + r_.length = nb_ ∧ y_ = e_ ++ t_ ∧ (imq (G1_.length ≤ 1001) (rwv (S_.2.2.1 139 0) (8 * a_.toNat) (d_ ++ r_) ∧ rwv (S_.2.2.1 139 0) (8 * b_.toNat) y_)) ∧ G_.length ≤ G1_.length ∧ (g_z2 (g_bw F_ kk_) G_ x_ y_) = (d_ ++ (g_z2 (g_bw F_ kk_) G1_ r_ t_).1, (g_z2 (g_bw F_ kk_) G1_ r_ t_).2)) ∧ (∀ j_ : Nat, j_ < 8 * a_.toNat ∨ 8 * a_.toNat + 8 ≤ j_ → S_.2.2.1 139 0 j_ = S0_.2.2.1 139 0 j_) ∧ True) → ((nb_ - k_).toNat) < nn_ → sm_T (mt_P sc_) 3 331 (17, [some (.inr (.inr (some (13, 0)))), some (.inl s_), some (.inl a_), some (.inl b_), some (.inl nb_), some (.inl cy_), some (.inl sa_), some (.inl k_), none, none, none, none, none], [], S_) (fun ro9_ => ∃ u_ S1_, ro9_ = (.inl u_, S1_, 0) ∧ vq_331w s_ a_ b_ F_ G_ x_ y_ kk_ S0_ u_ S1_)) := by
  intro nn_
  induction nn_ with
  | zero => exact fun _ _ _ _ _ _ _ _ h_ => absurd h_ (Nat.not_lt_zero _)
  | succ nn_ ih_ =>
    rintro nb_ cy_ sa_ k_ S_ hI_ hF_ ⟨h0_, hb0_, h1_, h2_, -⟩ hm_
    obtain ⟨G1_, d_, r_, e_, t_, z1_, z2_, z2b, z3_, z4_, z5_, z6_, z7_, z8_⟩ := h1_
    refine sm_T_go 2 (c1 := (21, [some (.inr (.inr (some (13, 0)))), some (.inl s_), some (.inl a_), some (.inl b_), some (.inl nb_), some (.inl cy_), some (.inl sa_), some (.inl k_), none, none, none, none, none], [.inl nb_, .inl k_], S_)) rfl ?_
    refine sm_T_br (a := 3) (z := 198) rfl (fun cx1_ => ?_) (fun cx1_ => ?_)
    · have cx1_ : nb_ ≤ k_ := of_decide_eq_true cx1_
      refine sm_T_go 4 (c1 := (226, [some (.inr (.inr (some (13, 0)))), some (.inl s_), some (.inl a_), some (.inl b_), some (.inl nb_), some (.inl cy_), some (.inl sa_), some (.inl k_), none, none, none, none, none], [.inl a_, .inl 8, .inr (.inr (some (139, 0)))], S_)) rfl ?_
      refine sm_T_bin (w := 8 * a_) rfl (bi_mul (by omega) (by omega) (by omega)) ?_
      refine sm_T_go 2 (c1 := (231, [some (.inr (.inr (some (13, 0)))), some (.inl s_), some (.inl a_), some (.inl b_), some (.inl nb_), some (.inl cy_), some (.inl sa_), some (.inl k_), none, none, none, none, none], [.inl 257, .inl s_, .inl (8 * a_), .inr (.inr (some (139, 0)))], S_)) rfl ?_
      refine sm_T_br (a := 1) (z := 8) rfl (fun cx2_ => ?_) (fun cx2_ => ?_)
      · have cx2_ : s_ ≠ 257 := of_decide_eq_true cx2_
        refine sm_T_go 4 (c1 := (246, [some (.inr (.inr (some (13, 0)))), some (.inl s_), some (.inl a_), some (.inl b_), some (.inl nb_), some (.inl cy_), some (.inl sa_), some (.inl k_), none, none, none, none, none], [.inl a_, .inl 8, .inr (.inr (some (139, 0))), .inl (8 * a_), .inr (.inr (some (139, 0)))], S_)) rfl ?_
        refine sm_T_bin (w := 8 * a_) rfl (bi_mul (by omega) (by omega) (by omega)) ?_
        refine sm_T_iald (n := 8192) rfl rfl (by omega) (by omega) ?_
        have bx3_ : 0 ≤ S_.2.2.1 139 0 (8 * a_).toNat ∧ S_.2.2.1 139 0 (8 * a_).toNat ≤ 2047 := hI_.2 139 0 _
        refine sm_T_iast (n := 8192) rfl rfl (by omega) (by omega) ?_
        have hIx4_ : gi (sm_aI S_ 139 0 (8 * a_).toNat (S_.2.2.1 139 0 (8 * a_).toNat)) := gi_aI hI_ (show 0 ≤ (S_.2.2.1 139 0 (8 * a_).toNat) ∧ (S_.2.2.1 139 0 (8 * a_).toNat) ≤ 2047 from ⟨by omega, by omega⟩)
        have hFx5_ : ai_fr (sx_W vw_331w) S0_ (sm_aI S_ 139 0 (8 * a_).toNat (S_.2.2.1 139 0 (8 * a_).toNat)) := ai_fr_tr hF_ (ai_fr_aI rfl)
        refine sm_T_rv rfl ⟨_, _, rfl, rfl, hIx4_, hFx5_, ?_⟩
        have kr_ : r_ = [] := List.eq_nil_of_length_eq_zero (by omega)
        have ks_ : t_ = [] := List.eq_nil_of_length_eq_zero (by omega)
        rw [kr_, ks_] at z8_
        have q8_ : g_z2 (g_bw F_ kk_) G1_ [] [] = ([], G1_) := rfl
        rw [q8_, List.append_nil] at z8_
        rw [g_opw (by omega) (by omega), z8_]
        refine ⟨rgl_st z1_, fun z_ => ?_, fun j_ hj_ => ?_⟩
        · have q9_ := (z6_ z_).1; rw [kr_, List.append_nil] at q9_; exact rwv_cg q9_ (fun j9_ _ => rd_self)
        · rw [rd_self]; exact h2_ j_ hj_
      · have cx2_ : ¬ (s_ ≠ 257) := of_decide_eq_false cx2_
        exfalso; omega
    · have cx1_ : ¬ (nb_ ≤ k_) := of_decide_eq_false cx1_
      obtain ⟨r0_, r_, rfl⟩ : ∃ r0_ r1_, r_ = r0_ :: r1_ := by cases r_ with | nil => (simp only [List.length_nil] at z4_; omega) | cons p_ q_ => exact ⟨p_, q_, rfl⟩
      obtain ⟨s0_, t_, rfl⟩ : ∃ s0_ s1_, t_ = s0_ :: s1_ := by cases t_ with | nil => (simp only [List.length_nil, List.length_cons] at z3_ z4_; omega) | cons p_ q_ => exact ⟨p_, q_, rfl⟩
      have rx : imq (G1_.length ≤ 1001) (S_.2.2.1 139 0 (8 * a_ + k_).toNat = r0_ ∧ S_.2.2.1 139 0 (8 * b_ + k_).toNat = s0_) := fun z_ => by rw [show (8 * a_ + k_).toNat = 8 * a_.toNat + d_.length by omega, show (8 * b_ + k_).toNat = 8 * b_.toNat + e_.length by omega]; exact ⟨rwv_m (z6_ z_).1, rwv_m (by rw [← z5_]; exact (z6_ z_).2)⟩
      refine sm_T_go 4 (c1 := (31, [some (.inr (.inr (some (13, 0)))), some (.inl s_), some (.inl a_), some (.inl b_), some (.inl nb_), some (.inl cy_), some (.inl sa_), some (.inl k_), none, none, none, none, none], [.inl a_, .inl 8, .inr (.inr (some (139, 0)))], S_)) rfl ?_
      refine sm_T_bin (w := 8 * a_) rfl (bi_mul (by omega) (by omega) (by omega)) ?_
      refine sm_T_go 1 (c1 := (34, [some (.inr (.inr (some (13, 0)))), some (.inl s_), some (.inl a_), some (.inl b_), some (.inl nb_), some (.inl cy_), some (.inl sa_), some (.inl k_), none, none, none, none, none], [.inl k_, .inl (8 * a_), .inr (.inr (some (139, 0)))], S_)) rfl ?_
      refine sm_T_bin (w := 8 * a_ + k_) rfl (bi_add (by omega) (by omega) (by omega)) ?_
      refine sm_T_iald (n := 8192) rfl rfl (by omega) (by omega) ?_
      have bx6_ : 0 ≤ S_.2.2.1 139 0 (8 * a_ + k_).toNat ∧ S_.2.2.1 139 0 (8 * a_ + k_).toNat ≤ 2047 := hI_.2 139 0 _
      refine sm_T_go 5 (c1 := (45, [some (.inr (.inr (some (13, 0)))), some (.inl s_), some (.inl a_), some (.inl b_), some (.inl nb_), some (.inl cy_), some (.inl sa_), some (.inl k_), some (.inl (S_.2.2.1 139 0 (8 * a_ + k_).toNat)), none, none, none, none], [.inl b_, .inl 8, .inr (.inr (some (139, 0)))], S_)) rfl ?_
      refine sm_T_bin (w := 8 * b_) rfl (bi_mul (by omega) (by omega) (by omega)) ?_
      refine sm_T_go 1 (c1 := (48, [some (.inr (.inr (some (13, 0)))), some (.inl s_), some (.inl a_), some (.inl b_), some (.inl nb_), some (.inl cy_), some (.inl sa_), some (.inl k_), some (.inl (S_.2.2.1 139 0 (8 * a_ + k_).toNat)), none, none, none, none], [.inl k_, .inl (8 * b_), .inr (.inr (some (139, 0)))], S_)) rfl ?_
      refine sm_T_bin (w := 8 * b_ + k_) rfl (bi_add (by omega) (by omega) (by omega)) ?_
      refine sm_T_iald (n := 8192) rfl rfl (by omega) (by omega) ?_
      have bx7_ : 0 ≤ S_.2.2.1 139 0 (8 * b_ + k_).toNat ∧ S_.2.2.1 139 0 (8 * b_ + k_).toNat ≤ 2047 := hI_.2 139 0 _
      refine sm_T_go 5 (c1 := (58, [some (.inr (.inr (some (13, 0)))), some (.inl s_), some (.inl a_), some (.inl b_), some (.inl nb_), some (.inl cy_), some (.inl sa_), some (.inl k_), some (.inl (S_.2.2.1 139 0 (8 * a_ + k_).toNat)), some (.inl (S_.2.2.1 139 0 (8 * b_ + k_).toNat)), some (.inl 0), none, none], [.inl 38, .inl s_], S_)) rfl ?_
      refine sm_T_br (a := 1) (z := 16) rfl (fun cx8_ => ?_) (fun cx8_ => ?_)
      · have cx8_ : s_ ≠ 38 := of_decide_eq_true cx8_
        refine sm_T_go 2 (c1 := (77, [some (.inr (.inr (some (13, 0)))), some (.inl s_), some (.inl a_), some (.inl b_), some (.inl nb_), some (.inl cy_), some (.inl sa_), some (.inl k_), some (.inl (S_.2.2.1 139 0 (8 * a_ + k_).toNat)), some (.inl (S_.2.2.1 139 0 (8 * b_ + k_).toNat)), some (.inl 0), none, none], [.inl 124, .inl s_], S_)) rfl ?_
        refine sm_T_br (a := 1) (z := 16) rfl (fun cx9_ => ?_) (fun cx9_ => ?_)
        · have cx9_ : s_ ≠ 124 := of_decide_eq_true cx9_
          refine sm_T_go 2 (c1 := (96, [some (.inr (.inr (some (13, 0)))), some (.inl s_), some (.inl a_), some (.inl b_), some (.inl nb_), some (.inl cy_), some (.inl sa_), some (.inl k_), some (.inl (S_.2.2.1 139 0 (8 * a_ + k_).toNat)), some (.inl (S_.2.2.1 139 0 (8 * b_ + k_).toNat)), some (.inl 0), none, none], [.inl 94, .inl s_], S_)) rfl ?_
          refine sm_T_br (a := 1) (z := 16) rfl (fun cx10_ => ?_) (fun cx10_ => ?_)
          · have cx10_ : s_ ≠ 94 := of_decide_eq_true cx10_
            refine sm_T_go 2 (c1 := (115, [some (.inr (.inr (some (13, 0)))), some (.inl s_), some (.inl a_), some (.inl b_), some (.inl nb_), some (.inl cy_), some (.inl sa_), some (.inl k_), some (.inl (S_.2.2.1 139 0 (8 * a_ + k_).toNat)), some (.inl (S_.2.2.1 139 0 (8 * b_ + k_).toNat)), some (.inl 0), none, none], [.inl 43, .inl s_], S_)) rfl ?_
            refine sm_T_br (a := 1) (z := 52) rfl (fun cx11_ => ?_) (fun cx11_ => ?_)
            · have cx11_ : s_ ≠ 43 := of_decide_eq_true cx11_
              exfalso; omega
            · have cx11_ : ¬ (s_ ≠ 43) := of_decide_eq_false cx11_
              exfalso; omega
          · have cx10_ : ¬ (s_ ≠ 94) := of_decide_eq_false cx10_
            refine sm_T_go 3 (c1 := (104, [some (.inr (.inr (some (13, 0)))), some (.inl s_), some (.inl a_), some (.inl b_), some (.inl nb_), some (.inl cy_), some (.inl sa_), some (.inl k_), some (.inl (S_.2.2.1 139 0 (8 * a_ + k_).toNat)), some (.inl (S_.2.2.1 139 0 (8 * b_ + k_).toNat)), some (.inl 0), none, none], [.inl (S_.2.2.1 139 0 (8 * b_ + k_).toNat), .inl (S_.2.2.1 139 0 (8 * a_ + k_).toNat), .inr (.inr (some (13, 0)))], S_)) rfl ?_
            refine sm_T_cal (d1 := 2) (Q1 := vq_330 (S_.2.2.1 139 0 (8 * a_ + k_).toNat) (S_.2.2.1 139 0 (8 * b_ + k_).toNat) F_ G1_ r0_ s0_ S_) rfl rfl (by decide) (vc_330 (S_.2.2.1 139 0 (8 * a_ + k_).toNat) (S_.2.2.1 139 0 (8 * b_ + k_).toNat) F_ G1_ r0_ s0_ S_ hI_ (by exact z1_) (by omega) (by omega) (by exact rx)) (fun u_ Sx12_ px15_ => ?_)
            obtain ⟨vx17_, rfl, hIx13_, hFx14_, px15_⟩ := px15_
            have hFx16_ : ai_fr (sx_W vw_331w) S0_ Sx12_ := ai_fr_tr hF_ (fr_le hFx14_ rfl)
            have e9_ : rgl F_ (g_bw F_ kk_ G1_ r0_ s0_).2 Sx12_ ∧ (imq ((g_bw F_ kk_ G1_ r0_ s0_).2.length ≤ 1001) (vx17_ = (g_bw F_ kk_ G1_ r0_ s0_).1)) ∧ (0 ≤ vx17_ ∧ vx17_ ≤ 2047) := by rw [g_bw2 (by omega) (by omega)]; exact px15_
            have f9_ : Sx12_.2.2.1 139 0 = S_.2.2.1 139 0 := fr_arr hFx14_ rfl
            have g9_ : ∀ z9_ : Int, ∀ j9_ : Nat, (sm_aI Sx12_ 139 0 (8 * a_ + k_).toNat z9_).2.2.1 139 0 j9_ = if j9_ = (8 * a_ + k_).toNat then z9_ else S_.2.2.1 139 0 j9_ := fun z9_ j9_ => by rw [rd_eq, f9_]
            have l1_ := g_bw_le (F_ := F_) (k_ := kk_) G1_ r0_ s0_
            refine sm_T_go 6 (c1 := (206, [some (.inr (.inr (some (13, 0)))), some (.inl s_), some (.inl a_), some (.inl b_), some (.inl nb_), some (.inl cy_), some (.inl sa_), some (.inl k_), some (.inl (S_.2.2.1 139 0 (8 * a_ + k_).toNat)), some (.inl (S_.2.2.1 139 0 (8 * b_ + k_).toNat)), some (.inl vx17_), none, none], [.inl a_, .inl 8, .inr (.inr (some (139, 0)))], Sx12_)) rfl ?_
            refine sm_T_bin (w := 8 * a_) rfl (bi_mul (by omega) (by omega) (by omega)) ?_
            refine sm_T_go 1 (c1 := (209, [some (.inr (.inr (some (13, 0)))), some (.inl s_), some (.inl a_), some (.inl b_), some (.inl nb_), some (.inl cy_), some (.inl sa_), some (.inl k_), some (.inl (S_.2.2.1 139 0 (8 * a_ + k_).toNat)), some (.inl (S_.2.2.1 139 0 (8 * b_ + k_).toNat)), some (.inl vx17_), none, none], [.inl k_, .inl (8 * a_), .inr (.inr (some (139, 0)))], Sx12_)) rfl ?_
            refine sm_T_bin (w := 8 * a_ + k_) rfl (bi_add (by omega) (by omega) (by omega)) ?_
            refine sm_T_go 1 (c1 := (212, [some (.inr (.inr (some (13, 0)))), some (.inl s_), some (.inl a_), some (.inl b_), some (.inl nb_), some (.inl cy_), some (.inl sa_), some (.inl k_), some (.inl (S_.2.2.1 139 0 (8 * a_ + k_).toNat)), some (.inl (S_.2.2.1 139 0 (8 * b_ + k_).toNat)), some (.inl vx17_), none, none], [.inl vx17_, .inl (8 * a_ + k_), .inr (.inr (some (139, 0)))], Sx12_)) rfl ?_
            refine sm_T_iast (n := 8192) rfl rfl (by omega) (by omega) ?_
            have hIx18_ : gi (sm_aI Sx12_ 139 0 (8 * a_ + k_).toNat vx17_) := gi_aI hIx13_ (show 0 ≤ vx17_ ∧ vx17_ ≤ 2047 from ⟨by omega, by omega⟩)
            have hFx19_ : ai_fr (sx_W vw_331w) S0_ (sm_aI Sx12_ 139 0 (8 * a_ + k_).toNat vx17_) := ai_fr_tr hFx16_ (ai_fr_aI rfl)
            refine sm_T_inc (a := 7) (z := 1) (v := k_) (w := k_ + 1) rfl rfl (by omega) (by omega) (by omega) ?_
            refine sm_T_go 1 (c1 := (17, [some (.inr (.inr (some (13, 0)))), some (.inl s_), some (.inl a_), some (.inl b_), some (.inl nb_), some (.inl cy_), some (.inl sa_), some (.inl (k_ + 1)), some (.inl (S_.2.2.1 139 0 (8 * a_ + k_).toNat)), some (.inl (S_.2.2.1 139 0 (8 * b_ + k_).toNat)), some (.inl vx17_), none, none], [], sm_aI Sx12_ 139 0 (8 * a_ + k_).toNat vx17_)) rfl ?_
            refine sm_T_wk [some (.inr (.inr (some (13, 0)))), some (.inl s_), some (.inl a_), some (.inl b_), some (.inl nb_), some (.inl cy_), some (.inl sa_), some (.inl (k_ + 1)), none, none, none, none, none] (by exact ⟨rfl, rfl, rfl, rfl, rfl, rfl, rfl, rfl, trivial⟩) ?_
            refine ih_ nb_ cy_ sa_ (k_ + 1) (sm_aI Sx12_ 139 0 (8 * a_ + k_).toNat vx17_) hIx18_ hFx19_ ⟨?_, ?_, ?_, ?_, trivial⟩ ?_
            · omega
            · omega
            · refine ⟨(g_bw F_ kk_ G1_ r0_ s0_).2, d_ ++ [(g_bw F_ kk_ G1_ r0_ s0_).1], r_, e_ ++ [s0_], t_, rgl_st e9_.1, ?_, ?_, ?_, ?_, ?_, fun z_ => ?_, by omega, ?_⟩
              · simp only [List.length_append, List.length_cons, List.length_nil]; push_cast; omega
              · simp only [List.length_append, List.length_cons, List.length_nil]; push_cast; omega
              · simp only [List.length_cons] at z3_; omega
              · simp only [List.length_cons] at z4_; push_cast at z4_; omega
              · rw [z5_, List.append_assoc]; rfl
              · have q1_ := z6_ (by omega)
                refine ⟨?_, ?_⟩
                · exact rwv_set (q_ := (8 * a_ + k_).toNat) q1_.1 (by omega) (fun j9_ => by rw [g9_, e9_.2.1 z_])
                · exact rwv_cg q1_.2 (fun j9_ hj_ => by rw [g9_, if_neg (by omega)])
              · rw [z8_]; exact g_z2_c
            · intro j_ hj_
              rw [g9_, if_neg (by omega)]
              exact h2_ j_ hj_
            · omega
        · have cx9_ : ¬ (s_ ≠ 124) := of_decide_eq_false cx9_
          refine sm_T_go 3 (c1 := (85, [some (.inr (.inr (some (13, 0)))), some (.inl s_), some (.inl a_), some (.inl b_), some (.inl nb_), some (.inl cy_), some (.inl sa_), some (.inl k_), some (.inl (S_.2.2.1 139 0 (8 * a_ + k_).toNat)), some (.inl (S_.2.2.1 139 0 (8 * b_ + k_).toNat)), some (.inl 0), none, none], [.inl (S_.2.2.1 139 0 (8 * b_ + k_).toNat), .inl (S_.2.2.1 139 0 (8 * a_ + k_).toNat), .inr (.inr (some (13, 0)))], S_)) rfl ?_
          refine sm_T_cal (d1 := 1) (Q1 := vq_329 (S_.2.2.1 139 0 (8 * a_ + k_).toNat) (S_.2.2.1 139 0 (8 * b_ + k_).toNat) F_ G1_ r0_ s0_ S_) rfl rfl (by decide) (vc_329 (S_.2.2.1 139 0 (8 * a_ + k_).toNat) (S_.2.2.1 139 0 (8 * b_ + k_).toNat) F_ G1_ r0_ s0_ S_ hI_ (by exact z1_) (by omega) (by omega) (by exact rx)) (fun u_ Sx20_ px23_ => ?_)
          obtain ⟨vx25_, rfl, hIx21_, hFx22_, px23_⟩ := px23_
          have hFx24_ : ai_fr (sx_W vw_331w) S0_ Sx20_ := ai_fr_tr hF_ (fr_le hFx22_ rfl)
          have e9_ : rgl F_ (g_bw F_ kk_ G1_ r0_ s0_).2 Sx20_ ∧ (imq ((g_bw F_ kk_ G1_ r0_ s0_).2.length ≤ 1001) (vx25_ = (g_bw F_ kk_ G1_ r0_ s0_).1)) ∧ (0 ≤ vx25_ ∧ vx25_ ≤ 2047) := by rw [show kk_ = 1 by omega, g_bw1]; exact px23_
          have f9_ : Sx20_.2.2.1 139 0 = S_.2.2.1 139 0 := fr_arr hFx22_ rfl
          have g9_ : ∀ z9_ : Int, ∀ j9_ : Nat, (sm_aI Sx20_ 139 0 (8 * a_ + k_).toNat z9_).2.2.1 139 0 j9_ = if j9_ = (8 * a_ + k_).toNat then z9_ else S_.2.2.1 139 0 j9_ := fun z9_ j9_ => by rw [rd_eq, f9_]
          have l1_ := g_bw_le (F_ := F_) (k_ := kk_) G1_ r0_ s0_
          refine sm_T_go 6 (c1 := (206, [some (.inr (.inr (some (13, 0)))), some (.inl s_), some (.inl a_), some (.inl b_), some (.inl nb_), some (.inl cy_), some (.inl sa_), some (.inl k_), some (.inl (S_.2.2.1 139 0 (8 * a_ + k_).toNat)), some (.inl (S_.2.2.1 139 0 (8 * b_ + k_).toNat)), some (.inl vx25_), none, none], [.inl a_, .inl 8, .inr (.inr (some (139, 0)))], Sx20_)) rfl ?_
          refine sm_T_bin (w := 8 * a_) rfl (bi_mul (by omega) (by omega) (by omega)) ?_
          refine sm_T_go 1 (c1 := (209, [some (.inr (.inr (some (13, 0)))), some (.inl s_), some (.inl a_), some (.inl b_), some (.inl nb_), some (.inl cy_), some (.inl sa_), some (.inl k_), some (.inl (S_.2.2.1 139 0 (8 * a_ + k_).toNat)), some (.inl (S_.2.2.1 139 0 (8 * b_ + k_).toNat)), some (.inl vx25_), none, none], [.inl k_, .inl (8 * a_), .inr (.inr (some (139, 0)))], Sx20_)) rfl ?_
          refine sm_T_bin (w := 8 * a_ + k_) rfl (bi_add (by omega) (by omega) (by omega)) ?_
          refine sm_T_go 1 (c1 := (212, [some (.inr (.inr (some (13, 0)))), some (.inl s_), some (.inl a_), some (.inl b_), some (.inl nb_), some (.inl cy_), some (.inl sa_), some (.inl k_), some (.inl (S_.2.2.1 139 0 (8 * a_ + k_).toNat)), some (.inl (S_.2.2.1 139 0 (8 * b_ + k_).toNat)), some (.inl vx25_), none, none], [.inl vx25_, .inl (8 * a_ + k_), .inr (.inr (some (139, 0)))], Sx20_)) rfl ?_
          refine sm_T_iast (n := 8192) rfl rfl (by omega) (by omega) ?_
          have hIx26_ : gi (sm_aI Sx20_ 139 0 (8 * a_ + k_).toNat vx25_) := gi_aI hIx21_ (show 0 ≤ vx25_ ∧ vx25_ ≤ 2047 from ⟨by omega, by omega⟩)
          have hFx27_ : ai_fr (sx_W vw_331w) S0_ (sm_aI Sx20_ 139 0 (8 * a_ + k_).toNat vx25_) := ai_fr_tr hFx24_ (ai_fr_aI rfl)
          refine sm_T_inc (a := 7) (z := 1) (v := k_) (w := k_ + 1) rfl rfl (by omega) (by omega) (by omega) ?_
          refine sm_T_go 1 (c1 := (17, [some (.inr (.inr (some (13, 0)))), some (.inl s_), some (.inl a_), some (.inl b_), some (.inl nb_), some (.inl cy_), some (.inl sa_), some (.inl (k_ + 1)), some (.inl (S_.2.2.1 139 0 (8 * a_ + k_).toNat)), some (.inl (S_.2.2.1 139 0 (8 * b_ + k_).toNat)), some (.inl vx25_), none, none], [], sm_aI Sx20_ 139 0 (8 * a_ + k_).toNat vx25_)) rfl ?_
          refine sm_T_wk [some (.inr (.inr (some (13, 0)))), some (.inl s_), some (.inl a_), some (.inl b_), some (.inl nb_), some (.inl cy_), some (.inl sa_), some (.inl (k_ + 1)), none, none, none, none, none] (by exact ⟨rfl, rfl, rfl, rfl, rfl, rfl, rfl, rfl, trivial⟩) ?_
          refine ih_ nb_ cy_ sa_ (k_ + 1) (sm_aI Sx20_ 139 0 (8 * a_ + k_).toNat vx25_) hIx26_ hFx27_ ⟨?_, ?_, ?_, ?_, trivial⟩ ?_
          · omega
          · omega
          · refine ⟨(g_bw F_ kk_ G1_ r0_ s0_).2, d_ ++ [(g_bw F_ kk_ G1_ r0_ s0_).1], r_, e_ ++ [s0_], t_, rgl_st e9_.1, ?_, ?_, ?_, ?_, ?_, fun z_ => ?_, by omega, ?_⟩
            · simp only [List.length_append, List.length_cons, List.length_nil]; push_cast; omega
            · simp only [List.length_append, List.length_cons, List.length_nil]; push_cast; omega
            · simp only [List.length_cons] at z3_; omega
            · simp only [List.length_cons] at z4_; push_cast at z4_; omega
            · rw [z5_, List.append_assoc]; rfl
            · have q1_ := z6_ (by omega)
              refine ⟨?_, ?_⟩
              · exact rwv_set (q_ := (8 * a_ + k_).toNat) q1_.1 (by omega) (fun j9_ => by rw [g9_, e9_.2.1 z_])
              · exact rwv_cg q1_.2 (fun j9_ hj_ => by rw [g9_, if_neg (by omega)])
            · rw [z8_]; exact g_z2_c
          · intro j_ hj_
            rw [g9_, if_neg (by omega)]
            exact h2_ j_ hj_
          · omega
      · have cx8_ : ¬ (s_ ≠ 38) := of_decide_eq_false cx8_
        refine sm_T_go 3 (c1 := (66, [some (.inr (.inr (some (13, 0)))), some (.inl s_), some (.inl a_), some (.inl b_), some (.inl nb_), some (.inl cy_), some (.inl sa_), some (.inl k_), some (.inl (S_.2.2.1 139 0 (8 * a_ + k_).toNat)), some (.inl (S_.2.2.1 139 0 (8 * b_ + k_).toNat)), some (.inl 0), none, none], [.inl (S_.2.2.1 139 0 (8 * b_ + k_).toNat), .inl (S_.2.2.1 139 0 (8 * a_ + k_).toNat), .inr (.inr (some (13, 0)))], S_)) rfl ?_
        refine sm_T_cal (d1 := 0) (Q1 := vq_328 (S_.2.2.1 139 0 (8 * a_ + k_).toNat) (S_.2.2.1 139 0 (8 * b_ + k_).toNat) F_ G1_ r0_ s0_ S_) rfl rfl (by decide) (vc_328 (S_.2.2.1 139 0 (8 * a_ + k_).toNat) (S_.2.2.1 139 0 (8 * b_ + k_).toNat) F_ G1_ r0_ s0_ S_ hI_ (by exact z1_) (by omega) (by omega) (by exact rx)) (fun u_ Sx28_ px31_ => ?_)
        obtain ⟨vx33_, rfl, hIx29_, hFx30_, px31_⟩ := px31_
        have hFx32_ : ai_fr (sx_W vw_331w) S0_ Sx28_ := ai_fr_tr hF_ (fr_le hFx30_ rfl)
        have e9_ : rgl F_ (g_bw F_ kk_ G1_ r0_ s0_).2 Sx28_ ∧ (imq ((g_bw F_ kk_ G1_ r0_ s0_).2.length ≤ 1001) (vx33_ = (g_bw F_ kk_ G1_ r0_ s0_).1)) ∧ (0 ≤ vx33_ ∧ vx33_ ≤ 2047) := by rw [show kk_ = 3 by omega, g_bw3]; exact px31_
        have f9_ : Sx28_.2.2.1 139 0 = S_.2.2.1 139 0 := fr_arr hFx30_ rfl
        have g9_ : ∀ z9_ : Int, ∀ j9_ : Nat, (sm_aI Sx28_ 139 0 (8 * a_ + k_).toNat z9_).2.2.1 139 0 j9_ = if j9_ = (8 * a_ + k_).toNat then z9_ else S_.2.2.1 139 0 j9_ := fun z9_ j9_ => by rw [rd_eq, f9_]
        have l1_ := g_bw_le (F_ := F_) (k_ := kk_) G1_ r0_ s0_
        refine sm_T_go 6 (c1 := (206, [some (.inr (.inr (some (13, 0)))), some (.inl s_), some (.inl a_), some (.inl b_), some (.inl nb_), some (.inl cy_), some (.inl sa_), some (.inl k_), some (.inl (S_.2.2.1 139 0 (8 * a_ + k_).toNat)), some (.inl (S_.2.2.1 139 0 (8 * b_ + k_).toNat)), some (.inl vx33_), none, none], [.inl a_, .inl 8, .inr (.inr (some (139, 0)))], Sx28_)) rfl ?_
        refine sm_T_bin (w := 8 * a_) rfl (bi_mul (by omega) (by omega) (by omega)) ?_
        refine sm_T_go 1 (c1 := (209, [some (.inr (.inr (some (13, 0)))), some (.inl s_), some (.inl a_), some (.inl b_), some (.inl nb_), some (.inl cy_), some (.inl sa_), some (.inl k_), some (.inl (S_.2.2.1 139 0 (8 * a_ + k_).toNat)), some (.inl (S_.2.2.1 139 0 (8 * b_ + k_).toNat)), some (.inl vx33_), none, none], [.inl k_, .inl (8 * a_), .inr (.inr (some (139, 0)))], Sx28_)) rfl ?_
        refine sm_T_bin (w := 8 * a_ + k_) rfl (bi_add (by omega) (by omega) (by omega)) ?_
        refine sm_T_go 1 (c1 := (212, [some (.inr (.inr (some (13, 0)))), some (.inl s_), some (.inl a_), some (.inl b_), some (.inl nb_), some (.inl cy_), some (.inl sa_), some (.inl k_), some (.inl (S_.2.2.1 139 0 (8 * a_ + k_).toNat)), some (.inl (S_.2.2.1 139 0 (8 * b_ + k_).toNat)), some (.inl vx33_), none, none], [.inl vx33_, .inl (8 * a_ + k_), .inr (.inr (some (139, 0)))], Sx28_)) rfl ?_
        refine sm_T_iast (n := 8192) rfl rfl (by omega) (by omega) ?_
        have hIx34_ : gi (sm_aI Sx28_ 139 0 (8 * a_ + k_).toNat vx33_) := gi_aI hIx29_ (show 0 ≤ vx33_ ∧ vx33_ ≤ 2047 from ⟨by omega, by omega⟩)
        have hFx35_ : ai_fr (sx_W vw_331w) S0_ (sm_aI Sx28_ 139 0 (8 * a_ + k_).toNat vx33_) := ai_fr_tr hFx32_ (ai_fr_aI rfl)
        refine sm_T_inc (a := 7) (z := 1) (v := k_) (w := k_ + 1) rfl rfl (by omega) (by omega) (by omega) ?_
        refine sm_T_go 1 (c1 := (17, [some (.inr (.inr (some (13, 0)))), some (.inl s_), some (.inl a_), some (.inl b_), some (.inl nb_), some (.inl cy_), some (.inl sa_), some (.inl (k_ + 1)), some (.inl (S_.2.2.1 139 0 (8 * a_ + k_).toNat)), some (.inl (S_.2.2.1 139 0 (8 * b_ + k_).toNat)), some (.inl vx33_), none, none], [], sm_aI Sx28_ 139 0 (8 * a_ + k_).toNat vx33_)) rfl ?_
        refine sm_T_wk [some (.inr (.inr (some (13, 0)))), some (.inl s_), some (.inl a_), some (.inl b_), some (.inl nb_), some (.inl cy_), some (.inl sa_), some (.inl (k_ + 1)), none, none, none, none, none] (by exact ⟨rfl, rfl, rfl, rfl, rfl, rfl, rfl, rfl, trivial⟩) ?_
        refine ih_ nb_ cy_ sa_ (k_ + 1) (sm_aI Sx28_ 139 0 (8 * a_ + k_).toNat vx33_) hIx34_ hFx35_ ⟨?_, ?_, ?_, ?_, trivial⟩ ?_
        · omega
        · omega
        · refine ⟨(g_bw F_ kk_ G1_ r0_ s0_).2, d_ ++ [(g_bw F_ kk_ G1_ r0_ s0_).1], r_, e_ ++ [s0_], t_, rgl_st e9_.1, ?_, ?_, ?_, ?_, ?_, fun z_ => ?_, by omega, ?_⟩
          · simp only [List.length_append, List.length_cons, List.length_nil]; push_cast; omega
          · simp only [List.length_append, List.length_cons, List.length_nil]; push_cast; omega
          · simp only [List.length_cons] at z3_; omega
          · simp only [List.length_cons] at z4_; push_cast at z4_; omega
          · rw [z5_, List.append_assoc]; rfl
          · have q1_ := z6_ (by omega)
            refine ⟨?_, ?_⟩
            · exact rwv_set (q_ := (8 * a_ + k_).toNat) q1_.1 (by omega) (fun j9_ => by rw [g9_, e9_.2.1 z_])
            · exact rwv_cg q1_.2 (fun j9_ hj_ => by rw [g9_, if_neg (by omega)])
          · rw [z8_]; exact g_z2_c
        · intro j_ hj_
          rw [g9_, if_neg (by omega)]
          exact h2_ j_ hj_
        · omega
set_option maxHeartbeats 1500000 in
set_option maxRecDepth 20000 in
theorem vc_331w {sc_ : Nat × (Nat → Int)} (s_ : Int) (a_ : Int) (b_ : Int) (F_ : Nat) (G_ : pGr) (x_ : List Int) (y_ : List Int) (kk_ : Int) (S0_ : sm_S) (hI_ : gi S0_) (hg_ : rgl F_ G_ S0_) (ha_ : 0 ≤ a_ ∧ a_ + 1 ≤ b_ ∧ b_ ≤ 1023) (hw_ : S0_.2.2.1 138 0 a_.toNat = (x_.length : Int)) (hn_ : x_.length = y_.length ∧ 1 ≤ x_.length ∧ x_.length ≤ 8) (hr_ : imq (G_.length ≤ 1001) (rwv (S0_.2.2.1 139 0) (8 * a_.toNat) x_ ∧ rwv (S0_.2.2.1 139 0) (8 * b_.toNat) y_)) (hs_ : (s_ = 124 ∧ kk_ = 1) ∨ (s_ = 94 ∧ kk_ = 2) ∨ (s_ = 38 ∧ kk_ = 3)) : sm_T (mt_P sc_) 3 331 (0, [some (.inr (.inr (some (13, 0)))), some (.inl s_), some (.inl a_), some (.inl b_), none, none, none, none, none, none, none, none, none], [], S0_) (fun ro9_ => ∃ u_ S1_, ro9_ = (.inl u_, S1_, 0) ∧ vq_331w s_ a_ b_ F_ G_ x_ y_ kk_ S0_ u_ S1_) := by
  have hF_ : ai_fr (sx_W vw_331w) S0_ S0_ := ai_fr_rf
  refine sm_T_go 3 (c1 := (5, [some (.inr (.inr (some (13, 0)))), some (.inl s_), some (.inl a_), some (.inl b_), none, none, none, none, none, none, none, none, none], [.inl a_, .inr (.inr (some (138, 0)))], S0_)) rfl ?_
  refine sm_T_iald (n := 1024) rfl rfl (by omega) (by omega) ?_
  have bx1_ : (-2147483648) ≤ S0_.2.2.1 138 0 a_.toNat ∧ S0_.2.2.1 138 0 a_.toNat ≤ 2147483647 := hI_.2 138 0 _
  refine sm_T_go 7 (c1 := (17, [some (.inr (.inr (some (13, 0)))), some (.inl s_), some (.inl a_), some (.inl b_), some (.inl (S0_.2.2.1 138 0 a_.toNat)), some (.inl 0), some (.inl 1), some (.inl 0), none, none, none, none, none], [], S0_)) rfl ?_
  refine (vl_331w s_ a_ b_ F_ G_ x_ y_ kk_ S0_ hg_ ha_ hw_ hn_ hr_ hs_ _) (S0_.2.2.1 138 0 a_.toNat) 0 1 0 S0_ hI_ hF_ ⟨?_, ?_, ?_, ?_, trivial⟩ (Nat.lt_succ_self _)
  · omega
  · omega
  · exact ⟨G_, [], x_, [], y_, hg_, rfl, rfl, hn_.1, by omega, rfl, hr_, Nat.le_refl _, rfl⟩
  · (intro j_ hj_; rfl)
end
/-! 99.zc2c -/
section
/-! M_.join -/
def vw_331p : sx_Wl := ([(13, 37)], [139, 140, 141, 142, 143], [])
def vq_331p (s_ : Int) (a_ : Int) (b_ : Int) (F_ : Nat) (G_ : pGr) (x_ : List Int) (y_ : List Int) (S0_ : sm_S) (u_ : Option sm_V) (S1_ : sm_S) : Prop := u_ = none ∧ gi S1_ ∧ ai_fr (sx_W vw_331p) S0_ S1_ ∧ (rgl F_ (g_op F_ 5 G_ x_ y_).2 S1_ ∧ (imq ((g_op F_ 5 G_ x_ y_).2.length ≤ 1001) (rwv (S1_.2.2.1 139 0) (8 * a_.toNat) (g_op F_ 5 G_ x_ y_).1)) ∧ ∀ j_ : Nat, j_ < 8 * a_.toNat ∨ 8 * a_.toNat + 8 ≤ j_ → S1_.2.2.1 139 0 j_ = S0_.2.2.1 139 0 j_)
set_option maxHeartbeats 1500000 in
set_option maxRecDepth 20000 in
theorem vl_331p {sc_ : Nat × (Nat → Int)} (s_ : Int) (a_ : Int) (b_ : Int) (F_ : Nat) (G_ : pGr) (x_ : List Int) (y_ : List Int) (S0_ : sm_S) (hg_ : rgl F_ G_ S0_) (ha_ : 0 ≤ a_ ∧ a_ + 1 ≤ b_ ∧ b_ ≤ 1023) (hw_ : S0_.2.2.1 138 0 a_.toNat = (x_.length : Int)) (hn_ : x_.length = y_.length ∧ 1 ≤ x_.length ∧ x_.length ≤ 8) (hr_ : imq (G_.length ≤ 1001) (rwv (S0_.2.2.1 139 0) (8 * a_.toNat) x_ ∧ rwv (S0_.2.2.1 139 0) (8 * b_.toNat) y_)) (hs_ : s_ = 43) : ∀ nn_ : Nat, (∀ (nb_ : Int) (cy_ : Int) (sa_ : Int) (k_ : Int) (S_ : sm_S), gi S_ → ai_fr (sx_W vw_331p) S0_ S_ → ((0 ≤ k_ ∧ k_ ≤ nb_ ∧ nb_ = (x_.length : Int)) ∧ ((0 ≤ cy_ ∧ cy_ ≤ 2047) ∧ (0 ≤ sa_ ∧ sa_ ≤ 2047)) ∧ (∃ (G1_ : pGr) (c1_ : Int) (d_ r_ e_ t_ : List Int), rgl F_ G1_ S_ ∧ (d_.length : Int) = k_ ∧ (e_.length : Int) = k_ ∧ r_.length = t_.length ∧ k_ + r_.length = nb_ ∧ y_ = e_ ++ t_ ∧ (imq (G1_.length ≤ 1001) (rwv (S_.2.2.1 139 0) (8 * a_.toNat) (d_ ++ r_) ∧ rwv (S_.2.2.1 139 0) (8 * b_.toNat) y_)) ∧ G_.length ≤ G1_.length ∧ (imq (G1_.length ≤ 1001) (cy_ = c1_)) ∧ (g_su F_ G_ 0 x_ y_) = (d_ ++ (g_su F_ G1_ c1_ r_ t_).1, (g_su F_ G1_ c1_ r_ t_).2)) ∧ (∀ j_ : Nat, j_ < 8 * a_.toNat ∨ 8 * a_.toNat + 8 ≤ j_ → S_.2.2.1 139 0 j_ = S0_.2.2.1 139 0 j_) ∧ True) → ((nb_ - k_).toNat) < nn_ → sm_T (mt_P sc_) 3 331 (17, [some (.inr (.inr (some (13, 0)))), some (.inl s_), some (.inl a_), some (.inl b_), some (.inl nb_), some (.inl cy_), some (.inl sa_), some (.inl k_), none, none, none, none, none], [], S_) (fun ro9_ => ∃ u_ S1_, ro9_ = (.inl u_, S1_, 0) ∧ vq_331p s_ a_ b_ F_ G_ x_ y_ S0_ u_ S1_)) := by
  intro nn_
  induction nn_ with
  | zero => exact fun _ _ _ _ _ _ _ _ h_ => absurd h_ (Nat.not_lt_zero _)
  | succ nn_ ih_ =>
    rintro nb_ cy_ sa_ k_ S_ hI_ hF_ ⟨h0_, hb0_, h1_, h2_, -⟩ hm_
    obtain ⟨G1_, c1_, d_, r_, e_, t_, z1_, z2_, z2b, z3_, z4_, z5_, z6_, z7_, zc_, z8_⟩ := h1_
    refine sm_T_go 2 (c1 := (21, [some (.inr (.inr (some (13, 0)))), some (.inl s_), some (.inl a_), some (.inl b_), some (.inl nb_), some (.inl cy_), some (.inl sa_), some (.inl k_), none, none, none, none, none], [.inl nb_, .inl k_], S_)) rfl ?_
    refine sm_T_br (a := 3) (z := 198) rfl (fun cx1_ => ?_) (fun cx1_ => ?_)
    · have cx1_ : nb_ ≤ k_ := of_decide_eq_true cx1_
      refine sm_T_go 4 (c1 := (226, [some (.inr (.inr (some (13, 0)))), some (.inl s_), some (.inl a_), some (.inl b_), some (.inl nb_), some (.inl cy_), some (.inl sa_), some (.inl k_), none, none, none, none, none], [.inl a_, .inl 8, .inr (.inr (some (139, 0)))], S_)) rfl ?_
      refine sm_T_bin (w := 8 * a_) rfl (bi_mul (by omega) (by omega) (by omega)) ?_
      refine sm_T_go 2 (c1 := (231, [some (.inr (.inr (some (13, 0)))), some (.inl s_), some (.inl a_), some (.inl b_), some (.inl nb_), some (.inl cy_), some (.inl sa_), some (.inl k_), none, none, none, none, none], [.inl 257, .inl s_, .inl (8 * a_), .inr (.inr (some (139, 0)))], S_)) rfl ?_
      refine sm_T_br (a := 1) (z := 8) rfl (fun cx2_ => ?_) (fun cx2_ => ?_)
      · have cx2_ : s_ ≠ 257 := of_decide_eq_true cx2_
        refine sm_T_go 4 (c1 := (246, [some (.inr (.inr (some (13, 0)))), some (.inl s_), some (.inl a_), some (.inl b_), some (.inl nb_), some (.inl cy_), some (.inl sa_), some (.inl k_), none, none, none, none, none], [.inl a_, .inl 8, .inr (.inr (some (139, 0))), .inl (8 * a_), .inr (.inr (some (139, 0)))], S_)) rfl ?_
        refine sm_T_bin (w := 8 * a_) rfl (bi_mul (by omega) (by omega) (by omega)) ?_
        refine sm_T_iald (n := 8192) rfl rfl (by omega) (by omega) ?_
        have bx3_ : 0 ≤ S_.2.2.1 139 0 (8 * a_).toNat ∧ S_.2.2.1 139 0 (8 * a_).toNat ≤ 2047 := hI_.2 139 0 _
        refine sm_T_iast (n := 8192) rfl rfl (by omega) (by omega) ?_
        have hIx4_ : gi (sm_aI S_ 139 0 (8 * a_).toNat (S_.2.2.1 139 0 (8 * a_).toNat)) := gi_aI hI_ (show 0 ≤ (S_.2.2.1 139 0 (8 * a_).toNat) ∧ (S_.2.2.1 139 0 (8 * a_).toNat) ≤ 2047 from ⟨by omega, by omega⟩)
        have hFx5_ : ai_fr (sx_W vw_331p) S0_ (sm_aI S_ 139 0 (8 * a_).toNat (S_.2.2.1 139 0 (8 * a_).toNat)) := ai_fr_tr hF_ (ai_fr_aI rfl)
        refine sm_T_rv rfl ⟨_, _, rfl, rfl, hIx4_, hFx5_, ?_⟩
        have kr_ : r_ = [] := List.eq_nil_of_length_eq_zero (by omega)
        have ks_ : t_ = [] := List.eq_nil_of_length_eq_zero (by omega)
        rw [kr_, ks_] at z8_
        have q8_ : g_su F_ G1_ c1_ [] [] = ([], G1_) := rfl
        rw [q8_, List.append_nil] at z8_
        rw [g_op5, z8_]
        refine ⟨rgl_st z1_, fun z_ => ?_, fun j_ hj_ => ?_⟩
        · have q9_ := (z6_ z_).1; rw [kr_, List.append_nil] at q9_; exact rwv_cg q9_ (fun j9_ _ => rd_self)
        · rw [rd_self]; exact h2_ j_ hj_
      · have cx2_ : ¬ (s_ ≠ 257) := of_decide_eq_false cx2_
        exfalso; omega
    · have cx1_ : ¬ (nb_ ≤ k_) := of_decide_eq_false cx1_
      obtain ⟨r0_, r_, rfl⟩ : ∃ r0_ r1_, r_ = r0_ :: r1_ := by cases r_ with | nil => (simp only [List.length_nil] at z4_; omega) | cons p_ q_ => exact ⟨p_, q_, rfl⟩
      obtain ⟨s0_, t_, rfl⟩ : ∃ s0_ s1_, t_ = s0_ :: s1_ := by cases t_ with | nil => (simp only [List.length_nil, List.length_cons] at z3_ z4_; omega) | cons p_ q_ => exact ⟨p_, q_, rfl⟩
      have rx : imq (G1_.length ≤ 1001) (S_.2.2.1 139 0 (8 * a_ + k_).toNat = r0_ ∧ S_.2.2.1 139 0 (8 * b_ + k_).toNat = s0_) := fun z_ => by rw [show (8 * a_ + k_).toNat = 8 * a_.toNat + d_.length by omega, show (8 * b_ + k_).toNat = 8 * b_.toNat + e_.length by omega]; exact ⟨rwv_m (z6_ z_).1, rwv_m (by rw [← z5_]; exact (z6_ z_).2)⟩
      have l1_ := g_xo_le (F_ := F_) (G_ := G1_) (a_ := r0_) (b_ := s0_)
      have l2_ := g_xo_le (F_ := F_) (G_ := (g_xo F_ G1_ r0_ s0_).2) (a_ := (g_xo F_ G1_ r0_ s0_).1) (b_ := c1_)
      have l3_ := (g_an_le (F_ := F_) (G_ := (g_xo F_ (g_xo F_ G1_ r0_ s0_).2 (g_xo F_ G1_ r0_ s0_).1 c1_).2) (a_ := r0_) (b_ := s0_)).1
      have l4_ := (g_an_le (F_ := F_) (G_ := (g_an F_ (g_xo F_ (g_xo F_ G1_ r0_ s0_).2 (g_xo F_ G1_ r0_ s0_).1 c1_).2 r0_ s0_).2) (a_ := (g_xo F_ G1_ r0_ s0_).1) (b_ := c1_)).1
      have l5_ := g_or_le (F_ := F_) (G_ := (g_an F_ (g_an F_ (g_xo F_ (g_xo F_ G1_ r0_ s0_).2 (g_xo F_ G1_ r0_ s0_).1 c1_).2 r0_ s0_).2 (g_xo F_ G1_ r0_ s0_).1 c1_).2) (a_ := (g_an F_ (g_xo F_ (g_xo F_ G1_ r0_ s0_).2 (g_xo F_ G1_ r0_ s0_).1 c1_).2 r0_ s0_).1) (b_ := (g_an F_ (g_an F_ (g_xo F_ (g_xo F_ G1_ r0_ s0_).2 (g_xo F_ G1_ r0_ s0_).1 c1_).2 r0_ s0_).2 (g_xo F_ G1_ r0_ s0_).1 c1_).1)
      refine sm_T_go 4 (c1 := (31, [some (.inr (.inr (some (13, 0)))), some (.inl s_), some (.inl a_), some (.inl b_), some (.inl nb_), some (.inl cy_), some (.inl sa_), some (.inl k_), none, none, none, none, none], [.inl a_, .inl 8, .inr (.inr (some (139, 0)))], S_)) rfl ?_
      refine sm_T_bin (w := 8 * a_) rfl (bi_mul (by omega) (by omega) (by omega)) ?_
      refine sm_T_go 1 (c1 := (34, [some (.inr (.inr (some (13, 0)))), some (.inl s_), some (.inl a_), some (.inl b_), some (.inl nb_), some (.inl cy_), some (.inl sa_), some (.inl k_), none, none, none, none, none], [.inl k_, .inl (8 * a_), .inr (.inr (some (139, 0)))], S_)) rfl ?_
      refine sm_T_bin (w := 8 * a_ + k_) rfl (bi_add (by omega) (by omega) (by omega)) ?_
      refine sm_T_iald (n := 8192) rfl rfl (by omega) (by omega) ?_
      have bx6_ : 0 ≤ S_.2.2.1 139 0 (8 * a_ + k_).toNat ∧ S_.2.2.1 139 0 (8 * a_ + k_).toNat ≤ 2047 := hI_.2 139 0 _
      refine sm_T_go 5 (c1 := (45, [some (.inr (.inr (some (13, 0)))), some (.inl s_), some (.inl a_), some (.inl b_), some (.inl nb_), some (.inl cy_), some (.inl sa_), some (.inl k_), some (.inl (S_.2.2.1 139 0 (8 * a_ + k_).toNat)), none, none, none, none], [.inl b_, .inl 8, .inr (.inr (some (139, 0)))], S_)) rfl ?_
      refine sm_T_bin (w := 8 * b_) rfl (bi_mul (by omega) (by omega) (by omega)) ?_
      refine sm_T_go 1 (c1 := (48, [some (.inr (.inr (some (13, 0)))), some (.inl s_), some (.inl a_), some (.inl b_), some (.inl nb_), some (.inl cy_), some (.inl sa_), some (.inl k_), some (.inl (S_.2.2.1 139 0 (8 * a_ + k_).toNat)), none, none, none, none], [.inl k_, .inl (8 * b_), .inr (.inr (some (139, 0)))], S_)) rfl ?_
      refine sm_T_bin (w := 8 * b_ + k_) rfl (bi_add (by omega) (by omega) (by omega)) ?_
      refine sm_T_iald (n := 8192) rfl rfl (by omega) (by omega) ?_
      have bx7_ : 0 ≤ S_.2.2.1 139 0 (8 * b_ + k_).toNat ∧ S_.2.2.1 139 0 (8 * b_ + k_).toNat ≤ 2047 := hI_.2 139 0 _
      refine sm_T_go 5 (c1 := (58, [some (.inr (.inr (some (13, 0)))), some (.inl s_), some (.inl a_), some (.inl b_), some (.inl nb_), some (.inl cy_), some (.inl sa_), some (.inl k_), some (.inl (S_.2.2.1 139 0 (8 * a_ + k_).toNat)), some (.inl (S_.2.2.1 139 0 (8 * b_ + k_).toNat)), some (.inl 0), none, none], [.inl 38, .inl s_], S_)) rfl ?_
      refine sm_T_br (a := 1) (z := 16) rfl (fun cx8_ => ?_) (fun cx8_ => ?_)
      · have cx8_ : s_ ≠ 38 := of_decide_eq_true cx8_
        refine sm_T_go 2 (c1 := (77, [some (.inr (.inr (some (13, 0)))), some (.inl s_), some (.inl a_), some (.inl b_), some (.inl nb_), some (.inl cy_), some (.inl sa_), some (.inl k_), some (.inl (S_.2.2.1 139 0 (8 * a_ + k_).toNat)), some (.inl (S_.2.2.1 139 0 (8 * b_ + k_).toNat)), some (.inl 0), none, none], [.inl 124, .inl s_], S_)) rfl ?_
        refine sm_T_br (a := 1) (z := 16) rfl (fun cx9_ => ?_) (fun cx9_ => ?_)
        · have cx9_ : s_ ≠ 124 := of_decide_eq_true cx9_
          refine sm_T_go 2 (c1 := (96, [some (.inr (.inr (some (13, 0)))), some (.inl s_), some (.inl a_), some (.inl b_), some (.inl nb_), some (.inl cy_), some (.inl sa_), some (.inl k_), some (.inl (S_.2.2.1 139 0 (8 * a_ + k_).toNat)), some (.inl (S_.2.2.1 139 0 (8 * b_ + k_).toNat)), some (.inl 0), none, none], [.inl 94, .inl s_], S_)) rfl ?_
          refine sm_T_br (a := 1) (z := 16) rfl (fun cx10_ => ?_) (fun cx10_ => ?_)
          · have cx10_ : s_ ≠ 94 := of_decide_eq_true cx10_
            refine sm_T_go 2 (c1 := (115, [some (.inr (.inr (some (13, 0)))), some (.inl s_), some (.inl a_), some (.inl b_), some (.inl nb_), some (.inl cy_), some (.inl sa_), some (.inl k_), some (.inl (S_.2.2.1 139 0 (8 * a_ + k_).toNat)), some (.inl (S_.2.2.1 139 0 (8 * b_ + k_).toNat)), some (.inl 0), none, none], [.inl 43, .inl s_], S_)) rfl ?_
            refine sm_T_br (a := 1) (z := 52) rfl (fun cx11_ => ?_) (fun cx11_ => ?_)
            · have cx11_ : s_ ≠ 43 := of_decide_eq_true cx11_
              exfalso; omega
            · have cx11_ : ¬ (s_ ≠ 43) := of_decide_eq_false cx11_
              refine sm_T_go 3 (c1 := (123, [some (.inr (.inr (some (13, 0)))), some (.inl s_), some (.inl a_), some (.inl b_), some (.inl nb_), some (.inl cy_), some (.inl sa_), some (.inl k_), some (.inl (S_.2.2.1 139 0 (8 * a_ + k_).toNat)), some (.inl (S_.2.2.1 139 0 (8 * b_ + k_).toNat)), some (.inl 0), none, none], [.inl (S_.2.2.1 139 0 (8 * b_ + k_).toNat), .inl (S_.2.2.1 139 0 (8 * a_ + k_).toNat), .inr (.inr (some (13, 0)))], S_)) rfl ?_
              refine sm_T_cal (d1 := 2) (Q1 := vq_330 (S_.2.2.1 139 0 (8 * a_ + k_).toNat) (S_.2.2.1 139 0 (8 * b_ + k_).toNat) F_ G1_ r0_ s0_ S_) rfl rfl (by decide) (vc_330 (S_.2.2.1 139 0 (8 * a_ + k_).toNat) (S_.2.2.1 139 0 (8 * b_ + k_).toNat) F_ G1_ r0_ s0_ S_ hI_ (by exact z1_) (by omega) (by omega) (by exact rx)) (fun u_ Sx12_ px15_ => ?_)
              obtain ⟨vx17_, rfl, hIx13_, hFx14_, px15_⟩ := px15_
              have hFx16_ : ai_fr (sx_W vw_331p) S0_ Sx12_ := ai_fr_tr hF_ (fr_le hFx14_ rfl)
              have e39_ := px15_
              have f123_ : Sx12_.2.2.1 139 0 = S_.2.2.1 139 0 := fr_arr hFx14_ rfl
              refine sm_T_go 4 (c1 := (133, [some (.inr (.inr (some (13, 0)))), some (.inl s_), some (.inl a_), some (.inl b_), some (.inl nb_), some (.inl cy_), some (.inl sa_), some (.inl k_), some (.inl (S_.2.2.1 139 0 (8 * a_ + k_).toNat)), some (.inl (S_.2.2.1 139 0 (8 * b_ + k_).toNat)), some (.inl 0), some (.inl vx17_), none], [.inl cy_, .inl vx17_, .inr (.inr (some (13, 0)))], Sx12_)) rfl ?_
              refine sm_T_cal (d1 := 2) (Q1 := vq_330 vx17_ cy_ F_ (g_xo F_ G1_ r0_ s0_).2 (g_xo F_ G1_ r0_ s0_).1 c1_ Sx12_) rfl rfl (by decide) (vc_330 vx17_ cy_ F_ (g_xo F_ G1_ r0_ s0_).2 (g_xo F_ G1_ r0_ s0_).1 c1_ Sx12_ hIx13_ (by exact e39_.1) (by omega) (by omega) (by (intro z_; exact ⟨e39_.2.1 z_, zc_ (by omega)⟩))) (fun u_ Sx18_ px21_ => ?_)
              obtain ⟨vx23_, rfl, hIx19_, hFx20_, px21_⟩ := px21_
              have hFx22_ : ai_fr (sx_W vw_331p) S0_ Sx18_ := ai_fr_tr hFx16_ (fr_le hFx20_ rfl)
              have e57_ := px21_
              have f133_ : Sx18_.2.2.1 139 0 = S_.2.2.1 139 0 := (fr_arr hFx20_ rfl).trans f123_
              refine sm_T_go 4 (c1 := (143, [some (.inr (.inr (some (13, 0)))), some (.inl s_), some (.inl a_), some (.inl b_), some (.inl nb_), some (.inl cy_), some (.inl sa_), some (.inl k_), some (.inl (S_.2.2.1 139 0 (8 * a_ + k_).toNat)), some (.inl (S_.2.2.1 139 0 (8 * b_ + k_).toNat)), some (.inl vx23_), some (.inl vx17_), none], [.inl (S_.2.2.1 139 0 (8 * b_ + k_).toNat), .inl (S_.2.2.1 139 0 (8 * a_ + k_).toNat), .inr (.inr (some (13, 0)))], Sx18_)) rfl ?_
              refine sm_T_cal (d1 := 0) (Q1 := vq_328 (S_.2.2.1 139 0 (8 * a_ + k_).toNat) (S_.2.2.1 139 0 (8 * b_ + k_).toNat) F_ (g_xo F_ (g_xo F_ G1_ r0_ s0_).2 (g_xo F_ G1_ r0_ s0_).1 c1_).2 r0_ s0_ Sx18_) rfl rfl (by decide) (vc_328 (S_.2.2.1 139 0 (8 * a_ + k_).toNat) (S_.2.2.1 139 0 (8 * b_ + k_).toNat) F_ (g_xo F_ (g_xo F_ G1_ r0_ s0_).2 (g_xo F_ G1_ r0_ s0_).1 c1_).2 r0_ s0_ Sx18_ hIx19_ (by exact e57_.1) (by omega) (by omega) (by (intro z_; exact rx (by omega)))) (fun u_ Sx24_ px27_ => ?_)
              obtain ⟨vx29_, rfl, hIx25_, hFx26_, px27_⟩ := px27_
              have hFx28_ : ai_fr (sx_W vw_331p) S0_ Sx24_ := ai_fr_tr hFx22_ (fr_le hFx26_ rfl)
              have e66_ := px27_
              have f143_ : Sx24_.2.2.1 139 0 = S_.2.2.1 139 0 := (fr_arr hFx26_ rfl).trans f133_
              refine sm_T_go 6 (c1 := (156, [some (.inr (.inr (some (13, 0)))), some (.inl s_), some (.inl a_), some (.inl b_), some (.inl nb_), some (.inl cy_), some (.inl sa_), some (.inl k_), some (.inl (S_.2.2.1 139 0 (8 * a_ + k_).toNat)), some (.inl (S_.2.2.1 139 0 (8 * b_ + k_).toNat)), some (.inl vx23_), some (.inl vx17_), some (.inl vx29_)], [.inl cy_, .inl vx17_, .inr (.inr (some (13, 0))), .inl vx29_, .inr (.inr (some (13, 0)))], Sx24_)) rfl ?_
              refine sm_T_cal (d1 := 0) (Q1 := vq_328 vx17_ cy_ F_ (g_an F_ (g_xo F_ (g_xo F_ G1_ r0_ s0_).2 (g_xo F_ G1_ r0_ s0_).1 c1_).2 r0_ s0_).2 (g_xo F_ G1_ r0_ s0_).1 c1_ Sx24_) rfl rfl (by decide) (vc_328 vx17_ cy_ F_ (g_an F_ (g_xo F_ (g_xo F_ G1_ r0_ s0_).2 (g_xo F_ G1_ r0_ s0_).1 c1_).2 r0_ s0_).2 (g_xo F_ G1_ r0_ s0_).1 c1_ Sx24_ hIx25_ (by exact e66_.1) (by omega) (by omega) (by (intro z_; exact ⟨e39_.2.1 (by omega), zc_ (by omega)⟩))) (fun u_ Sx30_ px33_ => ?_)
              obtain ⟨vx35_, rfl, hIx31_, hFx32_, px33_⟩ := px33_
              have hFx34_ : ai_fr (sx_W vw_331p) S0_ Sx30_ := ai_fr_tr hFx28_ (fr_le hFx32_ rfl)
              have e79_ := px33_
              have f156_ : Sx30_.2.2.1 139 0 = S_.2.2.1 139 0 := (fr_arr hFx32_ rfl).trans f143_
              refine sm_T_cal (d1 := 1) (Q1 := vq_329 vx29_ vx35_ F_ (g_an F_ (g_an F_ (g_xo F_ (g_xo F_ G1_ r0_ s0_).2 (g_xo F_ G1_ r0_ s0_).1 c1_).2 r0_ s0_).2 (g_xo F_ G1_ r0_ s0_).1 c1_).2 (g_an F_ (g_xo F_ (g_xo F_ G1_ r0_ s0_).2 (g_xo F_ G1_ r0_ s0_).1 c1_).2 r0_ s0_).1 (g_an F_ (g_an F_ (g_xo F_ (g_xo F_ G1_ r0_ s0_).2 (g_xo F_ G1_ r0_ s0_).1 c1_).2 r0_ s0_).2 (g_xo F_ G1_ r0_ s0_).1 c1_).1 Sx30_) rfl rfl (by decide) (vc_329 vx29_ vx35_ F_ (g_an F_ (g_an F_ (g_xo F_ (g_xo F_ G1_ r0_ s0_).2 (g_xo F_ G1_ r0_ s0_).1 c1_).2 r0_ s0_).2 (g_xo F_ G1_ r0_ s0_).1 c1_).2 (g_an F_ (g_xo F_ (g_xo F_ G1_ r0_ s0_).2 (g_xo F_ G1_ r0_ s0_).1 c1_).2 r0_ s0_).1 (g_an F_ (g_an F_ (g_xo F_ (g_xo F_ G1_ r0_ s0_).2 (g_xo F_ G1_ r0_ s0_).1 c1_).2 r0_ s0_).2 (g_xo F_ G1_ r0_ s0_).1 c1_).1 Sx30_ hIx31_ (by exact e79_.1) (by omega) (by omega) (by (intro z_; exact ⟨e66_.2.1 (by omega), e79_.2.1 (by omega)⟩))) (fun u_ Sx36_ px39_ => ?_)
              obtain ⟨vx41_, rfl, hIx37_, hFx38_, px39_⟩ := px39_
              have hFx40_ : ai_fr (sx_W vw_331p) S0_ Sx36_ := ai_fr_tr hFx34_ (fr_le hFx38_ rfl)
              have e82_ := px39_
              have f159_ : Sx36_.2.2.1 139 0 = S_.2.2.1 139 0 := (fr_arr hFx38_ rfl).trans f156_
              have g9_ : ∀ z9_ : Int, ∀ j9_ : Nat, (sm_aI Sx36_ 139 0 (8 * a_ + k_).toNat z9_).2.2.1 139 0 j9_ = if j9_ = (8 * a_ + k_).toNat then z9_ else S_.2.2.1 139 0 j9_ := fun z9_ j9_ => by rw [rd_eq, f159_]
              refine sm_T_go 6 (c1 := (206, [some (.inr (.inr (some (13, 0)))), some (.inl s_), some (.inl a_), some (.inl b_), some (.inl nb_), some (.inl vx41_), some (.inl sa_), some (.inl k_), some (.inl (S_.2.2.1 139 0 (8 * a_ + k_).toNat)), some (.inl (S_.2.2.1 139 0 (8 * b_ + k_).toNat)), some (.inl vx23_), some (.inl vx17_), some (.inl vx29_)], [.inl a_, .inl 8, .inr (.inr (some (139, 0)))], Sx36_)) rfl ?_
              refine sm_T_bin (w := 8 * a_) rfl (bi_mul (by omega) (by omega) (by omega)) ?_
              refine sm_T_go 1 (c1 := (209, [some (.inr (.inr (some (13, 0)))), some (.inl s_), some (.inl a_), some (.inl b_), some (.inl nb_), some (.inl vx41_), some (.inl sa_), some (.inl k_), some (.inl (S_.2.2.1 139 0 (8 * a_ + k_).toNat)), some (.inl (S_.2.2.1 139 0 (8 * b_ + k_).toNat)), some (.inl vx23_), some (.inl vx17_), some (.inl vx29_)], [.inl k_, .inl (8 * a_), .inr (.inr (some (139, 0)))], Sx36_)) rfl ?_
              refine sm_T_bin (w := 8 * a_ + k_) rfl (bi_add (by omega) (by omega) (by omega)) ?_
              refine sm_T_go 1 (c1 := (212, [some (.inr (.inr (some (13, 0)))), some (.inl s_), some (.inl a_), some (.inl b_), some (.inl nb_), some (.inl vx41_), some (.inl sa_), some (.inl k_), some (.inl (S_.2.2.1 139 0 (8 * a_ + k_).toNat)), some (.inl (S_.2.2.1 139 0 (8 * b_ + k_).toNat)), some (.inl vx23_), some (.inl vx17_), some (.inl vx29_)], [.inl vx23_, .inl (8 * a_ + k_), .inr (.inr (some (139, 0)))], Sx36_)) rfl ?_
              refine sm_T_iast (n := 8192) rfl rfl (by omega) (by omega) ?_
              have hIx42_ : gi (sm_aI Sx36_ 139 0 (8 * a_ + k_).toNat vx23_) := gi_aI hIx37_ (show 0 ≤ vx23_ ∧ vx23_ ≤ 2047 from ⟨by omega, by omega⟩)
              have hFx43_ : ai_fr (sx_W vw_331p) S0_ (sm_aI Sx36_ 139 0 (8 * a_ + k_).toNat vx23_) := ai_fr_tr hFx40_ (ai_fr_aI rfl)
              refine sm_T_inc (a := 7) (z := 1) (v := k_) (w := k_ + 1) rfl rfl (by omega) (by omega) (by omega) ?_
              refine sm_T_go 1 (c1 := (17, [some (.inr (.inr (some (13, 0)))), some (.inl s_), some (.inl a_), some (.inl b_), some (.inl nb_), some (.inl vx41_), some (.inl sa_), some (.inl (k_ + 1)), some (.inl (S_.2.2.1 139 0 (8 * a_ + k_).toNat)), some (.inl (S_.2.2.1 139 0 (8 * b_ + k_).toNat)), some (.inl vx23_), some (.inl vx17_), some (.inl vx29_)], [], sm_aI Sx36_ 139 0 (8 * a_ + k_).toNat vx23_)) rfl ?_
              refine sm_T_wk [some (.inr (.inr (some (13, 0)))), some (.inl s_), some (.inl a_), some (.inl b_), some (.inl nb_), some (.inl vx41_), some (.inl sa_), some (.inl (k_ + 1)), none, none, none, none, none] (by exact ⟨rfl, rfl, rfl, rfl, rfl, rfl, rfl, rfl, trivial⟩) ?_
              refine ih_ nb_ vx41_ sa_ (k_ + 1) (sm_aI Sx36_ 139 0 (8 * a_ + k_).toNat vx23_) hIx42_ hFx43_ ⟨?_, ?_, ?_, ?_, trivial⟩ ?_
              · omega
              · omega
              · refine ⟨(g_s3 F_ G1_ c1_ r0_ s0_).2.2, (g_s3 F_ G1_ c1_ r0_ s0_).2.1, d_ ++ [(g_s3 F_ G1_ c1_ r0_ s0_).1], r_, e_ ++ [s0_], t_, rgl_st e82_.1, ?_, ?_, ?_, ?_, ?_, fun z_ => ?_, ?_, fun z_ => e82_.2.1 z_, ?_⟩
                · simp only [List.length_append, List.length_cons, List.length_nil]; push_cast; omega
                · simp only [List.length_append, List.length_cons, List.length_nil]; push_cast; omega
                · simp only [List.length_cons] at z3_; omega
                · simp only [List.length_cons] at z4_; push_cast at z4_; omega
                · rw [z5_, List.append_assoc]; rfl
                · have zz_ : (g_or F_ (g_an F_ (g_an F_ (g_xo F_ (g_xo F_ G1_ r0_ s0_).2 (g_xo F_ G1_ r0_ s0_).1 c1_).2 r0_ s0_).2 (g_xo F_ G1_ r0_ s0_).1 c1_).2 (g_an F_ (g_xo F_ (g_xo F_ G1_ r0_ s0_).2 (g_xo F_ G1_ r0_ s0_).1 c1_).2 r0_ s0_).1 (g_an F_ (g_an F_ (g_xo F_ (g_xo F_ G1_ r0_ s0_).2 (g_xo F_ G1_ r0_ s0_).1 c1_).2 r0_ s0_).2 (g_xo F_ G1_ r0_ s0_).1 c1_).1).2.length ≤ 1001 := z_
                  have q1_ := z6_ (by omega)
                  refine ⟨?_, ?_⟩
                  · exact rwv_set (q_ := (8 * a_ + k_).toNat) q1_.1 (by omega) (fun j9_ => by rw [g9_, e57_.2.1 (by omega)]; rfl)
                  · exact rwv_cg q1_.2 (fun j9_ hj_ => by rw [g9_, if_neg (by omega)])
                · show _ ≤ (g_or F_ (g_an F_ (g_an F_ (g_xo F_ (g_xo F_ G1_ r0_ s0_).2 (g_xo F_ G1_ r0_ s0_).1 c1_).2 r0_ s0_).2 (g_xo F_ G1_ r0_ s0_).1 c1_).2 (g_an F_ (g_xo F_ (g_xo F_ G1_ r0_ s0_).2 (g_xo F_ G1_ r0_ s0_).1 c1_).2 r0_ s0_).1 (g_an F_ (g_an F_ (g_xo F_ (g_xo F_ G1_ r0_ s0_).2 (g_xo F_ G1_ r0_ s0_).1 c1_).2 r0_ s0_).2 (g_xo F_ G1_ r0_ s0_).1 c1_).1).2.length; omega
                · rw [z8_]; exact g_su_c
              · intro j_ hj_
                rw [g9_, if_neg (by omega)]
                exact h2_ j_ hj_
              · omega
          · have cx10_ : ¬ (s_ ≠ 94) := of_decide_eq_false cx10_
            exfalso; omega
        · have cx9_ : ¬ (s_ ≠ 124) := of_decide_eq_false cx9_
          exfalso; omega
      · have cx8_ : ¬ (s_ ≠ 38) := of_decide_eq_false cx8_
        exfalso; omega
set_option maxHeartbeats 1500000 in
set_option maxRecDepth 20000 in
theorem vc_331p {sc_ : Nat × (Nat → Int)} (s_ : Int) (a_ : Int) (b_ : Int) (F_ : Nat) (G_ : pGr) (x_ : List Int) (y_ : List Int) (S0_ : sm_S) (hI_ : gi S0_) (hg_ : rgl F_ G_ S0_) (ha_ : 0 ≤ a_ ∧ a_ + 1 ≤ b_ ∧ b_ ≤ 1023) (hw_ : S0_.2.2.1 138 0 a_.toNat = (x_.length : Int)) (hn_ : x_.length = y_.length ∧ 1 ≤ x_.length ∧ x_.length ≤ 8) (hr_ : imq (G_.length ≤ 1001) (rwv (S0_.2.2.1 139 0) (8 * a_.toNat) x_ ∧ rwv (S0_.2.2.1 139 0) (8 * b_.toNat) y_)) (hs_ : s_ = 43) : sm_T (mt_P sc_) 3 331 (0, [some (.inr (.inr (some (13, 0)))), some (.inl s_), some (.inl a_), some (.inl b_), none, none, none, none, none, none, none, none, none], [], S0_) (fun ro9_ => ∃ u_ S1_, ro9_ = (.inl u_, S1_, 0) ∧ vq_331p s_ a_ b_ F_ G_ x_ y_ S0_ u_ S1_) := by
  have hF_ : ai_fr (sx_W vw_331p) S0_ S0_ := ai_fr_rf
  refine sm_T_go 3 (c1 := (5, [some (.inr (.inr (some (13, 0)))), some (.inl s_), some (.inl a_), some (.inl b_), none, none, none, none, none, none, none, none, none], [.inl a_, .inr (.inr (some (138, 0)))], S0_)) rfl ?_
  refine sm_T_iald (n := 1024) rfl rfl (by omega) (by omega) ?_
  have bx1_ : (-2147483648) ≤ S0_.2.2.1 138 0 a_.toNat ∧ S0_.2.2.1 138 0 a_.toNat ≤ 2147483647 := hI_.2 138 0 _
  refine sm_T_go 7 (c1 := (17, [some (.inr (.inr (some (13, 0)))), some (.inl s_), some (.inl a_), some (.inl b_), some (.inl (S0_.2.2.1 138 0 a_.toNat)), some (.inl 0), some (.inl 1), some (.inl 0), none, none, none, none, none], [], S0_)) rfl ?_
  refine (vl_331p s_ a_ b_ F_ G_ x_ y_ S0_ hg_ ha_ hw_ hn_ hr_ hs_ _) (S0_.2.2.1 138 0 a_.toNat) 0 1 0 S0_ hI_ hF_ ⟨?_, ?_, ?_, ?_, trivial⟩ (Nat.lt_succ_self _)
  · omega
  · omega
  · exact ⟨G_, 0, [], x_, [], y_, hg_, rfl, rfl, hn_.1, by omega, rfl, hr_, Nat.le_refl _, fun _ => rfl, rfl⟩
  · (intro j_ hj_; rfl)
end
/-! 99.zc2d -/
section
/-! M_.join -/
def vw_331s : sx_Wl := ([(13, 37)], [139, 140, 141, 142, 143], [])
def vq_331s (s_ : Int) (a_ : Int) (b_ : Int) (F_ : Nat) (G_ : pGr) (x_ : List Int) (y_ : List Int) (S0_ : sm_S) (u_ : Option sm_V) (S1_ : sm_S) : Prop := u_ = none ∧ gi S1_ ∧ ai_fr (sx_W vw_331s) S0_ S1_ ∧ (rgl F_ (g_op F_ 4 G_ x_ y_).2 S1_ ∧ (imq ((g_op F_ 4 G_ x_ y_).2.length ≤ 1001) (rwv (S1_.2.2.1 139 0) (8 * a_.toNat) (g_op F_ 4 G_ x_ y_).1)) ∧ ∀ j_ : Nat, j_ < 8 * a_.toNat ∨ 8 * a_.toNat + 8 ≤ j_ → S1_.2.2.1 139 0 j_ = S0_.2.2.1 139 0 j_)
set_option maxHeartbeats 1500000 in
set_option maxRecDepth 20000 in
theorem vl_331s {sc_ : Nat × (Nat → Int)} (s_ : Int) (a_ : Int) (b_ : Int) (F_ : Nat) (G_ : pGr) (x_ : List Int) (y_ : List Int) (S0_ : sm_S) (hg_ : rgl F_ G_ S0_) (ha_ : 0 ≤ a_ ∧ a_ + 1 ≤ b_ ∧ b_ ≤ 1023) (hw_ : S0_.2.2.1 138 0 a_.toNat = (x_.length : Int)) (hn_ : x_.length = y_.length ∧ 1 ≤ x_.length ∧ x_.length ≤ 8) (hr_ : imq (G_.length ≤ 1001) (rwv (S0_.2.2.1 139 0) (8 * a_.toNat) x_ ∧ rwv (S0_.2.2.1 139 0) (8 * b_.toNat) y_)) (hs_ : s_ = 257) : ∀ nn_ : Nat, (∀ (nb_ : Int) (cy_ : Int) (sa_ : Int) (k_ : Int) (S_ : sm_S), gi S_ → ai_fr (sx_W vw_331s) S0_ S_ → ((0 ≤ k_ ∧ k_ ≤ nb_ ∧ nb_ = (x_.length : Int)) ∧ ((0 ≤ cy_ ∧ cy_ ≤ 2047) ∧ (0 ≤ sa_ ∧ sa_ ≤ 2047)) ∧ (∃ (G1_ : pGr) (d_ r_ e_ t_ : List Int), rgl F_ G1_ S_ ∧ (d_.length : Int) = k_ ∧ (e_.length : Int) = k_ ∧ r_.length = t_.length ∧ k_ + r_.length = nb_ ∧ y_ = e_ ++ t_ ∧ (imq (G1_.length ≤ 1001) (rwv (S_.2.2.1 139 0) (8 * a_.toNat) (d_ ++ r_) ∧ rwv (S_.2.2.1 139 0) (8 * b_.toNat) y_)) ∧ G_.length ≤ G1_.length ∧ ((k_ = 0 ∧ G1_ = G_ ∧ r_ = x_ ∧ t_ = y_) ∨ (1 ≤ k_ ∧ ∃ s1_, (imq (G1_.length ≤ 1001) (sa_ = s1_)) ∧ (g_sa F_ G_ x_ y_) = ([(g_s1 F_ G1_ s1_ r_ t_).1], (g_s1 F_ G1_ s1_ r_ t_).2)))) ∧ (∀ j_ : Nat, j_ < 8 * a_.toNat ∨ 8 * a_.toNat + 8 ≤ j_ → S_.2.2.1 139 0 j_ = S0_.2.2.1 139 0 j_) ∧ True) → ((nb_ - k_).toNat) < nn_ → sm_T (mt_P sc_) 3 331 (17, [some (.inr (.inr (some (13, 0)))), some (.inl s_), some (.inl a_), some (.inl b_), some (.inl nb_), some (.inl cy_), some (.inl sa_), some (.inl k_), none, none, none, none, none], [], S_) (fun ro9_ => ∃ u_ S1_, ro9_ = (.inl u_, S1_, 0) ∧ vq_331s s_ a_ b_ F_ G_ x_ y_ S0_ u_ S1_)) := by
  intro nn_
  induction nn_ with
  | zero => exact fun _ _ _ _ _ _ _ _ h_ => absurd h_ (Nat.not_lt_zero _)
  | succ nn_ ih_ =>
    rintro nb_ cy_ sa_ k_ S_ hI_ hF_ ⟨h0_, hb0_, h1_, h2_, -⟩ hm_
    obtain ⟨G1_, d_, r_, e_, t_, z1_, z2_, z2b, z3_, z4_, z5_, z6_, z7_, z8_⟩ := h1_
    refine sm_T_go 2 (c1 := (21, [some (.inr (.inr (some (13, 0)))), some (.inl s_), some (.inl a_), some (.inl b_), some (.inl nb_), some (.inl cy_), some (.inl sa_), some (.inl k_), none, none, none, none, none], [.inl nb_, .inl k_], S_)) rfl ?_
    refine sm_T_br (a := 3) (z := 198) rfl (fun cx1_ => ?_) (fun cx1_ => ?_)
    · have cx1_ : nb_ ≤ k_ := of_decide_eq_true cx1_
      refine sm_T_go 4 (c1 := (226, [some (.inr (.inr (some (13, 0)))), some (.inl s_), some (.inl a_), some (.inl b_), some (.inl nb_), some (.inl cy_), some (.inl sa_), some (.inl k_), none, none, none, none, none], [.inl a_, .inl 8, .inr (.inr (some (139, 0)))], S_)) rfl ?_
      refine sm_T_bin (w := 8 * a_) rfl (bi_mul (by omega) (by omega) (by omega)) ?_
      refine sm_T_go 2 (c1 := (231, [some (.inr (.inr (some (13, 0)))), some (.inl s_), some (.inl a_), some (.inl b_), some (.inl nb_), some (.inl cy_), some (.inl sa_), some (.inl k_), none, none, none, none, none], [.inl 257, .inl s_, .inl (8 * a_), .inr (.inr (some (139, 0)))], S_)) rfl ?_
      refine sm_T_br (a := 1) (z := 8) rfl (fun cx2_ => ?_) (fun cx2_ => ?_)
      · have cx2_ : s_ ≠ 257 := of_decide_eq_true cx2_
        exfalso; omega
      · have cx2_ : ¬ (s_ ≠ 257) := of_decide_eq_false cx2_
        refine sm_T_go 2 (c1 := (248, [some (.inr (.inr (some (13, 0)))), some (.inl s_), some (.inl a_), some (.inl b_), some (.inl nb_), some (.inl cy_), some (.inl sa_), some (.inl k_), none, none, none, none, none], [.inl sa_, .inl (8 * a_), .inr (.inr (some (139, 0)))], S_)) rfl ?_
        refine sm_T_iast (n := 8192) rfl rfl (by omega) (by omega) ?_
        have hIx3_ : gi (sm_aI S_ 139 0 (8 * a_).toNat sa_) := gi_aI hI_ (show 0 ≤ sa_ ∧ sa_ ≤ 2047 from ⟨by omega, by omega⟩)
        have hFx4_ : ai_fr (sx_W vw_331s) S0_ (sm_aI S_ 139 0 (8 * a_).toNat sa_) := ai_fr_tr hF_ (ai_fr_aI rfl)
        refine sm_T_rv rfl ⟨_, _, rfl, rfl, hIx3_, hFx4_, ?_⟩
        have kr_ : r_ = [] := List.eq_nil_of_length_eq_zero (by omega)
        have ks_ : t_ = [] := List.eq_nil_of_length_eq_zero (by omega)
        obtain ⟨s1_, zs_, z8_⟩ : ∃ s1_, (imq (G1_.length ≤ 1001) (sa_ = s1_)) ∧ (g_sa F_ G_ x_ y_) = ([(g_s1 F_ G1_ s1_ r_ t_).1], (g_s1 F_ G1_ s1_ r_ t_).2) := by rcases z8_ with q_ | q_; omega; exact q_.2
        rw [kr_, ks_] at z8_
        have q8_ : g_s1 F_ G1_ s1_ [] [] = (s1_, G1_) := rfl
        rw [q8_] at z8_
        rw [g_op4, z8_]
        refine ⟨rgl_st z1_, fun z_ => ?_, fun j_ hj_ => ?_⟩
        · intro k9_ z9_ e9_; have k0_ : k9_ = 0 := (by cases k9_ with | zero => rfl | succ k9_ => simp at e9_); subst k0_; rw [rd_eq, if_pos (by omega)]; have q9_ := Option.some.inj e9_; rw [← q9_]; exact zs_ z_
        · rw [rd_eq, if_neg (by omega)]; exact h2_ j_ hj_
    · have cx1_ : ¬ (nb_ ≤ k_) := of_decide_eq_false cx1_
      obtain ⟨r0_, r_, rfl⟩ : ∃ r0_ r1_, r_ = r0_ :: r1_ := by cases r_ with | nil => (simp only [List.length_nil] at z4_; omega) | cons p_ q_ => exact ⟨p_, q_, rfl⟩
      obtain ⟨s0_, t_, rfl⟩ : ∃ s0_ s1_, t_ = s0_ :: s1_ := by cases t_ with | nil => (simp only [List.length_nil, List.length_cons] at z3_ z4_; omega) | cons p_ q_ => exact ⟨p_, q_, rfl⟩
      have rx : imq (G1_.length ≤ 1001) (S_.2.2.1 139 0 (8 * a_ + k_).toNat = r0_ ∧ S_.2.2.1 139 0 (8 * b_ + k_).toNat = s0_) := fun z_ => by rw [show (8 * a_ + k_).toNat = 8 * a_.toNat + d_.length by omega, show (8 * b_ + k_).toNat = 8 * b_.toNat + e_.length by omega]; exact ⟨rwv_m (z6_ z_).1, rwv_m (by rw [← z5_]; exact (z6_ z_).2)⟩
      have l1_ := g_xo_le (F_ := F_) (G_ := G1_) (a_ := r0_) (b_ := s0_)
      refine sm_T_go 4 (c1 := (31, [some (.inr (.inr (some (13, 0)))), some (.inl s_), some (.inl a_), some (.inl b_), some (.inl nb_), some (.inl cy_), some (.inl sa_), some (.inl k_), none, none, none, none, none], [.inl a_, .inl 8, .inr (.inr (some (139, 0)))], S_)) rfl ?_
      refine sm_T_bin (w := 8 * a_) rfl (bi_mul (by omega) (by omega) (by omega)) ?_
      refine sm_T_go 1 (c1 := (34, [some (.inr (.inr (some (13, 0)))), some (.inl s_), some (.inl a_), some (.inl b_), some (.inl nb_), some (.inl cy_), some (.inl sa_), some (.inl k_), none, none, none, none, none], [.inl k_, .inl (8 * a_), .inr (.inr (some (139, 0)))], S_)) rfl ?_
      refine sm_T_bin (w := 8 * a_ + k_) rfl (bi_add (by omega) (by omega) (by omega)) ?_
      refine sm_T_iald (n := 8192) rfl rfl (by omega) (by omega) ?_
      have bx5_ : 0 ≤ S_.2.2.1 139 0 (8 * a_ + k_).toNat ∧ S_.2.2.1 139 0 (8 * a_ + k_).toNat ≤ 2047 := hI_.2 139 0 _
      refine sm_T_go 5 (c1 := (45, [some (.inr (.inr (some (13, 0)))), some (.inl s_), some (.inl a_), some (.inl b_), some (.inl nb_), some (.inl cy_), some (.inl sa_), some (.inl k_), some (.inl (S_.2.2.1 139 0 (8 * a_ + k_).toNat)), none, none, none, none], [.inl b_, .inl 8, .inr (.inr (some (139, 0)))], S_)) rfl ?_
      refine sm_T_bin (w := 8 * b_) rfl (bi_mul (by omega) (by omega) (by omega)) ?_
      refine sm_T_go 1 (c1 := (48, [some (.inr (.inr (some (13, 0)))), some (.inl s_), some (.inl a_), some (.inl b_), some (.inl nb_), some (.inl cy_), some (.inl sa_), some (.inl k_), some (.inl (S_.2.2.1 139 0 (8 * a_ + k_).toNat)), none, none, none, none], [.inl k_, .inl (8 * b_), .inr (.inr (some (139, 0)))], S_)) rfl ?_
      refine sm_T_bin (w := 8 * b_ + k_) rfl (bi_add (by omega) (by omega) (by omega)) ?_
      refine sm_T_iald (n := 8192) rfl rfl (by omega) (by omega) ?_
      have bx6_ : 0 ≤ S_.2.2.1 139 0 (8 * b_ + k_).toNat ∧ S_.2.2.1 139 0 (8 * b_ + k_).toNat ≤ 2047 := hI_.2 139 0 _
      refine sm_T_go 5 (c1 := (58, [some (.inr (.inr (some (13, 0)))), some (.inl s_), some (.inl a_), some (.inl b_), some (.inl nb_), some (.inl cy_), some (.inl sa_), some (.inl k_), some (.inl (S_.2.2.1 139 0 (8 * a_ + k_).toNat)), some (.inl (S_.2.2.1 139 0 (8 * b_ + k_).toNat)), some (.inl 0), none, none], [.inl 38, .inl s_], S_)) rfl ?_
      refine sm_T_br (a := 1) (z := 16) rfl (fun cx7_ => ?_) (fun cx7_ => ?_)
      · have cx7_ : s_ ≠ 38 := of_decide_eq_true cx7_
        refine sm_T_go 2 (c1 := (77, [some (.inr (.inr (some (13, 0)))), some (.inl s_), some (.inl a_), some (.inl b_), some (.inl nb_), some (.inl cy_), some (.inl sa_), some (.inl k_), some (.inl (S_.2.2.1 139 0 (8 * a_ + k_).toNat)), some (.inl (S_.2.2.1 139 0 (8 * b_ + k_).toNat)), some (.inl 0), none, none], [.inl 124, .inl s_], S_)) rfl ?_
        refine sm_T_br (a := 1) (z := 16) rfl (fun cx8_ => ?_) (fun cx8_ => ?_)
        · have cx8_ : s_ ≠ 124 := of_decide_eq_true cx8_
          refine sm_T_go 2 (c1 := (96, [some (.inr (.inr (some (13, 0)))), some (.inl s_), some (.inl a_), some (.inl b_), some (.inl nb_), some (.inl cy_), some (.inl sa_), some (.inl k_), some (.inl (S_.2.2.1 139 0 (8 * a_ + k_).toNat)), some (.inl (S_.2.2.1 139 0 (8 * b_ + k_).toNat)), some (.inl 0), none, none], [.inl 94, .inl s_], S_)) rfl ?_
          refine sm_T_br (a := 1) (z := 16) rfl (fun cx9_ => ?_) (fun cx9_ => ?_)
          · have cx9_ : s_ ≠ 94 := of_decide_eq_true cx9_
            refine sm_T_go 2 (c1 := (115, [some (.inr (.inr (some (13, 0)))), some (.inl s_), some (.inl a_), some (.inl b_), some (.inl nb_), some (.inl cy_), some (.inl sa_), some (.inl k_), some (.inl (S_.2.2.1 139 0 (8 * a_ + k_).toNat)), some (.inl (S_.2.2.1 139 0 (8 * b_ + k_).toNat)), some (.inl 0), none, none], [.inl 43, .inl s_], S_)) rfl ?_
            refine sm_T_br (a := 1) (z := 52) rfl (fun cx10_ => ?_) (fun cx10_ => ?_)
            · have cx10_ : s_ ≠ 43 := of_decide_eq_true cx10_
              refine sm_T_go 4 (c1 := (173, [some (.inr (.inr (some (13, 0)))), some (.inl s_), some (.inl a_), some (.inl b_), some (.inl nb_), some (.inl cy_), some (.inl sa_), some (.inl k_), some (.inl (S_.2.2.1 139 0 (8 * a_ + k_).toNat)), some (.inl (S_.2.2.1 139 0 (8 * b_ + k_).toNat)), some (.inl 0), none, none], [.inl (S_.2.2.1 139 0 (8 * b_ + k_).toNat), .inl (S_.2.2.1 139 0 (8 * a_ + k_).toNat), .inr (.inr (some (13, 0))), .inl 1], S_)) rfl ?_
              refine sm_T_cal (d1 := 2) (Q1 := vq_330 (S_.2.2.1 139 0 (8 * a_ + k_).toNat) (S_.2.2.1 139 0 (8 * b_ + k_).toNat) F_ G1_ r0_ s0_ S_) rfl rfl (by decide) (vc_330 (S_.2.2.1 139 0 (8 * a_ + k_).toNat) (S_.2.2.1 139 0 (8 * b_ + k_).toNat) F_ G1_ r0_ s0_ S_ hI_ (by exact z1_) (by omega) (by omega) (by exact rx)) (fun u_ Sx11_ px14_ => ?_)
              obtain ⟨vx16_, rfl, hIx12_, hFx13_, px14_⟩ := px14_
              have hFx15_ : ai_fr (sx_W vw_331s) S0_ Sx11_ := ai_fr_tr hF_ (fr_le hFx13_ rfl)
              have e180_ := px14_
              have f173_ : Sx11_.2.2.1 139 0 = S_.2.2.1 139 0 := fr_arr hFx13_ rfl
              have g9_ : ∀ z9_ : Int, ∀ j9_ : Nat, (sm_aI Sx11_ 139 0 (8 * a_ + k_).toNat z9_).2.2.1 139 0 j9_ = if j9_ = (8 * a_ + k_).toNat then z9_ else S_.2.2.1 139 0 j9_ := fun z9_ j9_ => by rw [rd_eq, f173_]
              refine sm_T_bin (w := (i_xor 1 vx16_)) rfl rfl ?_
              first | have bx17_ := (i_xc (x_ := 1) (y_ := vx16_)).trans (i_x1 (x_ := vx16_) (by omega)) | have bx17_ := i_x1 (x_ := 1) (by omega)
              refine sm_T_go 2 (c1 := (181, [some (.inr (.inr (some (13, 0)))), some (.inl s_), some (.inl a_), some (.inl b_), some (.inl nb_), some (.inl cy_), some (.inl sa_), some (.inl k_), some (.inl (S_.2.2.1 139 0 (8 * a_ + k_).toNat)), some (.inl (S_.2.2.1 139 0 (8 * b_ + k_).toNat)), some (.inl 0), some (.inl (i_xor 1 vx16_)), none], [.inl k_], Sx11_)) rfl ?_
              refine sm_T_b0 (a := 1) (z := 8) rfl (fun cx18_ => ?_) (fun cx18_ => ?_)
              · have cx18_ : k_ ≠ 0 := of_decide_eq_true cx18_
                obtain ⟨s1_, zs_, z8_⟩ : ∃ s1_, (imq (G1_.length ≤ 1001) (sa_ = s1_)) ∧ (g_sa F_ G_ x_ y_) = ([(g_s1 F_ G1_ s1_ (r0_ :: r_) (s0_ :: t_)).1], (g_s1 F_ G1_ s1_ (r0_ :: r_) (s0_ :: t_)).2) := by rcases z8_ with q_ | q_; omega; exact q_.2
                have l2_ := (g_an_le (F_ := F_) (G_ := (g_xo F_ G1_ r0_ s0_).2) (a_ := s1_) (b_ := i_xor (g_xo F_ G1_ r0_ s0_).1 1)).1
                refine sm_T_go 3 (c1 := (194, [some (.inr (.inr (some (13, 0)))), some (.inl s_), some (.inl a_), some (.inl b_), some (.inl nb_), some (.inl cy_), some (.inl sa_), some (.inl k_), some (.inl (S_.2.2.1 139 0 (8 * a_ + k_).toNat)), some (.inl (S_.2.2.1 139 0 (8 * b_ + k_).toNat)), some (.inl 0), some (.inl (i_xor 1 vx16_)), none], [.inl (i_xor 1 vx16_), .inl sa_, .inr (.inr (some (13, 0)))], Sx11_)) rfl ?_
                refine sm_T_cal (d1 := 0) (Q1 := vq_328 sa_ (i_xor 1 vx16_) F_ (g_xo F_ G1_ r0_ s0_).2 s1_ (i_xor (g_xo F_ G1_ r0_ s0_).1 1) Sx11_) rfl rfl (by decide) (vc_328 sa_ (i_xor 1 vx16_) F_ (g_xo F_ G1_ r0_ s0_).2 s1_ (i_xor (g_xo F_ G1_ r0_ s0_).1 1) Sx11_ hIx12_ (by exact e180_.1) (by omega) (by omega) (by (intro z_; rw [i_xc, e180_.2.1 (by omega)]; exact ⟨zs_ (by omega), rfl⟩))) (fun u_ Sx19_ px22_ => ?_)
                obtain ⟨vx24_, rfl, hIx20_, hFx21_, px22_⟩ := px22_
                have hFx23_ : ai_fr (sx_W vw_331s) S0_ Sx19_ := ai_fr_tr hFx15_ (fr_le hFx21_ rfl)
                have e185_ := px22_
                have f194_ : Sx19_.2.2.1 139 0 = S_.2.2.1 139 0 := (fr_arr hFx21_ rfl).trans f173_
                have g9_ : ∀ z9_ : Int, ∀ j9_ : Nat, (sm_aI Sx19_ 139 0 (8 * a_ + k_).toNat z9_).2.2.1 139 0 j9_ = if j9_ = (8 * a_ + k_).toNat then z9_ else S_.2.2.1 139 0 j9_ := fun z9_ j9_ => by rw [rd_eq, f194_]
                refine sm_T_go 5 (c1 := (206, [some (.inr (.inr (some (13, 0)))), some (.inl s_), some (.inl a_), some (.inl b_), some (.inl nb_), some (.inl cy_), some (.inl vx24_), some (.inl k_), some (.inl (S_.2.2.1 139 0 (8 * a_ + k_).toNat)), some (.inl (S_.2.2.1 139 0 (8 * b_ + k_).toNat)), some (.inl 0), some (.inl (i_xor 1 vx16_)), none], [.inl a_, .inl 8, .inr (.inr (some (139, 0)))], Sx19_)) rfl ?_
                refine sm_T_bin (w := 8 * a_) rfl (bi_mul (by omega) (by omega) (by omega)) ?_
                refine sm_T_go 1 (c1 := (209, [some (.inr (.inr (some (13, 0)))), some (.inl s_), some (.inl a_), some (.inl b_), some (.inl nb_), some (.inl cy_), some (.inl vx24_), some (.inl k_), some (.inl (S_.2.2.1 139 0 (8 * a_ + k_).toNat)), some (.inl (S_.2.2.1 139 0 (8 * b_ + k_).toNat)), some (.inl 0), some (.inl (i_xor 1 vx16_)), none], [.inl k_, .inl (8 * a_), .inr (.inr (some (139, 0)))], Sx19_)) rfl ?_
                refine sm_T_bin (w := 8 * a_ + k_) rfl (bi_add (by omega) (by omega) (by omega)) ?_
                refine sm_T_go 1 (c1 := (212, [some (.inr (.inr (some (13, 0)))), some (.inl s_), some (.inl a_), some (.inl b_), some (.inl nb_), some (.inl cy_), some (.inl vx24_), some (.inl k_), some (.inl (S_.2.2.1 139 0 (8 * a_ + k_).toNat)), some (.inl (S_.2.2.1 139 0 (8 * b_ + k_).toNat)), some (.inl 0), some (.inl (i_xor 1 vx16_)), none], [.inl 0, .inl (8 * a_ + k_), .inr (.inr (some (139, 0)))], Sx19_)) rfl ?_
                refine sm_T_iast (n := 8192) rfl rfl (by omega) (by omega) ?_
                have hIx25_ : gi (sm_aI Sx19_ 139 0 (8 * a_ + k_).toNat 0) := gi_aI hIx20_ (show 0 ≤ 0 ∧ 0 ≤ 2047 from ⟨by omega, by omega⟩)
                have hFx26_ : ai_fr (sx_W vw_331s) S0_ (sm_aI Sx19_ 139 0 (8 * a_ + k_).toNat 0) := ai_fr_tr hFx23_ (ai_fr_aI rfl)
                refine sm_T_inc (a := 7) (z := 1) (v := k_) (w := k_ + 1) rfl rfl (by omega) (by omega) (by omega) ?_
                refine sm_T_go 1 (c1 := (17, [some (.inr (.inr (some (13, 0)))), some (.inl s_), some (.inl a_), some (.inl b_), some (.inl nb_), some (.inl cy_), some (.inl vx24_), some (.inl (k_ + 1)), some (.inl (S_.2.2.1 139 0 (8 * a_ + k_).toNat)), some (.inl (S_.2.2.1 139 0 (8 * b_ + k_).toNat)), some (.inl 0), some (.inl (i_xor 1 vx16_)), none], [], sm_aI Sx19_ 139 0 (8 * a_ + k_).toNat 0)) rfl ?_
                refine sm_T_wk [some (.inr (.inr (some (13, 0)))), some (.inl s_), some (.inl a_), some (.inl b_), some (.inl nb_), some (.inl cy_), some (.inl vx24_), some (.inl (k_ + 1)), none, none, none, none, none] (by exact ⟨rfl, rfl, rfl, rfl, rfl, rfl, rfl, rfl, trivial⟩) ?_
                refine ih_ nb_ cy_ vx24_ (k_ + 1) (sm_aI Sx19_ 139 0 (8 * a_ + k_).toNat 0) hIx25_ hFx26_ ⟨?_, ?_, ?_, ?_, trivial⟩ ?_
                · omega
                · omega
                · first | (refine ⟨(g_xo F_ G1_ r0_ s0_).2, d_ ++ [0], r_, e_ ++ [s0_], t_, rgl_st e180_.1, ?_, ?_, ?_, ?_, ?_, fun z_ => ?_, by omega, Or.inr ⟨by omega, i_xor (g_xo F_ G1_ r0_ s0_).1 1, fun z_ => by rw [i_xc, e180_.2.1 z_], rfl⟩⟩) | (refine ⟨(g_e3 F_ G1_ s1_ r0_ s0_).2, d_ ++ [0], r_, e_ ++ [s0_], t_, rgl_st e185_.1, ?_, ?_, ?_, ?_, ?_, fun z_ => ?_, ?_, Or.inr ⟨by omega, (g_e3 F_ G1_ s1_ r0_ s0_).1, fun z_ => e185_.2.1 z_, by rw [z8_]; rfl⟩⟩; rotate_right; (show _ ≤ (g_an F_ (g_xo F_ G1_ r0_ s0_).2 s1_ (i_xor (g_xo F_ G1_ r0_ s0_).1 1)).2.length; omega))
                  · simp only [List.length_append, List.length_cons, List.length_nil]; push_cast; omega
                  · simp only [List.length_append, List.length_cons, List.length_nil]; push_cast; omega
                  · simp only [List.length_cons] at z3_; omega
                  · simp only [List.length_cons] at z4_; push_cast at z4_; omega
                  · rw [z5_, List.append_assoc]; rfl
                  · have q0_ : G1_.length ≤ 1001 := by first | omega | (have zz_ : (g_an F_ (g_xo F_ G1_ r0_ s0_).2 s1_ (i_xor (g_xo F_ G1_ r0_ s0_).1 1)).2.length ≤ 1001 := z_; omega)
                    have q1_ := z6_ q0_
                    refine ⟨?_, ?_⟩
                    · exact rwv_set (q_ := (8 * a_ + k_).toNat) q1_.1 (by omega) (fun j9_ => by rw [g9_])
                    · exact rwv_cg q1_.2 (fun j9_ hj_ => by rw [g9_, if_neg (by omega)])
                · intro j_ hj_
                  rw [g9_, if_neg (by omega)]
                  exact h2_ j_ hj_
                · omega
              · have cx18_ : ¬ (k_ ≠ 0) := of_decide_eq_false cx18_
                obtain ⟨rfl, rfl, rfl⟩ : G1_ = G_ ∧ x_ = r0_ :: r_ ∧ y_ = s0_ :: t_ := by rcases z8_ with q_ | q_; exact ⟨q_.2.1, q_.2.2.1.symm, q_.2.2.2.symm⟩; omega
                refine sm_T_go 7 (c1 := (206, [some (.inr (.inr (some (13, 0)))), some (.inl s_), some (.inl a_), some (.inl b_), some (.inl nb_), some (.inl cy_), some (.inl (i_xor 1 vx16_)), some (.inl k_), some (.inl (S_.2.2.1 139 0 (8 * a_ + k_).toNat)), some (.inl (S_.2.2.1 139 0 (8 * b_ + k_).toNat)), some (.inl 0), some (.inl (i_xor 1 vx16_)), none], [.inl a_, .inl 8, .inr (.inr (some (139, 0)))], Sx11_)) rfl ?_
                refine sm_T_bin (w := 8 * a_) rfl (bi_mul (by omega) (by omega) (by omega)) ?_
                refine sm_T_go 1 (c1 := (209, [some (.inr (.inr (some (13, 0)))), some (.inl s_), some (.inl a_), some (.inl b_), some (.inl nb_), some (.inl cy_), some (.inl (i_xor 1 vx16_)), some (.inl k_), some (.inl (S_.2.2.1 139 0 (8 * a_ + k_).toNat)), some (.inl (S_.2.2.1 139 0 (8 * b_ + k_).toNat)), some (.inl 0), some (.inl (i_xor 1 vx16_)), none], [.inl k_, .inl (8 * a_), .inr (.inr (some (139, 0)))], Sx11_)) rfl ?_
                refine sm_T_bin (w := 8 * a_ + k_) rfl (bi_add (by omega) (by omega) (by omega)) ?_
                refine sm_T_go 1 (c1 := (212, [some (.inr (.inr (some (13, 0)))), some (.inl s_), some (.inl a_), some (.inl b_), some (.inl nb_), some (.inl cy_), some (.inl (i_xor 1 vx16_)), some (.inl k_), some (.inl (S_.2.2.1 139 0 (8 * a_ + k_).toNat)), some (.inl (S_.2.2.1 139 0 (8 * b_ + k_).toNat)), some (.inl 0), some (.inl (i_xor 1 vx16_)), none], [.inl 0, .inl (8 * a_ + k_), .inr (.inr (some (139, 0)))], Sx11_)) rfl ?_
                refine sm_T_iast (n := 8192) rfl rfl (by omega) (by omega) ?_
                have hIx27_ : gi (sm_aI Sx11_ 139 0 (8 * a_ + k_).toNat 0) := gi_aI hIx12_ (show 0 ≤ 0 ∧ 0 ≤ 2047 from ⟨by omega, by omega⟩)
                have hFx28_ : ai_fr (sx_W vw_331s) S0_ (sm_aI Sx11_ 139 0 (8 * a_ + k_).toNat 0) := ai_fr_tr hFx15_ (ai_fr_aI rfl)
                refine sm_T_inc (a := 7) (z := 1) (v := k_) (w := k_ + 1) rfl rfl (by omega) (by omega) (by omega) ?_
                refine sm_T_go 1 (c1 := (17, [some (.inr (.inr (some (13, 0)))), some (.inl s_), some (.inl a_), some (.inl b_), some (.inl nb_), some (.inl cy_), some (.inl (i_xor 1 vx16_)), some (.inl (k_ + 1)), some (.inl (S_.2.2.1 139 0 (8 * a_ + k_).toNat)), some (.inl (S_.2.2.1 139 0 (8 * b_ + k_).toNat)), some (.inl 0), some (.inl (i_xor 1 vx16_)), none], [], sm_aI Sx11_ 139 0 (8 * a_ + k_).toNat 0)) rfl ?_
                refine sm_T_wk [some (.inr (.inr (some (13, 0)))), some (.inl s_), some (.inl a_), some (.inl b_), some (.inl nb_), some (.inl cy_), some (.inl (i_xor 1 vx16_)), some (.inl (k_ + 1)), none, none, none, none, none] (by exact ⟨rfl, rfl, rfl, rfl, rfl, rfl, rfl, rfl, trivial⟩) ?_
                refine ih_ nb_ cy_ (i_xor 1 vx16_) (k_ + 1) (sm_aI Sx11_ 139 0 (8 * a_ + k_).toNat 0) hIx27_ hFx28_ ⟨?_, ?_, ?_, ?_, trivial⟩ ?_
                · omega
                · omega
                · first | (refine ⟨(g_xo F_ G1_ r0_ s0_).2, d_ ++ [0], r_, e_ ++ [s0_], t_, rgl_st e180_.1, ?_, ?_, ?_, ?_, ?_, fun z_ => ?_, by omega, Or.inr ⟨by omega, i_xor (g_xo F_ G1_ r0_ s0_).1 1, fun z_ => by rw [i_xc, e180_.2.1 z_], rfl⟩⟩) | (refine ⟨(g_e3 F_ G1_ s1_ r0_ s0_).2, d_ ++ [0], r_, e_ ++ [s0_], t_, rgl_st e185_.1, ?_, ?_, ?_, ?_, ?_, fun z_ => ?_, ?_, Or.inr ⟨by omega, (g_e3 F_ G1_ s1_ r0_ s0_).1, fun z_ => e185_.2.1 z_, by rw [z8_]; rfl⟩⟩; rotate_right; (show _ ≤ (g_an F_ (g_xo F_ G1_ r0_ s0_).2 s1_ (i_xor (g_xo F_ G1_ r0_ s0_).1 1)).2.length; omega))
                  · simp only [List.length_append, List.length_cons, List.length_nil]; push_cast; omega
                  · simp only [List.length_append, List.length_cons, List.length_nil]; push_cast; omega
                  · simp only [List.length_cons] at z3_; omega
                  · simp only [List.length_cons] at z4_; push_cast at z4_; omega
                  · rw [z5_, List.append_assoc]; rfl
                  · have q0_ : G1_.length ≤ 1001 := by first | omega | (have zz_ : (g_an F_ (g_xo F_ G1_ r0_ s0_).2 s1_ (i_xor (g_xo F_ G1_ r0_ s0_).1 1)).2.length ≤ 1001 := z_; omega)
                    have q1_ := z6_ q0_
                    refine ⟨?_, ?_⟩
                    · exact rwv_set (q_ := (8 * a_ + k_).toNat) q1_.1 (by omega) (fun j9_ => by rw [g9_])
                    · exact rwv_cg q1_.2 (fun j9_ hj_ => by rw [g9_, if_neg (by omega)])
                · intro j_ hj_
                  rw [g9_, if_neg (by omega)]
                  exact h2_ j_ hj_
                · omega
            · have cx10_ : ¬ (s_ ≠ 43) := of_decide_eq_false cx10_
              exfalso; omega
          · have cx9_ : ¬ (s_ ≠ 94) := of_decide_eq_false cx9_
            exfalso; omega
        · have cx8_ : ¬ (s_ ≠ 124) := of_decide_eq_false cx8_
          exfalso; omega
      · have cx7_ : ¬ (s_ ≠ 38) := of_decide_eq_false cx7_
        exfalso; omega
set_option maxHeartbeats 1500000 in
set_option maxRecDepth 20000 in
theorem vc_331s {sc_ : Nat × (Nat → Int)} (s_ : Int) (a_ : Int) (b_ : Int) (F_ : Nat) (G_ : pGr) (x_ : List Int) (y_ : List Int) (S0_ : sm_S) (hI_ : gi S0_) (hg_ : rgl F_ G_ S0_) (ha_ : 0 ≤ a_ ∧ a_ + 1 ≤ b_ ∧ b_ ≤ 1023) (hw_ : S0_.2.2.1 138 0 a_.toNat = (x_.length : Int)) (hn_ : x_.length = y_.length ∧ 1 ≤ x_.length ∧ x_.length ≤ 8) (hr_ : imq (G_.length ≤ 1001) (rwv (S0_.2.2.1 139 0) (8 * a_.toNat) x_ ∧ rwv (S0_.2.2.1 139 0) (8 * b_.toNat) y_)) (hs_ : s_ = 257) : sm_T (mt_P sc_) 3 331 (0, [some (.inr (.inr (some (13, 0)))), some (.inl s_), some (.inl a_), some (.inl b_), none, none, none, none, none, none, none, none, none], [], S0_) (fun ro9_ => ∃ u_ S1_, ro9_ = (.inl u_, S1_, 0) ∧ vq_331s s_ a_ b_ F_ G_ x_ y_ S0_ u_ S1_) := by
  have hF_ : ai_fr (sx_W vw_331s) S0_ S0_ := ai_fr_rf
  refine sm_T_go 3 (c1 := (5, [some (.inr (.inr (some (13, 0)))), some (.inl s_), some (.inl a_), some (.inl b_), none, none, none, none, none, none, none, none, none], [.inl a_, .inr (.inr (some (138, 0)))], S0_)) rfl ?_
  refine sm_T_iald (n := 1024) rfl rfl (by omega) (by omega) ?_
  have bx1_ : (-2147483648) ≤ S0_.2.2.1 138 0 a_.toNat ∧ S0_.2.2.1 138 0 a_.toNat ≤ 2147483647 := hI_.2 138 0 _
  refine sm_T_go 7 (c1 := (17, [some (.inr (.inr (some (13, 0)))), some (.inl s_), some (.inl a_), some (.inl b_), some (.inl (S0_.2.2.1 138 0 a_.toNat)), some (.inl 0), some (.inl 1), some (.inl 0), none, none, none, none, none], [], S0_)) rfl ?_
  refine (vl_331s s_ a_ b_ F_ G_ x_ y_ S0_ hg_ ha_ hw_ hn_ hr_ hs_ _) (S0_.2.2.1 138 0 a_.toNat) 0 1 0 S0_ hI_ hF_ ⟨?_, ?_, ?_, ?_, trivial⟩ (Nat.lt_succ_self _)
  · omega
  · omega
  · exact ⟨G_, [], x_, [], y_, hg_, rfl, rfl, hn_.1, by omega, rfl, hr_, Nat.le_refl _, Or.inl ⟨rfl, rfl, rfl, rfl⟩⟩
  · (intro j_ hj_; rfl)
def vw_331 : sx_Wl := vw_331w
def vq_331 (s_ : Int) (a_ : Int) (b_ : Int) (F_ : Nat) (G_ : pGr) (x_ : List Int) (y_ : List Int) (kk_ : Int) (S0_ : sm_S) (u_ : Option sm_V) (S1_ : sm_S) : Prop := u_ = none ∧ gi S1_ ∧ ai_fr (sx_W vw_331) S0_ S1_ ∧ (rgl F_ (g_op F_ kk_ G_ x_ y_).2 S1_ ∧ (imq ((g_op F_ kk_ G_ x_ y_).2.length ≤ 1001) (rwv (S1_.2.2.1 139 0) (8 * a_.toNat) (g_op F_ kk_ G_ x_ y_).1)) ∧ ∀ j_ : Nat, j_ < 8 * a_.toNat ∨ 8 * a_.toNat + 8 ≤ j_ → S1_.2.2.1 139 0 j_ = S0_.2.2.1 139 0 j_)
theorem vc_331 {sc_ : Nat × (Nat → Int)} (s_ : Int) (a_ : Int) (b_ : Int) (F_ : Nat) (G_ : pGr) (x_ : List Int) (y_ : List Int) (kk_ : Int) (S0_ : sm_S) (hI_ : gi S0_) (hg_ : rgl F_ G_ S0_) (ha_ : 0 ≤ a_ ∧ a_ + 1 ≤ b_ ∧ b_ ≤ 1023) (hw_ : S0_.2.2.1 138 0 a_.toNat = (x_.length : Int)) (hn_ : x_.length = y_.length ∧ 1 ≤ x_.length ∧ x_.length ≤ 8) (hr_ : imq (G_.length ≤ 1001) (rwv (S0_.2.2.1 139 0) (8 * a_.toNat) x_ ∧ rwv (S0_.2.2.1 139 0) (8 * b_.toNat) y_)) (hs_ : (s_ = 124 ∧ kk_ = 1) ∨ (s_ = 94 ∧ kk_ = 2) ∨ (s_ = 38 ∧ kk_ = 3) ∨ (s_ = 257 ∧ kk_ = 4) ∨ (s_ = 43 ∧ kk_ = 5)) : sm_T (mt_P sc_) 3 331 (0, [some (.inr (.inr (some (13, 0)))), some (.inl s_), some (.inl a_), some (.inl b_), none, none, none, none, none, none, none, none, none], [], S0_) (fun r_ => ∃ u_ S1_, r_ = (.inl u_, S1_, 0) ∧ vq_331 s_ a_ b_ F_ G_ x_ y_ kk_ S0_ u_ S1_) := by
  by_cases g4_ : kk_ = 4
  · subst g4_
    exact vc_331s s_ a_ b_ F_ G_ x_ y_ S0_ hI_ hg_ ha_ hw_ hn_ hr_ (by omega)
  · by_cases g5_ : kk_ = 5
    · subst g5_
      exact vc_331p s_ a_ b_ F_ G_ x_ y_ S0_ hI_ hg_ ha_ hw_ hn_ hr_ (by omega)
    · exact vc_331w s_ a_ b_ F_ G_ x_ y_ kk_ S0_ hI_ hg_ ha_ hw_ hn_ hr_ (by omega)
end
/-! 99.zc2e -/
section
/-! M_.choice -/
def vw_332 : sx_Wl := ([(13, 37)], [139, 140, 141, 142, 143], [])
def vq_332 (ci_ : Int) (F_ : Nat) (G_ : pGr) (c_ : Int) (va_ : List Int) (ve_ : List Int) (S0_ : sm_S) (u_ : Option sm_V) (S1_ : sm_S) : Prop := u_ = none ∧ gi S1_ ∧ ai_fr (sx_W vw_332) S0_ S1_ ∧ (rgl F_ (g_ch F_ c_ G_ va_ ve_).2 S1_ ∧ (imq ((g_ch F_ c_ G_ va_ ve_).2.length ≤ 1001) (rwv (S1_.2.2.1 139 0) (8 * ci_.toNat) (g_ch F_ c_ G_ va_ ve_).1)) ∧ ∀ j_ : Nat, j_ < 8 * ci_.toNat ∨ 8 * ci_.toNat + 8 ≤ j_ → S1_.2.2.1 139 0 j_ = S0_.2.2.1 139 0 j_)
set_option maxHeartbeats 1500000 in
theorem vl_332 {sc_ : Nat × (Nat → Int)} (ci_ : Int) (F_ : Nat) (G_ : pGr) (c_ : Int) (va_ : List Int) (ve_ : List Int) (S0_ : sm_S) (hg_ : rgl F_ G_ S0_) (ha_ : 0 ≤ ci_ ∧ ci_ ≤ 1021) (hw_ : S0_.2.2.1 138 0 (ci_.toNat + 1) = (va_.length : Int)) (hn_ : va_.length = ve_.length ∧ va_.length ≤ 8) (hr_ : imq (G_.length ≤ 1001) (rwv (S0_.2.2.1 139 0) (8 * ci_.toNat) [c_] ∧ rwv (S0_.2.2.1 139 0) (8 * (ci_.toNat + 1)) va_ ∧ rwv (S0_.2.2.1 139 0) (8 * (ci_.toNat + 2)) ve_)) : ∀ nn_ : Nat, (∀ (cb_ : Int) (k_ : Int) (S_ : sm_S), gi S_ → ai_fr (sx_W vw_332) S0_ S_ → ((0 ≤ k_ ∧ k_ ≤ (va_.length : Int) ∧ 0 ≤ cb_ ∧ cb_ ≤ 2047) ∧ (∃ (G1_ : pGr) (d_ r_ t_ e1_ e2_ : List Int), rgl F_ G1_ S_ ∧ (d_.length : Int) = k_ ∧ (e1_.length : Int) = k_ ∧ (e2_.length : Int) = k_ ∧ r_.length = t_.length ∧ k_ + r_.length = va_.length ∧ va_ = e1_ ++ r_ ∧ ve_ = e2_ ++ t_ ∧ (imq (G1_.length ≤ 1001) (cb_ = c_ ∧ rwv (S_.2.2.1 139 0) (8 * ci_.toNat) d_ ∧ rwv (S_.2.2.1 139 0) (8 * (ci_.toNat + 1)) va_ ∧ rwv (S_.2.2.1 139 0) (8 * (ci_.toNat + 2)) ve_)) ∧ G_.length ≤ G1_.length ∧ (g_ch F_ c_ G_ va_ ve_) = (d_ ++ (g_ch F_ c_ G1_ r_ t_).1, (g_ch F_ c_ G1_ r_ t_).2)) ∧ (∀ j_ : Nat, j_ < 8 * ci_.toNat ∨ 8 * ci_.toNat + 8 ≤ j_ → S_.2.2.1 139 0 j_ = S0_.2.2.1 139 0 j_) ∧ True) → (((va_.length : Int) - k_).toNat) < nn_ → sm_T (mt_P sc_) 3 332 (12, [some (.inr (.inr (some (13, 0)))), some (.inl ci_), some (.inl cb_), some (.inl k_), none, none], [], S_) (fun ro9_ => ∃ u_ S1_, ro9_ = (.inl u_, S1_, 0) ∧ vq_332 ci_ F_ G_ c_ va_ ve_ S0_ u_ S1_)) := by
  intro nn_
  induction nn_ with
  | zero => exact fun _ _ _ _ _ _ h_ => absurd h_ (Nat.not_lt_zero _)
  | succ nn_ ih_ =>
    rintro cb_ k_ S_ hI_ hF_ ⟨h0_, h1_, h2_, -⟩ hm_
    obtain ⟨G1_, d_, r_, t_, e1_, e2_, z1_, z2_, z2b, z2c, z3_, z4_, z5_, z5b, z6_, z7_, z8_⟩ := h1_
    have wt : S_.2.2.1 138 0 (ci_ + 1).toNat = (va_.length : Int) := by rw [show (ci_ + 1).toNat = ci_.toNat + 1 by omega, fr_arr (t := 138) (i := 0) hF_ rfl]; exact hw_
    refine sm_T_go 5 (c1 := (19, [some (.inr (.inr (some (13, 0)))), some (.inl ci_), some (.inl cb_), some (.inl k_), none, none], [.inl 1, .inl ci_, .inr (.inr (some (138, 0))), .inl k_], S_)) rfl ?_
    refine sm_T_bin (w := ci_ + 1) rfl (bi_add (by omega) (by omega) (by omega)) ?_
    refine sm_T_iald (n := 1024) rfl rfl (by omega) (by omega) ?_
    have bx1_ : (-2147483648) ≤ S_.2.2.1 138 0 (ci_ + 1).toNat ∧ S_.2.2.1 138 0 (ci_ + 1).toNat ≤ 2147483647 := hI_.2 138 0 _
    refine sm_T_br (a := 3) (z := 72) rfl (fun cx2_ => ?_) (fun cx2_ => ?_)
    · have cx2_ : (S_.2.2.1 138 0 (ci_ + 1).toNat) ≤ k_ := of_decide_eq_true cx2_
      refine sm_T_rv rfl ⟨_, _, rfl, rfl, hI_, hF_, ?_⟩
      have kr_ : r_ = [] := List.eq_nil_of_length_eq_zero (by omega)
      have ks_ : t_ = [] := List.eq_nil_of_length_eq_zero (by omega)
      rw [kr_, ks_] at z8_
      have q8_ : g_ch F_ c_ G1_ [] [] = ([], G1_) := rfl
      rw [q8_, List.append_nil] at z8_
      rw [z8_]
      exact ⟨z1_, fun z_ => (z6_ z_).2.1, h2_⟩
    · have cx2_ : ¬ ((S_.2.2.1 138 0 (ci_ + 1).toNat) ≤ k_) := of_decide_eq_false cx2_
      obtain ⟨r0_, r_, rfl⟩ : ∃ r0_ r1_, r_ = r0_ :: r1_ := by cases r_ with | nil => (simp only [List.length_nil] at z4_; omega) | cons p_ q_ => exact ⟨p_, q_, rfl⟩
      obtain ⟨s0_, t_, rfl⟩ : ∃ s0_ s1_, t_ = s0_ :: s1_ := by cases t_ with | nil => (simp only [List.length_nil, List.length_cons] at z3_ z4_; omega) | cons p_ q_ => exact ⟨p_, q_, rfl⟩
      have rx : imq (G1_.length ≤ 1001) (S_.2.2.1 139 0 (8 * ci_ + k_ + 8).toNat = r0_ ∧ S_.2.2.1 139 0 (8 * ci_ + k_ + 16).toNat = s0_) := fun z_ => by rw [show (8 * ci_ + k_ + 8).toNat = 8 * (ci_.toNat + 1) + e1_.length by omega, show (8 * ci_ + k_ + 16).toNat = 8 * (ci_.toNat + 2) + e2_.length by omega]; exact ⟨rwv_m (by rw [← z5_]; exact (z6_ z_).2.2.1), rwv_m (by rw [← z5b]; exact (z6_ z_).2.2.2)⟩
      have l1_ := (g_an_le (F_ := F_) (G_ := G1_) (a_ := c_) (b_ := r0_)).1
      have l2_ := (g_an_le (F_ := F_) (G_ := (g_an F_ G1_ c_ r0_).2) (a_ := i_xor c_ 1) (b_ := s0_)).1
      have l3_ := g_or_le (F_ := F_) (G_ := (g_an F_ (g_an F_ G1_ c_ r0_).2 (i_xor c_ 1) s0_).2) (a_ := (g_an F_ G1_ c_ r0_).1) (b_ := (g_an F_ (g_an F_ G1_ c_ r0_).2 (i_xor c_ 1) s0_).1)
      refine sm_T_go 6 (c1 := (33, [some (.inr (.inr (some (13, 0)))), some (.inl ci_), some (.inl cb_), some (.inl k_), none, none], [.inl ci_, .inl 8, .inr (.inr (some (139, 0))), .inl cb_, .inr (.inr (some (13, 0)))], S_)) rfl ?_
      refine sm_T_bin (w := 8 * ci_) rfl (bi_mul (by omega) (by omega) (by omega)) ?_
      refine sm_T_go 1 (c1 := (36, [some (.inr (.inr (some (13, 0)))), some (.inl ci_), some (.inl cb_), some (.inl k_), none, none], [.inl 8, .inl (8 * ci_), .inr (.inr (some (139, 0))), .inl cb_, .inr (.inr (some (13, 0)))], S_)) rfl ?_
      refine sm_T_bin (w := 8 * ci_ + 8) rfl (bi_add (by omega) (by omega) (by omega)) ?_
      refine sm_T_go 1 (c1 := (38, [some (.inr (.inr (some (13, 0)))), some (.inl ci_), some (.inl cb_), some (.inl k_), none, none], [.inl k_, .inl (8 * ci_ + 8), .inr (.inr (some (139, 0))), .inl cb_, .inr (.inr (some (13, 0)))], S_)) rfl ?_
      refine sm_T_bin (w := 8 * ci_ + k_ + 8) rfl (bi_add (by omega) (by omega) (by omega)) ?_
      refine sm_T_iald (n := 8192) rfl rfl (by omega) (by omega) ?_
      have bx3_ : 0 ≤ S_.2.2.1 139 0 (8 * ci_ + k_ + 8).toNat ∧ S_.2.2.1 139 0 (8 * ci_ + k_ + 8).toNat ≤ 2047 := hI_.2 139 0 _
      refine sm_T_cal (d1 := 0) (Q1 := vq_328 cb_ (S_.2.2.1 139 0 (8 * ci_ + k_ + 8).toNat) F_ G1_ c_ r0_ S_) rfl rfl (by decide) (vc_328 cb_ (S_.2.2.1 139 0 (8 * ci_ + k_ + 8).toNat) F_ G1_ c_ r0_ S_ hI_ (by exact z1_) (by omega) (by omega) (by (intro z_; exact ⟨(z6_ z_).1, (rx z_).1⟩))) (fun u_ Sx4_ px7_ => ?_)
      obtain ⟨vx9_, rfl, hIx5_, hFx6_, px7_⟩ := px7_
      have hFx8_ : ai_fr (sx_W vw_332) S0_ Sx4_ := ai_fr_tr hF_ (fr_le hFx6_ rfl)
      have e58_ := px7_
      have f40_ : Sx4_.2.2.1 139 0 = S_.2.2.1 139 0 := fr_arr hFx6_ rfl
      refine sm_T_go 4 (c1 := (48, [some (.inr (.inr (some (13, 0)))), some (.inl ci_), some (.inl cb_), some (.inl k_), some (.inl vx9_), none], [.inl 1, .inl cb_, .inr (.inr (some (13, 0)))], Sx4_)) rfl ?_
      refine sm_T_bin (w := (i_xor cb_ 1)) rfl rfl ?_
      have bx10_ := i_x1 (x_ := cb_) (by omega)
      refine sm_T_go 4 (c1 := (56, [some (.inr (.inr (some (13, 0)))), some (.inl ci_), some (.inl cb_), some (.inl k_), some (.inl vx9_), none], [.inl ci_, .inl 8, .inr (.inr (some (139, 0))), .inl (i_xor cb_ 1), .inr (.inr (some (13, 0)))], Sx4_)) rfl ?_
      refine sm_T_bin (w := 8 * ci_) rfl (bi_mul (by omega) (by omega) (by omega)) ?_
      refine sm_T_go 1 (c1 := (59, [some (.inr (.inr (some (13, 0)))), some (.inl ci_), some (.inl cb_), some (.inl k_), some (.inl vx9_), none], [.inl 16, .inl (8 * ci_), .inr (.inr (some (139, 0))), .inl (i_xor cb_ 1), .inr (.inr (some (13, 0)))], Sx4_)) rfl ?_
      refine sm_T_bin (w := 8 * ci_ + 16) rfl (bi_add (by omega) (by omega) (by omega)) ?_
      refine sm_T_go 1 (c1 := (61, [some (.inr (.inr (some (13, 0)))), some (.inl ci_), some (.inl cb_), some (.inl k_), some (.inl vx9_), none], [.inl k_, .inl (8 * ci_ + 16), .inr (.inr (some (139, 0))), .inl (i_xor cb_ 1), .inr (.inr (some (13, 0)))], Sx4_)) rfl ?_
      refine sm_T_bin (w := 8 * ci_ + k_ + 16) rfl (bi_add (by omega) (by omega) (by omega)) ?_
      refine sm_T_iald (n := 8192) rfl rfl (by omega) (by omega) ?_
      have bx11_ : 0 ≤ Sx4_.2.2.1 139 0 (8 * ci_ + k_ + 16).toNat ∧ Sx4_.2.2.1 139 0 (8 * ci_ + k_ + 16).toNat ≤ 2047 := hIx5_.2 139 0 _
      refine sm_T_cal (d1 := 0) (Q1 := vq_328 (i_xor cb_ 1) (Sx4_.2.2.1 139 0 (8 * ci_ + k_ + 16).toNat) F_ (g_an F_ G1_ c_ r0_).2 (i_xor c_ 1) s0_ Sx4_) rfl rfl (by decide) (vc_328 (i_xor cb_ 1) (Sx4_.2.2.1 139 0 (8 * ci_ + k_ + 16).toNat) F_ (g_an F_ G1_ c_ r0_).2 (i_xor c_ 1) s0_ Sx4_ hIx5_ (by exact e58_.1) (by omega) (by omega) (by (intro z_; refine ⟨by rw [(z6_ (by omega)).1], ?_⟩; rw [f40_]; exact (rx (by omega)).2))) (fun u_ Sx12_ px15_ => ?_)
      obtain ⟨vx17_, rfl, hIx13_, hFx14_, px15_⟩ := px15_
      have hFx16_ : ai_fr (sx_W vw_332) S0_ Sx12_ := ai_fr_tr hFx8_ (fr_le hFx14_ rfl)
      have e83_ := px15_
      have f63_ : Sx12_.2.2.1 139 0 = S_.2.2.1 139 0 := (fr_arr hFx14_ rfl).trans f40_
      refine sm_T_go 5 (c1 := (75, [some (.inr (.inr (some (13, 0)))), some (.inl ci_), some (.inl cb_), some (.inl k_), some (.inl vx9_), some (.inl vx17_)], [.inl ci_, .inl 8, .inr (.inr (some (139, 0)))], Sx12_)) rfl ?_
      refine sm_T_bin (w := 8 * ci_) rfl (bi_mul (by omega) (by omega) (by omega)) ?_
      refine sm_T_go 1 (c1 := (77, [some (.inr (.inr (some (13, 0)))), some (.inl ci_), some (.inl cb_), some (.inl k_), some (.inl vx9_), some (.inl vx17_)], [.inl k_, .inl (8 * ci_), .inr (.inr (some (139, 0)))], Sx12_)) rfl ?_
      refine sm_T_bin (w := 8 * ci_ + k_) rfl (bi_add (by omega) (by omega) (by omega)) ?_
      refine sm_T_go 3 (c1 := (83, [some (.inr (.inr (some (13, 0)))), some (.inl ci_), some (.inl cb_), some (.inl k_), some (.inl vx9_), some (.inl vx17_)], [.inl vx17_, .inl vx9_, .inr (.inr (some (13, 0))), .inl (8 * ci_ + k_), .inr (.inr (some (139, 0)))], Sx12_)) rfl ?_
      refine sm_T_cal (d1 := 1) (Q1 := vq_329 vx9_ vx17_ F_ (g_an F_ (g_an F_ G1_ c_ r0_).2 (i_xor c_ 1) s0_).2 (g_an F_ G1_ c_ r0_).1 (g_an F_ (g_an F_ G1_ c_ r0_).2 (i_xor c_ 1) s0_).1 Sx12_) rfl rfl (by decide) (vc_329 vx9_ vx17_ F_ (g_an F_ (g_an F_ G1_ c_ r0_).2 (i_xor c_ 1) s0_).2 (g_an F_ G1_ c_ r0_).1 (g_an F_ (g_an F_ G1_ c_ r0_).2 (i_xor c_ 1) s0_).1 Sx12_ hIx13_ (by exact e83_.1) (by omega) (by omega) (by (intro z_; exact ⟨e58_.2.1 (by omega), e83_.2.1 (by omega)⟩))) (fun u_ Sx18_ px21_ => ?_)
      obtain ⟨vx23_, rfl, hIx19_, hFx20_, px21_⟩ := px21_
      have hFx22_ : ai_fr (sx_W vw_332) S0_ Sx18_ := ai_fr_tr hFx16_ (fr_le hFx20_ rfl)
      have e100_ := px21_
      have f83_ : Sx18_.2.2.1 139 0 = S_.2.2.1 139 0 := (fr_arr hFx20_ rfl).trans f63_
      have g9_ : ∀ z9_ : Int, ∀ j9_ : Nat, (sm_aI Sx18_ 139 0 (8 * ci_ + k_).toNat z9_).2.2.1 139 0 j9_ = if j9_ = (8 * ci_ + k_).toNat then z9_ else S_.2.2.1 139 0 j9_ := fun z9_ j9_ => by rw [rd_eq, f83_]
      refine sm_T_iast (n := 8192) rfl rfl (by omega) (by omega) ?_
      have hIx24_ : gi (sm_aI Sx18_ 139 0 (8 * ci_ + k_).toNat vx23_) := gi_aI hIx19_ (show 0 ≤ vx23_ ∧ vx23_ ≤ 2047 from ⟨by omega, by omega⟩)
      have hFx25_ : ai_fr (sx_W vw_332) S0_ (sm_aI Sx18_ 139 0 (8 * ci_ + k_).toNat vx23_) := ai_fr_tr hFx22_ (ai_fr_aI rfl)
      refine sm_T_inc (a := 3) (z := 1) (v := k_) (w := k_ + 1) rfl rfl (by omega) (by omega) (by omega) ?_
      refine sm_T_go 1 (c1 := (12, [some (.inr (.inr (some (13, 0)))), some (.inl ci_), some (.inl cb_), some (.inl (k_ + 1)), some (.inl vx9_), some (.inl vx17_)], [], sm_aI Sx18_ 139 0 (8 * ci_ + k_).toNat vx23_)) rfl ?_
      refine sm_T_wk [some (.inr (.inr (some (13, 0)))), some (.inl ci_), some (.inl cb_), some (.inl (k_ + 1)), none, none] (by exact ⟨rfl, rfl, rfl, rfl, trivial⟩) ?_
      refine ih_ cb_ (k_ + 1) (sm_aI Sx18_ 139 0 (8 * ci_ + k_).toNat vx23_) hIx24_ hFx25_ ⟨?_, ?_, ?_, trivial⟩ ?_
      · omega
      · refine ⟨(g_c3 F_ G1_ c_ r0_ s0_).2, d_ ++ [(g_c3 F_ G1_ c_ r0_ s0_).1], r_, t_, e1_ ++ [r0_], e2_ ++ [s0_], rgl_st e100_.1, ?_, ?_, ?_, ?_, ?_, ?_, ?_, fun z_ => ?_, ?_, ?_⟩
        · simp only [List.length_append, List.length_cons, List.length_nil]; push_cast; omega
        · simp only [List.length_append, List.length_cons, List.length_nil]; push_cast; omega
        · simp only [List.length_append, List.length_cons, List.length_nil]; push_cast; omega
        · simp only [List.length_cons] at z3_; omega
        · simp only [List.length_cons] at z4_; push_cast at z4_; omega
        · rw [z5_, List.append_assoc]; rfl
        · rw [z5b, List.append_assoc]; rfl
        · have zz_ : (g_or F_ (g_an F_ (g_an F_ G1_ c_ r0_).2 (i_xor c_ 1) s0_).2 (g_an F_ G1_ c_ r0_).1 (g_an F_ (g_an F_ G1_ c_ r0_).2 (i_xor c_ 1) s0_).1).2.length ≤ 1001 := z_
          have q1_ := z6_ (by omega)
          refine ⟨q1_.1, ?_, ?_, ?_⟩
          · exact rwv_ap (q_ := (8 * ci_ + k_).toNat) q1_.2.1 (by omega) (fun j_ => by rw [g9_, e100_.2.1 z_]; rfl)
          · exact rwv_cg q1_.2.2.1 (fun j_ hj_ => by rw [g9_, if_neg (by omega)])
          · exact rwv_cg q1_.2.2.2 (fun j_ hj_ => by rw [g9_, if_neg (by omega)])
        · show _ ≤ (g_or F_ (g_an F_ (g_an F_ G1_ c_ r0_).2 (i_xor c_ 1) s0_).2 (g_an F_ G1_ c_ r0_).1 (g_an F_ (g_an F_ G1_ c_ r0_).2 (i_xor c_ 1) s0_).1).2.length; omega
        · rw [z8_]; exact g_z2_c
      · intro j_ hj_
        rw [g9_, if_neg (by omega)]
        exact h2_ j_ hj_
      · omega
set_option maxHeartbeats 1500000 in
theorem vc_332 {sc_ : Nat × (Nat → Int)} (ci_ : Int) (F_ : Nat) (G_ : pGr) (c_ : Int) (va_ : List Int) (ve_ : List Int) (S0_ : sm_S) (hI_ : gi S0_) (hg_ : rgl F_ G_ S0_) (ha_ : 0 ≤ ci_ ∧ ci_ ≤ 1021) (hw_ : S0_.2.2.1 138 0 (ci_.toNat + 1) = (va_.length : Int)) (hn_ : va_.length = ve_.length ∧ va_.length ≤ 8) (hr_ : imq (G_.length ≤ 1001) (rwv (S0_.2.2.1 139 0) (8 * ci_.toNat) [c_] ∧ rwv (S0_.2.2.1 139 0) (8 * (ci_.toNat + 1)) va_ ∧ rwv (S0_.2.2.1 139 0) (8 * (ci_.toNat + 2)) ve_)) : sm_T (mt_P sc_) 3 332 (0, [some (.inr (.inr (some (13, 0)))), some (.inl ci_), none, none, none, none], [], S0_) (fun ro9_ => ∃ u_ S1_, ro9_ = (.inl u_, S1_, 0) ∧ vq_332 ci_ F_ G_ c_ va_ ve_ S0_ u_ S1_) := by
  have hF_ : ai_fr (sx_W vw_332) S0_ S0_ := ai_fr_rf
  refine sm_T_go 4 (c1 := (7, [some (.inr (.inr (some (13, 0)))), some (.inl ci_), none, none, none, none], [.inl ci_, .inl 8, .inr (.inr (some (139, 0)))], S0_)) rfl ?_
  refine sm_T_bin (w := 8 * ci_) rfl (bi_mul (by omega) (by omega) (by omega)) ?_
  refine sm_T_iald (n := 8192) rfl rfl (by omega) (by omega) ?_
  have bx1_ : 0 ≤ S0_.2.2.1 139 0 (8 * ci_).toNat ∧ S0_.2.2.1 139 0 (8 * ci_).toNat ≤ 2047 := hI_.2 139 0 _
  refine sm_T_go 3 (c1 := (12, [some (.inr (.inr (some (13, 0)))), some (.inl ci_), some (.inl (S0_.2.2.1 139 0 (8 * ci_).toNat)), some (.inl 0), none, none], [], S0_)) rfl ?_
  refine (vl_332 ci_ F_ G_ c_ va_ ve_ S0_ hg_ ha_ hw_ hn_ hr_ _) (S0_.2.2.1 139 0 (8 * ci_).toNat) 0 S0_ hI_ hF_ ⟨?_, ?_, ?_, trivial⟩ (Nat.lt_succ_self _)
  · omega
  · refine ⟨G_, [], va_, ve_, [], [], hg_, rfl, rfl, rfl, hn_.1, by omega, rfl, rfl, fun z_ => ⟨?_, fun k9_ z9_ e9_ => by simp at e9_, (hr_ z_).2.1, (hr_ z_).2.2⟩, Nat.le_refl _, rfl⟩
    have q_ := (hr_ z_).1 0 c_ rfl
    rw [show (8 * ci_).toNat = 8 * ci_.toNat + 0 by omega]
    exact q_
  · (intro j_ hj_; rfl)
end
/-! 99.zc3a -/
section
/-! the reference: applying, second pass; written by wip/p55/gen/vg -/

/-! the_ second pass: what is_ held -/
def o_wd : List (Int × Nat) → List Int → Prop
  | [], _ => True
  | x_ :: o_, h_ => if x_.1 = -3 then (match h_ with
      | c_ :: l_ => c_ = 1 ∧ o_wd o_ l_
      | [] => False) else if x_.1 = -4 then (match h_ with
      | _ :: c_ :: l_ => c_ = 1 ∧ o_wd o_ l_
      | _ => False) else if x_.1 < 0 then o_wd o_ h_ else (match h_ with
      | _ :: l_ => o_wd o_ l_
      | [] => False)
def xg (F_ I_ : Nat) (A_ : pA) (X_ : Nat → gQ → gE → Option (gQ × gE)) (m_ : Nat) (s0_ : gS) (h_ c_ : List Int) (S_ : sm_S) : Prop := ∃ G_ V_, ev F_ I_ A_ X_ m_ s0_ c_ = some ((G_, s0_.1.2), s0_.2.1, s0_.2.2.1, V_) ∧ V_.map (fun v_ => (v_.length : Int)) = h_ ∧ rgl F_ G_ S_ ∧ svl (G_.length ≤ 1001) (S_.2.2.1 139 0) (S_.2.2.1 138 0) V_
def rz (b_ : Nat → Int) (n_ T_ p_ F_ I_ : Nat) (A_ : pA) (X_ : Nat → gQ → gE → Option (gQ × gE)) (m_ : Nat) (s0_ : gS) (s_ : pO) (S_ : sm_S) : Prop := ry b_ n_ T_ 1 p_ (.inr s_) S_ ∧ xg F_ I_ A_ X_ m_ s0_ s_.2.1 s_.2.2 S_ ∧ o_wd s_.1 s_.2.1.tail
theorem mp_c {f_ : List Int → Int} {V_ : gV} {x_ : Int} {h_ : List Int} (e_ : V_.map f_ = x_ :: h_) : ∃ v_ W_, V_ = v_ :: W_ ∧ f_ v_ = x_ ∧ W_.map f_ = h_ := by
  cases V_ with
  | nil => cases e_
  | cons v_ W_ => rw [List.map_cons] at e_; cases e_; exact ⟨v_, W_, rfl, rfl, rfl⟩
theorem ap2_r {k_ x_ y_ : Int} {q_ : Nat} {o_ : List (Int × Nat)} {g_ c_ : List Int} {s_ : pO} (h_ : p_ap2 false k_ q_ o_ x_ y_ g_ c_ = .inr s_) : x_ = y_ ∧ s_ = (o_, (if k_ = 4 then 1 else x_) :: g_, k_ :: c_) := by
  unfold p_ap2 p_ap at h_
  rw [if_neg (by decide)] at h_
  by_cases e_ : x_ = y_
  · rw [if_pos e_] at h_
    exact ⟨e_, (Sum.inr.inj h_).symm⟩
  · rw [if_neg e_] at h_
    cases h_
theorem ch2_r {q_ : Nat} {o_ : List (Int × Nat)} {x_ y_ z_ : Int} {g_ c_ : List Int} {s_ : pO} (h_ : p_ch2 q_ o_ (x_ :: y_ :: z_ :: g_) c_ = .inr s_) : x_ = y_ ∧ s_ = (o_, y_ :: g_, 7 :: c_) := by
  unfold p_ch2 at h_
  by_cases e_ : y_ = x_
  · rw [show p_ch q_ (x_ :: y_ :: z_ :: g_) c_ = .inr (y_ :: g_, 7 :: c_) from if_pos e_] at h_
    exact ⟨e_.symm, (Sum.inr.inj h_).symm⟩
  · rw [show p_ch q_ (x_ :: y_ :: z_ :: g_) c_ = .inl (13, q_) from if_neg e_] at h_
    cases h_
theorem w_sg5 {k_ : Int} (h_ : 1 ≤ k_ ∧ k_ ≤ 5) : (w_sg k_ = 124 ∧ k_ = 1) ∨ (w_sg k_ = 94 ∧ k_ = 2) ∨ (w_sg k_ = 38 ∧ k_ = 3) ∨ (w_sg k_ = 257 ∧ k_ = 4) ∨ (w_sg k_ = 43 ∧ k_ = 5) := by
  have e_ : k_ = 1 ∨ k_ = 2 ∨ k_ = 3 ∨ k_ = 4 ∨ k_ = 5 := by omega
  rcases e_ with e_ | e_ | e_ | e_ | e_ <;> subst e_ <;> decide
theorem o_wd_b {k_ : Int} {q_ : Nat} {o_ : List (Int × Nat)} {x_ : Int} {g_ : List Int} (h_ : o_wd ((k_, q_) :: o_) (x_ :: g_)) (hk_ : 1 ≤ k_) : o_wd o_ g_ := by
  unfold o_wd at h_
  rw [if_neg (by show ¬ k_ = -3; omega), if_neg (by show ¬ k_ = -4; omega), if_neg (by show ¬ k_ < 0; omega)] at h_
  exact h_
theorem o_wd_4 {q_ : Nat} {o_ : List (Int × Nat)} {y_ z_ : Int} {g_ : List Int} (h_ : o_wd ((-4, q_) :: o_) (y_ :: z_ :: g_)) : z_ = 1 ∧ o_wd o_ g_ := by
  unfold o_wd at h_
  rw [if_neg (by show ¬ (-4 : Int) = -3; decide), if_pos rfl] at h_
  exact h_
theorem svl_stk {ok_ : Prop} {st_ wd_ : Nat → Int} : ∀ {V_ : gV}, svl ok_ st_ wd_ V_ → stk wd_ (V_.map fun v_ => (v_.length : Int))
  | [], _ => trivial
  | v_ :: l_, h_ => by
    refine ⟨?_, svl_stk h_.2.2.2⟩
    show wd_ (l_.map fun v_ => (v_.length : Int)).length = (v_.length : Int)
    rw [List.length_map]
    exact h_.1
theorem rz_mk {b_ : Nat → Int} {n_ T_ p_ F_ I_ m_ : Nat} {A_ : pA} {X_ : Nat → gQ → gE → Option (gQ × gE)} {s0_ : gS} {o_ : List (Int × Nat)} {g_ c_ : List Int} {w_ : List (Int × Int)} {G_ : pGr} {V_ : gV} {S_ : sm_S} (hg_ : rg b_ n_ T_ (.inr p_) S_) (hw_ : ws w_ S_) (hwl_ : wl b_ n_ T_ o_ w_) (ho_ : S_.1 13 0 33 = (o_mk o_ : Int)) (hv_ : S_.1 13 0 34 = (V_.length : Int)) (hm_ : S_.1 13 0 27 = 1) (hs_ : s_ok false 1 (o_, g_, c_)) (he_ : ev F_ I_ A_ X_ m_ s0_ c_ = some ((G_, s0_.1.2), s0_.2.1, s0_.2.2.1, V_)) (hl_ : V_.map (fun v_ => (v_.length : Int)) = g_) (hr_ : rgl F_ G_ S_) (hx_ : svl (G_.length ≤ 1001) (S_.2.2.1 139 0) (S_.2.2.1 138 0) V_) (hd_ : o_wd o_ g_.tail) : rz b_ n_ T_ p_ F_ I_ A_ X_ m_ s0_ (o_, g_, c_) S_ := by
  refine ⟨⟨⟨hg_, ⟨w_, hw_, Or.inr ⟨rfl, hwl_⟩⟩, ho_, ⟨?_, fun _ => ?_, fun z_ => absurd z_ (by decide)⟩, hm_⟩, hs_⟩, ⟨G_, V_, he_, hl_, hr_, hx_⟩, hd_⟩
  · rw [hv_, ← hl_, List.length_map]
  · rw [← hl_]
    exact svl_stk hx_
/-! M_.apply -/
def vw_313g : sx_Wl := ([(13, 32), (13, 34), (13, 37)], [138, 139, 140, 141, 142, 143], [])
def vq_313g (b_ : Nat → Int) (n_ : Nat) (T_ : Nat) (p_ : Nat) (F_ : Nat) (I_ : Nat) (A_ : pA) (X_ : Nat → gQ → gE → Option (gQ × gE)) (m_ : Nat) (s0_ : gS) (k_ : Int) (q_ : Nat) (o_ : List (Int × Nat)) (x_ : Int) (y_ : Int) (g_ : List Int) (c_ : List Int) (S0_ : sm_S) (u_ : Option sm_V) (S1_ : sm_S) : Prop := u_ = none ∧ gi S1_ ∧ ai_fr (sx_W vw_313g) S0_ S1_ ∧ (rz b_ n_ T_ p_ F_ I_ A_ X_ m_ s0_ (o_, (if k_ = 4 then 1 else x_) :: g_, k_ :: c_) S1_ ∧ (S1_.1 13 0 32) = (S0_.1 13 0 32) - 1)
set_option maxHeartbeats 1500000 in
set_option maxRecDepth 20000 in
theorem vc_313g {sc_ : Nat × (Nat → Int)} (b_ : Nat → Int) (n_ : Nat) (T_ : Nat) (p_ : Nat) (F_ : Nat) (I_ : Nat) (A_ : pA) (X_ : Nat → gQ → gE → Option (gQ × gE)) (m_ : Nat) (s0_ : gS) (k_ : Int) (q_ : Nat) (o_ : List (Int × Nat)) (x_ : Int) (y_ : Int) (g_ : List Int) (c_ : List Int) (S0_ : sm_S) (hI_ : gi S0_) (ht_ : rtab b_ n_ T_ S0_) (hz_ : rz b_ n_ T_ p_ F_ I_ A_ X_ m_ s0_ ((k_, q_) :: o_, y_ :: x_ :: g_, c_) S0_) (hk_ : 1 ≤ k_) (hxy_ : x_ = y_) : sm_T (mt_P sc_) 4 313 (0, [some (.inr (.inr (some (13, 0)))), none, none, none, none, none, none], [], S0_) (fun ro9_ => ∃ u_ S1_, ro9_ = (.inl u_, S1_, 0) ∧ vq_313g b_ n_ T_ p_ F_ I_ A_ X_ m_ s0_ k_ q_ o_ x_ y_ g_ c_ S0_ u_ S1_) := by
  have hF_ : ai_fr (sx_W vw_313g) S0_ S0_ := ai_fr_rf
  obtain ⟨⟨hg_, ⟨w0_, hw_, hwl_⟩, hop_, hv_, hmo1_⟩, hs_⟩ := id hz_.1
  have hwl_ : wl b_ n_ T_ ((k_, q_) :: o_) w0_ := by rcases hwl_ with z_ | z_; (exact absurd z_.1 (by decide)); (exact z_.2)
  obtain ⟨tq_, u0_, rfl, hq_, hwr_⟩ := hwl_
  have hT_ := ht_.2.1
  have hq1_ := rtp_at ht_ hq_
  obtain ⟨v1_, v2_, v3_⟩ := id hv_
  have w1_ := ws_tp hw_ (by rw [hw_.1, List.length_cons]; push_cast; omega)
  obtain ⟨y9_, u9_, w3_, w4_, w5_⟩ := w1_.2
  cases w3_
  have hwl1_ : S0_.1 13 0 32 = (u0_.length : Int) + 1 := by rw [hw_.1, List.length_cons]; push_cast; rfl
  have hf0_ := hg_.1
  have hol_ := o_lim hs_.1 hs_.2.1
  obtain ⟨Gr_, V0_, xe_, xm_, xr, xv_⟩ := id hz_.2.1
  obtain ⟨vy_, V1_, rfl, ly_, xm1_⟩ := mp_c xm_
  obtain ⟨vx_, V_, rfl, lx_, xm2_⟩ := mp_c xm1_
  have hwr1_ : wl b_ n_ T_ o_ u0_ := by rcases hwr_ with z_ | z_; (exact z_.2); (exact absurd z_.1 (by omega))
  clear hwr_
  have v4_ : S0_.1 13 0 34 = (g_.length : Int) + 2 := by rw [v1_]; simp only [List.length_cons]; push_cast; omega
  have Vl_ : V_.length = g_.length := by rw [← xm2_, List.length_map]
  have l1_ : (S0_.1 13 0 34 - 2).toNat = V_.length := by omega
  have l2_ : (S0_.1 13 0 34 - 1).toNat = (vx_ :: V_).length := by simp only [List.length_cons]; omega
  have e1_ : S0_.2.2.1 138 0 (S0_.1 13 0 34 - 2).toNat = (vx_.length : Int) := by rw [l1_]; exact xv_.2.2.2.1
  have e2_ : S0_.2.2.1 138 0 (S0_.1 13 0 34 - 1).toNat = (vy_.length : Int) := by rw [l2_]; exact xv_.1
  have wsg_ : S0_.2.2.1 136 0 (S0_.1 13 0 32 - 1).toNat = w_sg k_ := w1_.1
  have hul_ : u0_.length ≤ 731 := by have := wl_len hwr1_; have h9_ : ((k_, q_) :: o_).length ≤ 365 := hol_.1; simp only [List.length_cons] at h9_; omega
  have hgl_ : (y_ :: x_ :: g_).length = o_hl ((k_, q_) :: o_) + 1 := hs_.2.2.1
  have hgl2_ : o_hl ((k_, q_) :: o_) ≤ 425 := hol_.2
  simp only [List.length_cons] at hgl_
  have k5_ : k_ ≤ 5 := (o_ok_lt hs_.1 hk_).2
  have w5_ := w_sg5 (k_ := k_) ⟨hk_, k5_⟩
  have lxy_ : vx_.length = vy_.length := by omega
  have x8_ := xv_.2.2.2.2.1
  obtain ⟨Gn_, hGn_⟩ : ∃ z_, z_ = (g_op F_ k_ Gr_ vx_ vy_).2 := ⟨_, rfl⟩
  have ogl_ := g_op_le (F_ := F_) (k_ := k_) (x_ := vx_) (y_ := vy_) (G_ := Gr_)
  have oln_ := g_op_ln (F_ := F_) (k_ := k_) (x_ := vx_) (y_ := vy_) (G_ := Gr_) lxy_ x8_.1
  have evn_ := ev_op xe_ ⟨hk_, k5_⟩ lxy_ x8_.1
  have bx1_ : 0 ≤ S0_.1 13 0 32 ∧ S0_.1 13 0 32 ≤ 1023 := hI_.1 13 0 32 rfl
  refine sm_T_go 5 (c1 := (9, [some (.inr (.inr (some (13, 0)))), none, none, none, none, none, none], [.inl 1, .inl (S0_.1 13 0 32), .inr (.inr (some (136, 0)))], S0_)) rfl ?_
  refine sm_T_bin (w := (S0_.1 13 0 32) - 1) rfl (bi_sub (by omega) (by omega) (by omega)) ?_
  refine sm_T_iald (n := 1024) rfl rfl (by omega) (by omega) ?_
  have bx2_ : (-2147483648) ≤ S0_.2.2.1 136 0 ((S0_.1 13 0 32) - 1).toNat ∧ S0_.2.2.1 136 0 ((S0_.1 13 0 32) - 1).toNat ≤ 2147483647 := hI_.2 136 0 _
  refine sm_T_go 6 (c1 := (21, [some (.inr (.inr (some (13, 0)))), some (.inl (S0_.2.2.1 136 0 ((S0_.1 13 0 32) - 1).toNat)), none, none, none, none, none], [.inl 1, .inl (S0_.1 13 0 32), .inr (.inr (some (137, 0)))], S0_)) rfl ?_
  refine sm_T_bin (w := (S0_.1 13 0 32) - 1) rfl (bi_sub (by omega) (by omega) (by omega)) ?_
  refine sm_T_iald (n := 1024) rfl rfl (by omega) (by omega) ?_
  have bx3_ : 0 ≤ S0_.2.2.1 137 0 ((S0_.1 13 0 32) - 1).toNat ∧ S0_.2.2.1 137 0 ((S0_.1 13 0 32) - 1).toNat ≤ 1280 := hI_.2 137 0 _
  refine sm_T_go 5 (c1 := (30, [some (.inr (.inr (some (13, 0)))), some (.inl (S0_.2.2.1 136 0 ((S0_.1 13 0 32) - 1).toNat)), some (.inl (S0_.2.2.1 137 0 ((S0_.1 13 0 32) - 1).toNat)), none, none, none, none], [.inl 1, .inl (S0_.1 13 0 32), .inr (.inr (some (13, 0)))], S0_)) rfl ?_
  refine sm_T_bin (w := (S0_.1 13 0 32) - 1) rfl (bi_sub (by omega) (by omega) (by omega)) ?_
  have hIx4_ : gi (sm_pI S0_ 13 0 32 ((S0_.1 13 0 32) - 1)) := gi_pI hI_ (show 0 ≤ (S0_.1 13 0 32) - 1 ∧ (S0_.1 13 0 32) - 1 ≤ 1023 from ⟨by omega, by omega⟩)
  have hFx5_ : ai_fr (sx_W vw_313g) S0_ (sm_pI S0_ 13 0 32 ((S0_.1 13 0 32) - 1)) := ai_fr_tr hF_ (ai_fr_pI rfl)
  have bx6_ : 0 ≤ S0_.1 13 0 34 ∧ S0_.1 13 0 34 ≤ 1023 := hI_.1 13 0 34 rfl
  refine sm_T_go 4 (c1 := (39, [some (.inr (.inr (some (13, 0)))), some (.inl (S0_.2.2.1 136 0 ((S0_.1 13 0 32) - 1).toNat)), some (.inl (S0_.2.2.1 137 0 ((S0_.1 13 0 32) - 1).toNat)), none, none, none, none], [.inl 2, .inl (S0_.1 13 0 34)], sm_pI S0_ 13 0 32 ((S0_.1 13 0 32) - 1))) rfl ?_
  refine sm_T_bin (w := (S0_.1 13 0 34) - 2) rfl (bi_sub (by omega) (by omega) (by omega)) ?_
  refine sm_T_go 4 (c1 := (46, [some (.inr (.inr (some (13, 0)))), some (.inl (S0_.2.2.1 136 0 ((S0_.1 13 0 32) - 1).toNat)), some (.inl (S0_.2.2.1 137 0 ((S0_.1 13 0 32) - 1).toNat)), some (.inl ((S0_.1 13 0 34) - 2)), none, none, none], [.inl 1, .inl (S0_.1 13 0 34)], sm_pI S0_ 13 0 32 ((S0_.1 13 0 32) - 1))) rfl ?_
  refine sm_T_bin (w := (S0_.1 13 0 34) - 1) rfl (bi_sub (by omega) (by omega) (by omega)) ?_
  have bx7_ : 0 ≤ S0_.1 13 0 27 ∧ S0_.1 13 0 27 ≤ 2 := hI_.1 13 0 27 rfl
  refine sm_T_go 4 (c1 := (54, [some (.inr (.inr (some (13, 0)))), some (.inl (S0_.2.2.1 136 0 ((S0_.1 13 0 32) - 1).toNat)), some (.inl (S0_.2.2.1 137 0 ((S0_.1 13 0 32) - 1).toNat)), some (.inl ((S0_.1 13 0 34) - 2)), some (.inl ((S0_.1 13 0 34) - 1)), none, none], [.inl 2, .inl (S0_.1 13 0 27)], sm_pI S0_ 13 0 32 ((S0_.1 13 0 32) - 1))) rfl ?_
  refine sm_T_br (a := 3) (z := 26) rfl (fun cx8_ => ?_) (fun cx8_ => ?_)
  · have cx8_ : 2 ≤ (S0_.1 13 0 27) := of_decide_eq_true cx8_
    exfalso; omega
  · have cx8_ : ¬ (2 ≤ (S0_.1 13 0 27)) := of_decide_eq_false cx8_
    refine sm_T_go 3 (c1 := (62, [some (.inr (.inr (some (13, 0)))), some (.inl (S0_.2.2.1 136 0 ((S0_.1 13 0 32) - 1).toNat)), some (.inl (S0_.2.2.1 137 0 ((S0_.1 13 0 32) - 1).toNat)), some (.inl ((S0_.1 13 0 34) - 2)), some (.inl ((S0_.1 13 0 34) - 1)), none, none], [.inl ((S0_.1 13 0 34) - 2), .inr (.inr (some (138, 0)))], sm_pI S0_ 13 0 32 ((S0_.1 13 0 32) - 1))) rfl ?_
    refine sm_T_iald (n := 1024) rfl rfl (by omega) (by omega) ?_
    have bx9_ : (-2147483648) ≤ S0_.2.2.1 138 0 ((S0_.1 13 0 34) - 2).toNat ∧ S0_.2.2.1 138 0 ((S0_.1 13 0 34) - 2).toNat ≤ 2147483647 := hI_.2 138 0 _
    refine sm_T_go 3 (c1 := (69, [some (.inr (.inr (some (13, 0)))), some (.inl (S0_.2.2.1 136 0 ((S0_.1 13 0 32) - 1).toNat)), some (.inl (S0_.2.2.1 137 0 ((S0_.1 13 0 32) - 1).toNat)), some (.inl ((S0_.1 13 0 34) - 2)), some (.inl ((S0_.1 13 0 34) - 1)), none, none], [.inl ((S0_.1 13 0 34) - 1), .inr (.inr (some (138, 0))), .inl (S0_.2.2.1 138 0 ((S0_.1 13 0 34) - 2).toNat)], sm_pI S0_ 13 0 32 ((S0_.1 13 0 32) - 1))) rfl ?_
    refine sm_T_iald (n := 1024) rfl rfl (by omega) (by omega) ?_
    have bx10_ : (-2147483648) ≤ S0_.2.2.1 138 0 ((S0_.1 13 0 34) - 1).toNat ∧ S0_.2.2.1 138 0 ((S0_.1 13 0 34) - 1).toNat ≤ 2147483647 := hI_.2 138 0 _
    refine sm_T_go 0 (c1 := (70, [some (.inr (.inr (some (13, 0)))), some (.inl (S0_.2.2.1 136 0 ((S0_.1 13 0 32) - 1).toNat)), some (.inl (S0_.2.2.1 137 0 ((S0_.1 13 0 32) - 1).toNat)), some (.inl ((S0_.1 13 0 34) - 2)), some (.inl ((S0_.1 13 0 34) - 1)), none, none], [.inl (S0_.2.2.1 138 0 ((S0_.1 13 0 34) - 1).toNat), .inl (S0_.2.2.1 138 0 ((S0_.1 13 0 34) - 2).toNat)], sm_pI S0_ 13 0 32 ((S0_.1 13 0 32) - 1))) rfl ?_
    refine sm_T_br (a := 0) (z := 10) rfl (fun cx11_ => ?_) (fun cx11_ => ?_)
    · have cx11_ : (S0_.2.2.1 138 0 ((S0_.1 13 0 34) - 2).toNat) = (S0_.2.2.1 138 0 ((S0_.1 13 0 34) - 1).toNat) := of_decide_eq_true cx11_
      refine sm_T_go 3 (c1 := (85, [some (.inr (.inr (some (13, 0)))), some (.inl (S0_.2.2.1 136 0 ((S0_.1 13 0 32) - 1).toNat)), some (.inl (S0_.2.2.1 137 0 ((S0_.1 13 0 32) - 1).toNat)), some (.inl ((S0_.1 13 0 34) - 2)), some (.inl ((S0_.1 13 0 34) - 1)), none, none], [.inl 1, .inl (S0_.1 13 0 27)], sm_pI S0_ 13 0 32 ((S0_.1 13 0 32) - 1))) rfl ?_
      refine sm_T_br (a := 1) (z := 11) rfl (fun cx12_ => ?_) (fun cx12_ => ?_)
      · have cx12_ : (S0_.1 13 0 27) ≠ 1 := of_decide_eq_true cx12_
        exfalso; omega
      · have cx12_ : ¬ ((S0_.1 13 0 27) ≠ 1) := of_decide_eq_false cx12_
        refine sm_T_go 4 (c1 := (93, [some (.inr (.inr (some (13, 0)))), some (.inl (S0_.2.2.1 136 0 ((S0_.1 13 0 32) - 1).toNat)), some (.inl (S0_.2.2.1 137 0 ((S0_.1 13 0 32) - 1).toNat)), some (.inl ((S0_.1 13 0 34) - 2)), some (.inl ((S0_.1 13 0 34) - 1)), none, none], [.inl ((S0_.1 13 0 34) - 1), .inl ((S0_.1 13 0 34) - 2), .inl (S0_.2.2.1 136 0 ((S0_.1 13 0 32) - 1).toNat), .inr (.inr (some (13, 0)))], sm_pI S0_ 13 0 32 ((S0_.1 13 0 32) - 1))) rfl ?_
        refine sm_T_cal (d1 := 3) (Q1 := vq_331 (S0_.2.2.1 136 0 ((S0_.1 13 0 32) - 1).toNat) ((S0_.1 13 0 34) - 2) ((S0_.1 13 0 34) - 1) F_ Gr_ vx_ vy_ k_ (sm_pI S0_ 13 0 32 ((S0_.1 13 0 32) - 1))) rfl rfl (by decide) (vc_331 (S0_.2.2.1 136 0 ((S0_.1 13 0 32) - 1).toNat) ((S0_.1 13 0 34) - 2) ((S0_.1 13 0 34) - 1) F_ Gr_ vx_ vy_ k_ (sm_pI S0_ 13 0 32 ((S0_.1 13 0 32) - 1)) hIx4_ (by exact rgl_fr (w_ := ([(13, 32)], [], [])) xr (ai_fr_pI rfl) rfl rfl rfl rfl rfl rfl) (by omega) (by exact e1_) (by exact ⟨lxy_, x8_⟩) (by (intro z_; rw [l1_, l2_]; exact ⟨xv_.2.2.2.2.2.1 z_, xv_.2.2.1 z_⟩)) (by omega)) (fun u_ Sx13_ px16_ => ?_)
        obtain ⟨rfl, hIx14_, hFx15_, px16_⟩ := px16_
        have hFx17_ : ai_fr (sx_W vw_313g) S0_ Sx13_ := ai_fr_tr hFx5_ (fr_le hFx15_ rfl)
        have e93_ := px16_
        have m93_ : Sx13_.1 13 0 27 = 1 := (hFx15_.1 13 0 27 rfl).trans hmo1_
        have v93_ : Sx13_.1 13 0 34 = S0_.1 13 0 34 := hFx15_.1 13 0 34 rfl
        have w93_ : Sx13_.1 13 0 32 = S0_.1 13 0 32 - 1 := hFx15_.1 13 0 32 rfl
        have d93_ : Sx13_.2.2.1 138 0 = S0_.2.2.1 138 0 := by have q9_ := fr_arr (t := 138) (i := 0) hFx15_ rfl; exact q9_
        have g93_ : rg b_ n_ T_ (.inr p_) Sx13_ := rg_fr (show rg b_ n_ T_ (.inr p_) (sm_pI S0_ 13 0 32 ((S0_.1 13 0 32) - 1)) from hg_) hFx15_ rfl rfl rfl
        have k136_ : Sx13_.2.2.1 136 0 = S0_.2.2.1 136 0 := by have q9_ := fr_arr (t := 136) (i := 0) hFx15_ rfl; exact q9_
        have k137_ : Sx13_.2.2.1 137 0 = S0_.2.2.1 137 0 := by have q9_ := fr_arr (t := 137) (i := 0) hFx15_ rfl; exact q9_
        have b93_ : Sx13_.2.2.1 138 0 (S0_.1 13 0 34 - 2).toNat = (vx_.length : Int) := by rw [d93_]; exact e1_
        have o93_ : Sx13_.1 13 0 33 = (o_mk o_ : Int) := (hFx15_.1 13 0 33 rfl).trans (hop_.trans (by show (((if k_ < 0 then 1 else 0) + o_mk o_ : Nat) : Int) = _; rw [if_neg (by omega)]; simp))
        have bx18_ : 0 ≤ Sx13_.1 13 0 27 ∧ Sx13_.1 13 0 27 ≤ 2 := hIx14_.1 13 0 27 rfl
        refine sm_T_go 3 (c1 := (101, [some (.inr (.inr (some (13, 0)))), some (.inl (S0_.2.2.1 136 0 ((S0_.1 13 0 32) - 1).toNat)), some (.inl (S0_.2.2.1 137 0 ((S0_.1 13 0 32) - 1).toNat)), some (.inl ((S0_.1 13 0 34) - 2)), some (.inl ((S0_.1 13 0 34) - 1)), none, none], [.inl 2, .inl (Sx13_.1 13 0 27)], Sx13_)) rfl ?_
        refine sm_T_br (a := 1) (z := 68) rfl (fun cx19_ => ?_) (fun cx19_ => ?_)
        · have cx19_ : (Sx13_.1 13 0 27) ≠ 2 := of_decide_eq_true cx19_
          refine sm_T_go 5 (c1 := (178, [some (.inr (.inr (some (13, 0)))), some (.inl (S0_.2.2.1 136 0 ((S0_.1 13 0 32) - 1).toNat)), some (.inl (S0_.2.2.1 137 0 ((S0_.1 13 0 32) - 1).toNat)), some (.inl ((S0_.1 13 0 34) - 2)), some (.inl ((S0_.1 13 0 34) - 1)), none, none], [.inl 257, .inl (S0_.2.2.1 136 0 ((S0_.1 13 0 32) - 1).toNat), .inl ((S0_.1 13 0 34) - 2), .inr (.inr (some (138, 0)))], Sx13_)) rfl ?_
          refine sm_T_br (a := 1) (z := 7) rfl (fun cx20_ => ?_) (fun cx20_ => ?_)
          · have cx20_ : (S0_.2.2.1 136 0 ((S0_.1 13 0 32) - 1).toNat) ≠ 257 := of_decide_eq_true cx20_
            refine sm_T_go 3 (c1 := (190, [some (.inr (.inr (some (13, 0)))), some (.inl (S0_.2.2.1 136 0 ((S0_.1 13 0 32) - 1).toNat)), some (.inl (S0_.2.2.1 137 0 ((S0_.1 13 0 32) - 1).toNat)), some (.inl ((S0_.1 13 0 34) - 2)), some (.inl ((S0_.1 13 0 34) - 1)), none, none], [.inl ((S0_.1 13 0 34) - 2), .inr (.inr (some (138, 0))), .inl ((S0_.1 13 0 34) - 2), .inr (.inr (some (138, 0)))], Sx13_)) rfl ?_
            refine sm_T_iald (n := 1024) rfl rfl (by omega) (by omega) ?_
            have bx21_ : (-2147483648) ≤ Sx13_.2.2.1 138 0 ((S0_.1 13 0 34) - 2).toNat ∧ Sx13_.2.2.1 138 0 ((S0_.1 13 0 34) - 2).toNat ≤ 2147483647 := hIx14_.2 138 0 _
            refine sm_T_iast (n := 1024) rfl rfl (by omega) (by omega) ?_
            have hIx22_ : gi (sm_aI Sx13_ 138 0 ((S0_.1 13 0 34) - 2).toNat (Sx13_.2.2.1 138 0 ((S0_.1 13 0 34) - 2).toNat)) := gi_aI hIx14_ (show (-2147483648) ≤ (Sx13_.2.2.1 138 0 ((S0_.1 13 0 34) - 2).toNat) ∧ (Sx13_.2.2.1 138 0 ((S0_.1 13 0 34) - 2).toNat) ≤ 2147483647 from ⟨by omega, by omega⟩)
            have hFx23_ : ai_fr (sx_W vw_313g) S0_ (sm_aI Sx13_ 138 0 ((S0_.1 13 0 34) - 2).toNat (Sx13_.2.2.1 138 0 ((S0_.1 13 0 34) - 2).toNat)) := ai_fr_tr hFx17_ (ai_fr_aI rfl)
            have bx24_ : 0 ≤ Sx13_.1 13 0 34 ∧ Sx13_.1 13 0 34 ≤ 1023 := hIx14_.1 13 0 34 rfl
            refine sm_T_go 4 (c1 := (198, [some (.inr (.inr (some (13, 0)))), some (.inl (S0_.2.2.1 136 0 ((S0_.1 13 0 32) - 1).toNat)), some (.inl (S0_.2.2.1 137 0 ((S0_.1 13 0 32) - 1).toNat)), some (.inl ((S0_.1 13 0 34) - 2)), some (.inl ((S0_.1 13 0 34) - 1)), none, none], [.inl 1, .inl (Sx13_.1 13 0 34), .inr (.inr (some (13, 0)))], sm_aI Sx13_ 138 0 ((S0_.1 13 0 34) - 2).toNat (Sx13_.2.2.1 138 0 ((S0_.1 13 0 34) - 2).toNat))) rfl ?_
            refine sm_T_bin (w := (Sx13_.1 13 0 34) - 1) rfl (bi_sub (by omega) (by omega) (by omega)) ?_
            have hIx25_ : gi (sm_pI (sm_aI Sx13_ 138 0 ((S0_.1 13 0 34) - 2).toNat (Sx13_.2.2.1 138 0 ((S0_.1 13 0 34) - 2).toNat)) 13 0 34 ((Sx13_.1 13 0 34) - 1)) := gi_pI hIx22_ (show 0 ≤ (Sx13_.1 13 0 34) - 1 ∧ (Sx13_.1 13 0 34) - 1 ≤ 1023 from ⟨by omega, by omega⟩)
            have hFx26_ : ai_fr (sx_W vw_313g) S0_ (sm_pI (sm_aI Sx13_ 138 0 ((S0_.1 13 0 34) - 2).toNat (Sx13_.2.2.1 138 0 ((S0_.1 13 0 34) - 2).toNat)) 13 0 34 ((Sx13_.1 13 0 34) - 1)) := ai_fr_tr hFx23_ (ai_fr_pI rfl)
            refine sm_T_go 1 (c1 := (202, [some (.inr (.inr (some (13, 0)))), some (.inl (S0_.2.2.1 136 0 ((S0_.1 13 0 32) - 1).toNat)), some (.inl (S0_.2.2.1 137 0 ((S0_.1 13 0 32) - 1).toNat)), some (.inl ((S0_.1 13 0 34) - 2)), some (.inl ((S0_.1 13 0 34) - 1)), none, none], [], sm_pI (sm_aI Sx13_ 138 0 ((S0_.1 13 0 34) - 2).toNat (Sx13_.2.2.1 138 0 ((S0_.1 13 0 34) - 2).toNat)) 13 0 34 ((Sx13_.1 13 0 34) - 1))) rfl ?_
            refine sm_T_rv rfl ⟨_, _, rfl, rfl, hIx25_, hFx26_, ?_⟩
            refine ⟨?_, by (try simp only [rd_eq, rd_ne, rf_eq, rf_nk, rf_nt, rd_fa, rd_af, rd_fl, rd_al, rd_lf, rd_la, rd_leq, rd_lne, rd_fr, rd_ar, ne_eq, Nat.reduceEqDiff, not_false_eq_true]); omega⟩
            have nw_ : (if k_ = 4 then (1 : Int) else x_) = ((g_op F_ k_ Gr_ vx_ vy_).1.length : Int) := by rw [oln_]; by_cases z_ : k_ = 4; (rw [if_pos z_, if_pos z_]; rfl); (rw [if_neg z_, if_neg z_]; omega)
            rw [nw_]
            refine rz_mk (w_ := u0_) (V_ := (g_op F_ k_ Gr_ vx_ vy_).1 :: V_) g93_ ⟨?_, ?_, ?_⟩ hwr1_ o93_ ?_ m93_ ?_ evn_ (by rw [List.map_cons, xm2_]) ?_ ?_ (o_wd_b hz_.2.2 hk_)
            · (try simp only [rd_eq, rd_ne, rf_eq, rf_nk, rf_nt, rd_fa, rd_af, rd_fl, rd_al, rd_lf, rd_la, rd_leq, rd_lne, rd_fr, rd_ar, ne_eq, Nat.reduceEqDiff, not_false_eq_true]); omega
            · exact stk_cg (fun j_ _ => by (try simp only [rd_eq, rd_ne, rf_eq, rf_nk, rf_nt, rd_fa, rd_af, rd_fl, rd_al, rd_lf, rd_la, rd_leq, rd_lne, rd_fr, rd_ar, ne_eq, Nat.reduceEqDiff, not_false_eq_true]); rw [k136_]) hw_.2.1.2
            · exact stk_cg (fun j_ _ => by (try simp only [rd_eq, rd_ne, rf_eq, rf_nk, rf_nt, rd_fa, rd_af, rd_fl, rd_al, rd_lf, rd_la, rd_leq, rd_lne, rd_fr, rd_ar, ne_eq, Nat.reduceEqDiff, not_false_eq_true]); rw [k137_]) hw_.2.2.2
            · (try simp only [rd_eq, rd_ne, rf_eq, rf_nk, rf_nt, rd_fa, rd_af, rd_fl, rd_al, rd_lf, rd_la, rd_leq, rd_lne, rd_fr, rd_ar, ne_eq, Nat.reduceEqDiff, not_false_eq_true]); simp only [List.length_cons]; push_cast; omega
            · rw [← nw_]; exact s_ok_ap hk_ (by have xb_ := (h_ok_c.mp (h_ok_c.mp hs_.2.2.2).2).1; split; decide; exact xb_) hs_
            · exact rgl_fr (w_ := ([(13, 34)], [138], [])) e93_.1 (ai_fr_tr (ai_fr_aI rfl) (ai_fr_pI rfl)) rfl rfl rfl rfl rfl rfl
            · refine svl_tp xv_.2.2.2.2.2.2 (fun z_ => Nat.le_trans ogl_ z_) (fun j_ hj_ => ?_) (fun j_ hj_ => ?_) ?_ (by rw [oln_]; split <;> omega) (fun z_ => ?_)
              · (try simp only [rd_eq, rd_ne, rf_eq, rf_nk, rf_nt, rd_fa, rd_af, rd_fl, rd_al, rd_lf, rd_la, rd_leq, rd_lne, rd_fr, rd_ar, ne_eq, Nat.reduceEqDiff, not_false_eq_true]); exact e93_.2.2 j_ (by omega)
              · (try simp only [rd_eq, rd_ne, rf_eq, rf_nk, rf_nt, rd_fa, rd_af, rd_fl, rd_al, rd_lf, rd_la, rd_leq, rd_lne, rd_fr, rd_ar, ne_eq, Nat.reduceEqDiff, not_false_eq_true]); rw [if_neg (by omega), d93_]
              · rw [← nw_]; (try simp only [rd_eq, rd_ne, rf_eq, rf_nk, rf_nt, rd_fa, rd_af, rd_fl, rd_al, rd_lf, rd_la, rd_leq, rd_lne, rd_fr, rd_ar, ne_eq, Nat.reduceEqDiff, not_false_eq_true]); rw [if_pos l1_.symm]; first | (rw [if_pos (by omega)]; done) | (rw [if_neg (by omega)]; omega)
              · have q9_ := e93_.2.1 z_; rw [l1_] at q9_; exact q9_
          · have cx20_ : ¬ ((S0_.2.2.1 136 0 ((S0_.1 13 0 32) - 1).toNat) ≠ 257) := of_decide_eq_false cx20_
            refine sm_T_go 2 (c1 := (191, [some (.inr (.inr (some (13, 0)))), some (.inl (S0_.2.2.1 136 0 ((S0_.1 13 0 32) - 1).toNat)), some (.inl (S0_.2.2.1 137 0 ((S0_.1 13 0 32) - 1).toNat)), some (.inl ((S0_.1 13 0 34) - 2)), some (.inl ((S0_.1 13 0 34) - 1)), none, none], [.inl 1, .inl ((S0_.1 13 0 34) - 2), .inr (.inr (some (138, 0)))], Sx13_)) rfl ?_
            refine sm_T_iast (n := 1024) rfl rfl (by omega) (by omega) ?_
            have hIx27_ : gi (sm_aI Sx13_ 138 0 ((S0_.1 13 0 34) - 2).toNat 1) := gi_aI hIx14_ (show (-2147483648) ≤ 1 ∧ 1 ≤ 2147483647 from ⟨by omega, by omega⟩)
            have hFx28_ : ai_fr (sx_W vw_313g) S0_ (sm_aI Sx13_ 138 0 ((S0_.1 13 0 34) - 2).toNat 1) := ai_fr_tr hFx17_ (ai_fr_aI rfl)
            have bx29_ : 0 ≤ Sx13_.1 13 0 34 ∧ Sx13_.1 13 0 34 ≤ 1023 := hIx14_.1 13 0 34 rfl
            refine sm_T_go 4 (c1 := (198, [some (.inr (.inr (some (13, 0)))), some (.inl (S0_.2.2.1 136 0 ((S0_.1 13 0 32) - 1).toNat)), some (.inl (S0_.2.2.1 137 0 ((S0_.1 13 0 32) - 1).toNat)), some (.inl ((S0_.1 13 0 34) - 2)), some (.inl ((S0_.1 13 0 34) - 1)), none, none], [.inl 1, .inl (Sx13_.1 13 0 34), .inr (.inr (some (13, 0)))], sm_aI Sx13_ 138 0 ((S0_.1 13 0 34) - 2).toNat 1)) rfl ?_
            refine sm_T_bin (w := (Sx13_.1 13 0 34) - 1) rfl (bi_sub (by omega) (by omega) (by omega)) ?_
            have hIx30_ : gi (sm_pI (sm_aI Sx13_ 138 0 ((S0_.1 13 0 34) - 2).toNat 1) 13 0 34 ((Sx13_.1 13 0 34) - 1)) := gi_pI hIx27_ (show 0 ≤ (Sx13_.1 13 0 34) - 1 ∧ (Sx13_.1 13 0 34) - 1 ≤ 1023 from ⟨by omega, by omega⟩)
            have hFx31_ : ai_fr (sx_W vw_313g) S0_ (sm_pI (sm_aI Sx13_ 138 0 ((S0_.1 13 0 34) - 2).toNat 1) 13 0 34 ((Sx13_.1 13 0 34) - 1)) := ai_fr_tr hFx28_ (ai_fr_pI rfl)
            refine sm_T_go 1 (c1 := (202, [some (.inr (.inr (some (13, 0)))), some (.inl (S0_.2.2.1 136 0 ((S0_.1 13 0 32) - 1).toNat)), some (.inl (S0_.2.2.1 137 0 ((S0_.1 13 0 32) - 1).toNat)), some (.inl ((S0_.1 13 0 34) - 2)), some (.inl ((S0_.1 13 0 34) - 1)), none, none], [], sm_pI (sm_aI Sx13_ 138 0 ((S0_.1 13 0 34) - 2).toNat 1) 13 0 34 ((Sx13_.1 13 0 34) - 1))) rfl ?_
            refine sm_T_rv rfl ⟨_, _, rfl, rfl, hIx30_, hFx31_, ?_⟩
            refine ⟨?_, by (try simp only [rd_eq, rd_ne, rf_eq, rf_nk, rf_nt, rd_fa, rd_af, rd_fl, rd_al, rd_lf, rd_la, rd_leq, rd_lne, rd_fr, rd_ar, ne_eq, Nat.reduceEqDiff, not_false_eq_true]); omega⟩
            have nw_ : (if k_ = 4 then (1 : Int) else x_) = ((g_op F_ k_ Gr_ vx_ vy_).1.length : Int) := by rw [oln_]; by_cases z_ : k_ = 4; (rw [if_pos z_, if_pos z_]; rfl); (rw [if_neg z_, if_neg z_]; omega)
            rw [nw_]
            refine rz_mk (w_ := u0_) (V_ := (g_op F_ k_ Gr_ vx_ vy_).1 :: V_) g93_ ⟨?_, ?_, ?_⟩ hwr1_ o93_ ?_ m93_ ?_ evn_ (by rw [List.map_cons, xm2_]) ?_ ?_ (o_wd_b hz_.2.2 hk_)
            · (try simp only [rd_eq, rd_ne, rf_eq, rf_nk, rf_nt, rd_fa, rd_af, rd_fl, rd_al, rd_lf, rd_la, rd_leq, rd_lne, rd_fr, rd_ar, ne_eq, Nat.reduceEqDiff, not_false_eq_true]); omega
            · exact stk_cg (fun j_ _ => by (try simp only [rd_eq, rd_ne, rf_eq, rf_nk, rf_nt, rd_fa, rd_af, rd_fl, rd_al, rd_lf, rd_la, rd_leq, rd_lne, rd_fr, rd_ar, ne_eq, Nat.reduceEqDiff, not_false_eq_true]); rw [k136_]) hw_.2.1.2
            · exact stk_cg (fun j_ _ => by (try simp only [rd_eq, rd_ne, rf_eq, rf_nk, rf_nt, rd_fa, rd_af, rd_fl, rd_al, rd_lf, rd_la, rd_leq, rd_lne, rd_fr, rd_ar, ne_eq, Nat.reduceEqDiff, not_false_eq_true]); rw [k137_]) hw_.2.2.2
            · (try simp only [rd_eq, rd_ne, rf_eq, rf_nk, rf_nt, rd_fa, rd_af, rd_fl, rd_al, rd_lf, rd_la, rd_leq, rd_lne, rd_fr, rd_ar, ne_eq, Nat.reduceEqDiff, not_false_eq_true]); simp only [List.length_cons]; push_cast; omega
            · rw [← nw_]; exact s_ok_ap hk_ (by have xb_ := (h_ok_c.mp (h_ok_c.mp hs_.2.2.2).2).1; split; decide; exact xb_) hs_
            · exact rgl_fr (w_ := ([(13, 34)], [138], [])) e93_.1 (ai_fr_tr (ai_fr_aI rfl) (ai_fr_pI rfl)) rfl rfl rfl rfl rfl rfl
            · refine svl_tp xv_.2.2.2.2.2.2 (fun z_ => Nat.le_trans ogl_ z_) (fun j_ hj_ => ?_) (fun j_ hj_ => ?_) ?_ (by rw [oln_]; split <;> omega) (fun z_ => ?_)
              · (try simp only [rd_eq, rd_ne, rf_eq, rf_nk, rf_nt, rd_fa, rd_af, rd_fl, rd_al, rd_lf, rd_la, rd_leq, rd_lne, rd_fr, rd_ar, ne_eq, Nat.reduceEqDiff, not_false_eq_true]); exact e93_.2.2 j_ (by omega)
              · (try simp only [rd_eq, rd_ne, rf_eq, rf_nk, rf_nt, rd_fa, rd_af, rd_fl, rd_al, rd_lf, rd_la, rd_leq, rd_lne, rd_fr, rd_ar, ne_eq, Nat.reduceEqDiff, not_false_eq_true]); rw [if_neg (by omega), d93_]
              · rw [← nw_]; (try simp only [rd_eq, rd_ne, rf_eq, rf_nk, rf_nt, rd_fa, rd_af, rd_fl, rd_al, rd_lf, rd_la, rd_leq, rd_lne, rd_fr, rd_ar, ne_eq, Nat.reduceEqDiff, not_false_eq_true]); rw [if_pos l1_.symm]; first | (rw [if_pos (by omega)]; done) | (rw [if_neg (by omega)]; omega)
              · have q9_ := e93_.2.1 z_; rw [l1_] at q9_; exact q9_
        · have cx19_ : ¬ ((Sx13_.1 13 0 27) ≠ 2) := of_decide_eq_false cx19_
          exfalso; omega
    · have cx11_ : ¬ ((S0_.2.2.1 138 0 ((S0_.1 13 0 34) - 2).toNat) = (S0_.2.2.1 138 0 ((S0_.1 13 0 34) - 1).toNat)) := of_decide_eq_false cx11_
      exfalso; omega
end
/-! 99.zc3b -/
section
/-! M_.choose -/
def vw_314g : sx_Wl := ([(13, 32), (13, 33), (13, 34), (13, 37)], [138, 139, 140, 141, 142, 143], [])
def vq_314g (b_ : Nat → Int) (n_ : Nat) (T_ : Nat) (p_ : Nat) (F_ : Nat) (I_ : Nat) (A_ : pA) (X_ : Nat → gQ → gE → Option (gQ × gE)) (m_ : Nat) (s0_ : gS) (q_ : Nat) (o_ : List (Int × Nat)) (x_ : Int) (y_ : Int) (z_ : Int) (g_ : List Int) (c_ : List Int) (S0_ : sm_S) (u_ : Option sm_V) (S1_ : sm_S) : Prop := u_ = none ∧ gi S1_ ∧ ai_fr (sx_W vw_314g) S0_ S1_ ∧ (rz b_ n_ T_ p_ F_ I_ A_ X_ m_ s0_ (o_, y_ :: g_, 7 :: c_) S1_ ∧ (S1_.1 13 0 32) = (S0_.1 13 0 32) - 1)
set_option maxHeartbeats 1500000 in
theorem vc_314g {sc_ : Nat × (Nat → Int)} (b_ : Nat → Int) (n_ : Nat) (T_ : Nat) (p_ : Nat) (F_ : Nat) (I_ : Nat) (A_ : pA) (X_ : Nat → gQ → gE → Option (gQ × gE)) (m_ : Nat) (s0_ : gS) (q_ : Nat) (o_ : List (Int × Nat)) (x_ : Int) (y_ : Int) (z_ : Int) (g_ : List Int) (c_ : List Int) (S0_ : sm_S) (hI_ : gi S0_) (ht_ : rtab b_ n_ T_ S0_) (hz_ : rz b_ n_ T_ p_ F_ I_ A_ X_ m_ s0_ ((-4, q_) :: o_, x_ :: y_ :: z_ :: g_, c_) S0_) (hxy_ : x_ = y_) : sm_T (mt_P sc_) 4 314 (0, [some (.inr (.inr (some (13, 0)))), none, none], [], S0_) (fun ro9_ => ∃ u_ S1_, ro9_ = (.inl u_, S1_, 0) ∧ vq_314g b_ n_ T_ p_ F_ I_ A_ X_ m_ s0_ q_ o_ x_ y_ z_ g_ c_ S0_ u_ S1_) := by
  have hF_ : ai_fr (sx_W vw_314g) S0_ S0_ := ai_fr_rf
  obtain ⟨⟨hg_, ⟨w0_, hw_, hwl_⟩, hop_, hv_, hmo1_⟩, hs_⟩ := id hz_.1
  have hwl_ : wl b_ n_ T_ ((-4, q_) :: o_) w0_ := by rcases hwl_ with z_ | z_; (exact absurd z_.1 (by decide)); (exact z_.2)
  obtain ⟨tq_, u0_, rfl, hq_, hwr_⟩ := hwl_
  have hT_ := ht_.2.1
  have hq1_ := rtp_at ht_ hq_
  obtain ⟨v1_, v2_, v3_⟩ := id hv_
  have w1_ := ws_tp hw_ (by rw [hw_.1, List.length_cons]; push_cast; omega)
  obtain ⟨y9_, u9_, w3_, w4_, w5_⟩ := w1_.2
  cases w3_
  have hwl1_ : S0_.1 13 0 32 = (u0_.length : Int) + 1 := by rw [hw_.1, List.length_cons]; push_cast; rfl
  have hf0_ := hg_.1
  have hol_ := o_lim hs_.1 hs_.2.1
  obtain ⟨Gr_, V0_, xe_, xm_, xr, xv_⟩ := id hz_.2.1
  obtain ⟨vy_, V1_, rfl, ly_, xm1_⟩ := mp_c xm_
  obtain ⟨vx_, Vq_, rfl, lx_, xm2_⟩ := mp_c xm1_
  obtain ⟨vz_, V_, rfl, lz_, xm3_⟩ := mp_c xm2_
  have hwr1_ : wl b_ n_ T_ o_ u0_ := by rcases hwr_ with z9_ | z9_; (exact z9_.2); (exact absurd z9_.1 (by decide))
  clear hwr_
  have hop1_ : S0_.1 13 0 33 = (o_mk o_ : Int) + 1 := by rw [hop_]; show ((1 + o_mk o_ : Nat) : Int) = _; push_cast; omega
  have v4_ : S0_.1 13 0 34 = (g_.length : Int) + 3 := by rw [v1_]; simp only [List.length_cons]; push_cast; omega
  have Vl_ : V_.length = g_.length := by rw [← xm3_, List.length_map]
  have l1_ : (S0_.1 13 0 34 - 3).toNat = V_.length := by omega
  have l2_ : (S0_.1 13 0 34 - 2).toNat = (vz_ :: V_).length := by simp only [List.length_cons]; omega
  have l3_ : (S0_.1 13 0 34 - 1).toNat = (vx_ :: vz_ :: V_).length := by simp only [List.length_cons]; omega
  have e2_ : S0_.2.2.1 138 0 (S0_.1 13 0 34 - 2).toNat = (vx_.length : Int) := by rw [l2_]; exact xv_.2.2.2.1
  have e3_ : S0_.2.2.1 138 0 (S0_.1 13 0 34 - 1).toNat = (vy_.length : Int) := by rw [l3_]; exact xv_.1
  have hul_ : u0_.length ≤ 731 := by have := wl_len hwr1_; have h9_ : ((-4, q_) :: o_).length ≤ 365 := hol_.1; simp only [List.length_cons] at h9_; omega
  have hgl_ : (x_ :: y_ :: z_ :: g_).length = o_hl ((-4, q_) :: o_) + 1 := hs_.2.2.1
  have hgl2_ : o_hl ((-4, q_) :: o_) ≤ 425 := hol_.2
  simp only [List.length_cons] at hgl_
  have lxy_ : vx_.length = vy_.length := by omega
  have x8_ := xv_.2.2.2.2.1
  have ow_ := o_wd_4 hz_.2.2
  obtain ⟨cc_, rfl⟩ : ∃ cc_, vz_ = [cc_] := by cases vz_ with | nil => (simp only [List.length_nil] at lz_; omega) | cons a1_ a2_ => (cases a2_ with | nil => exact ⟨a1_, rfl⟩ | cons a3_ a4_ => (simp only [List.length_cons] at lz_; push_cast at lz_; omega))
  have evn_ := ev_ch xe_ lxy_ x8_.1
  have ogl_ : Gr_.length ≤ (g_ch F_ cc_ Gr_ vx_ vy_).2.length := g_z2_le (fun G_ a_ b_ => g_c3_le) _ _ _
  have oln_ : (g_ch F_ cc_ Gr_ vx_ vy_).1.length = vx_.length := g_z2_ln _ _ _ lxy_
  have bx1_ : 0 ≤ S0_.1 13 0 32 ∧ S0_.1 13 0 32 ≤ 1023 := hI_.1 13 0 32 rfl
  refine sm_T_go 5 (c1 := (9, [some (.inr (.inr (some (13, 0)))), none, none], [.inl 1, .inl (S0_.1 13 0 32), .inr (.inr (some (137, 0)))], S0_)) rfl ?_
  refine sm_T_bin (w := (S0_.1 13 0 32) - 1) rfl (bi_sub (by omega) (by omega) (by omega)) ?_
  refine sm_T_iald (n := 1024) rfl rfl (by omega) (by omega) ?_
  have bx2_ : 0 ≤ S0_.2.2.1 137 0 ((S0_.1 13 0 32) - 1).toNat ∧ S0_.2.2.1 137 0 ((S0_.1 13 0 32) - 1).toNat ≤ 1280 := hI_.2 137 0 _
  refine sm_T_go 5 (c1 := (18, [some (.inr (.inr (some (13, 0)))), some (.inl (S0_.2.2.1 137 0 ((S0_.1 13 0 32) - 1).toNat)), none], [.inl 1, .inl (S0_.1 13 0 32), .inr (.inr (some (13, 0)))], S0_)) rfl ?_
  refine sm_T_bin (w := (S0_.1 13 0 32) - 1) rfl (bi_sub (by omega) (by omega) (by omega)) ?_
  have hIx3_ : gi (sm_pI S0_ 13 0 32 ((S0_.1 13 0 32) - 1)) := gi_pI hI_ (show 0 ≤ (S0_.1 13 0 32) - 1 ∧ (S0_.1 13 0 32) - 1 ≤ 1023 from ⟨by omega, by omega⟩)
  have hFx4_ : ai_fr (sx_W vw_314g) S0_ (sm_pI S0_ 13 0 32 ((S0_.1 13 0 32) - 1)) := ai_fr_tr hF_ (ai_fr_pI rfl)
  have bx5_ : 0 ≤ S0_.1 13 0 33 ∧ S0_.1 13 0 33 ≤ 60 := hI_.1 13 0 33 rfl
  refine sm_T_go 5 (c1 := (28, [some (.inr (.inr (some (13, 0)))), some (.inl (S0_.2.2.1 137 0 ((S0_.1 13 0 32) - 1).toNat)), none], [.inl 1, .inl (S0_.1 13 0 33), .inr (.inr (some (13, 0)))], sm_pI S0_ 13 0 32 ((S0_.1 13 0 32) - 1))) rfl ?_
  refine sm_T_bin (w := (S0_.1 13 0 33) - 1) rfl (bi_sub (by omega) (by omega) (by omega)) ?_
  have hIx6_ : gi (sm_pI (sm_pI S0_ 13 0 32 ((S0_.1 13 0 32) - 1)) 13 0 33 ((S0_.1 13 0 33) - 1)) := gi_pI hIx3_ (show 0 ≤ (S0_.1 13 0 33) - 1 ∧ (S0_.1 13 0 33) - 1 ≤ 60 from ⟨by omega, by omega⟩)
  have hFx7_ : ai_fr (sx_W vw_314g) S0_ (sm_pI (sm_pI S0_ 13 0 32 ((S0_.1 13 0 32) - 1)) 13 0 33 ((S0_.1 13 0 33) - 1)) := ai_fr_tr hFx4_ (ai_fr_pI rfl)
  have bx8_ : 0 ≤ S0_.1 13 0 34 ∧ S0_.1 13 0 34 ≤ 1023 := hI_.1 13 0 34 rfl
  refine sm_T_go 4 (c1 := (37, [some (.inr (.inr (some (13, 0)))), some (.inl (S0_.2.2.1 137 0 ((S0_.1 13 0 32) - 1).toNat)), none], [.inl 3, .inl (S0_.1 13 0 34)], sm_pI (sm_pI S0_ 13 0 32 ((S0_.1 13 0 32) - 1)) 13 0 33 ((S0_.1 13 0 33) - 1))) rfl ?_
  refine sm_T_bin (w := (S0_.1 13 0 34) - 3) rfl (bi_sub (by omega) (by omega) (by omega)) ?_
  refine sm_T_go 5 (c1 := (45, [some (.inr (.inr (some (13, 0)))), some (.inl (S0_.2.2.1 137 0 ((S0_.1 13 0 32) - 1).toNat)), some (.inl ((S0_.1 13 0 34) - 3))], [.inl 1, .inl ((S0_.1 13 0 34) - 3), .inr (.inr (some (138, 0)))], sm_pI (sm_pI S0_ 13 0 32 ((S0_.1 13 0 32) - 1)) 13 0 33 ((S0_.1 13 0 33) - 1))) rfl ?_
  refine sm_T_bin (w := (S0_.1 13 0 34) - 2) rfl (bi_add (by omega) (by omega) (by omega)) ?_
  refine sm_T_iald (n := 1024) rfl rfl (by omega) (by omega) ?_
  have bx9_ : (-2147483648) ≤ S0_.2.2.1 138 0 ((S0_.1 13 0 34) - 2).toNat ∧ S0_.2.2.1 138 0 ((S0_.1 13 0 34) - 2).toNat ≤ 2147483647 := hI_.2 138 0 _
  refine sm_T_go 4 (c1 := (53, [some (.inr (.inr (some (13, 0)))), some (.inl (S0_.2.2.1 137 0 ((S0_.1 13 0 32) - 1).toNat)), some (.inl ((S0_.1 13 0 34) - 3))], [.inl 2, .inl ((S0_.1 13 0 34) - 3), .inr (.inr (some (138, 0))), .inl (S0_.2.2.1 138 0 ((S0_.1 13 0 34) - 2).toNat)], sm_pI (sm_pI S0_ 13 0 32 ((S0_.1 13 0 32) - 1)) 13 0 33 ((S0_.1 13 0 33) - 1))) rfl ?_
  refine sm_T_bin (w := (S0_.1 13 0 34) - 1) rfl (bi_add (by omega) (by omega) (by omega)) ?_
  refine sm_T_iald (n := 1024) rfl rfl (by omega) (by omega) ?_
  have bx10_ : (-2147483648) ≤ S0_.2.2.1 138 0 ((S0_.1 13 0 34) - 1).toNat ∧ S0_.2.2.1 138 0 ((S0_.1 13 0 34) - 1).toNat ≤ 2147483647 := hI_.2 138 0 _
  refine sm_T_go 0 (c1 := (55, [some (.inr (.inr (some (13, 0)))), some (.inl (S0_.2.2.1 137 0 ((S0_.1 13 0 32) - 1).toNat)), some (.inl ((S0_.1 13 0 34) - 3))], [.inl (S0_.2.2.1 138 0 ((S0_.1 13 0 34) - 1).toNat), .inl (S0_.2.2.1 138 0 ((S0_.1 13 0 34) - 2).toNat)], sm_pI (sm_pI S0_ 13 0 32 ((S0_.1 13 0 32) - 1)) 13 0 33 ((S0_.1 13 0 33) - 1))) rfl ?_
  refine sm_T_br (a := 0) (z := 10) rfl (fun cx11_ => ?_) (fun cx11_ => ?_)
  · have cx11_ : (S0_.2.2.1 138 0 ((S0_.1 13 0 34) - 2).toNat) = (S0_.2.2.1 138 0 ((S0_.1 13 0 34) - 1).toNat) := of_decide_eq_true cx11_
    have bx12_ : 0 ≤ S0_.1 13 0 27 ∧ S0_.1 13 0 27 ≤ 2 := hI_.1 13 0 27 rfl
    refine sm_T_go 3 (c1 := (70, [some (.inr (.inr (some (13, 0)))), some (.inl (S0_.2.2.1 137 0 ((S0_.1 13 0 32) - 1).toNat)), some (.inl ((S0_.1 13 0 34) - 3))], [.inl 1, .inl (S0_.1 13 0 27)], sm_pI (sm_pI S0_ 13 0 32 ((S0_.1 13 0 32) - 1)) 13 0 33 ((S0_.1 13 0 33) - 1))) rfl ?_
    refine sm_T_br (a := 1) (z := 8) rfl (fun cx13_ => ?_) (fun cx13_ => ?_)
    · have cx13_ : (S0_.1 13 0 27) ≠ 1 := of_decide_eq_true cx13_
      exfalso; omega
    · have cx13_ : ¬ ((S0_.1 13 0 27) ≠ 1) := of_decide_eq_false cx13_
      refine sm_T_go 2 (c1 := (75, [some (.inr (.inr (some (13, 0)))), some (.inl (S0_.2.2.1 137 0 ((S0_.1 13 0 32) - 1).toNat)), some (.inl ((S0_.1 13 0 34) - 3))], [.inl ((S0_.1 13 0 34) - 3), .inr (.inr (some (13, 0)))], sm_pI (sm_pI S0_ 13 0 32 ((S0_.1 13 0 32) - 1)) 13 0 33 ((S0_.1 13 0 33) - 1))) rfl ?_
      refine sm_T_cal (d1 := 3) (Q1 := vq_332 ((S0_.1 13 0 34) - 3) F_ Gr_ cc_ vx_ vy_ (sm_pI (sm_pI S0_ 13 0 32 ((S0_.1 13 0 32) - 1)) 13 0 33 ((S0_.1 13 0 33) - 1))) rfl rfl (by decide) (vc_332 ((S0_.1 13 0 34) - 3) F_ Gr_ cc_ vx_ vy_ (sm_pI (sm_pI S0_ 13 0 32 ((S0_.1 13 0 32) - 1)) 13 0 33 ((S0_.1 13 0 33) - 1)) hIx6_ (by exact rgl_fr (w_ := ([(13, 32), (13, 33)], [], [])) xr (ai_fr_tr (ai_fr_pI rfl) (ai_fr_pI rfl)) rfl rfl rfl rfl rfl rfl) (by omega) (by (rw [l1_]; exact xv_.2.2.2.1)) (by exact ⟨lxy_, x8_.2⟩) (by (intro z9_; rw [l1_]; exact ⟨xv_.2.2.2.2.2.2.2.2.1 z9_, xv_.2.2.2.2.2.1 z9_, xv_.2.2.1 z9_⟩))) (fun u_ Sx14_ px17_ => ?_)
      obtain ⟨rfl, hIx15_, hFx16_, px17_⟩ := px17_
      have hFx18_ : ai_fr (sx_W vw_314g) S0_ Sx14_ := ai_fr_tr hFx7_ (fr_le hFx16_ rfl)
      have e93_ := px17_
      have m93_ : Sx14_.1 13 0 27 = 1 := (hFx16_.1 13 0 27 rfl).trans hmo1_
      have v93_ : Sx14_.1 13 0 34 = S0_.1 13 0 34 := hFx16_.1 13 0 34 rfl
      have w93_ : Sx14_.1 13 0 32 = S0_.1 13 0 32 - 1 := hFx16_.1 13 0 32 rfl
      have d93_ : Sx14_.2.2.1 138 0 = S0_.2.2.1 138 0 := by have q9_ := fr_arr (t := 138) (i := 0) hFx16_ rfl; exact q9_
      have g93_ : rg b_ n_ T_ (.inr p_) Sx14_ := rg_fr (show rg b_ n_ T_ (.inr p_) (sm_pI (sm_pI S0_ 13 0 32 ((S0_.1 13 0 32) - 1)) 13 0 33 ((S0_.1 13 0 33) - 1)) from hg_) hFx16_ rfl rfl rfl
      have k136_ : Sx14_.2.2.1 136 0 = S0_.2.2.1 136 0 := by have q9_ := fr_arr (t := 136) (i := 0) hFx16_ rfl; exact q9_
      have k137_ : Sx14_.2.2.1 137 0 = S0_.2.2.1 137 0 := by have q9_ := fr_arr (t := 137) (i := 0) hFx16_ rfl; exact q9_
      have b93_ : Sx14_.2.2.1 138 0 (S0_.1 13 0 34 - 2).toNat = (vx_.length : Int) := by rw [d93_]; exact e2_
      have o93_ : Sx14_.1 13 0 33 = (o_mk o_ : Int) := (hFx16_.1 13 0 33 rfl).trans (by show S0_.1 13 0 33 - 1 = _; omega)
      refine sm_T_go 7 (c1 := (89, [some (.inr (.inr (some (13, 0)))), some (.inl (S0_.2.2.1 137 0 ((S0_.1 13 0 32) - 1).toNat)), some (.inl ((S0_.1 13 0 34) - 3))], [.inl 1, .inl ((S0_.1 13 0 34) - 3), .inr (.inr (some (138, 0))), .inl ((S0_.1 13 0 34) - 3), .inr (.inr (some (138, 0)))], Sx14_)) rfl ?_
      refine sm_T_bin (w := (S0_.1 13 0 34) - 2) rfl (bi_add (by omega) (by omega) (by omega)) ?_
      refine sm_T_iald (n := 1024) rfl rfl (by omega) (by omega) ?_
      have bx19_ : (-2147483648) ≤ Sx14_.2.2.1 138 0 ((S0_.1 13 0 34) - 2).toNat ∧ Sx14_.2.2.1 138 0 ((S0_.1 13 0 34) - 2).toNat ≤ 2147483647 := hIx15_.2 138 0 _
      refine sm_T_iast (n := 1024) rfl rfl (by omega) (by omega) ?_
      have hIx20_ : gi (sm_aI Sx14_ 138 0 ((S0_.1 13 0 34) - 3).toNat (Sx14_.2.2.1 138 0 ((S0_.1 13 0 34) - 2).toNat)) := gi_aI hIx15_ (show (-2147483648) ≤ (Sx14_.2.2.1 138 0 ((S0_.1 13 0 34) - 2).toNat) ∧ (Sx14_.2.2.1 138 0 ((S0_.1 13 0 34) - 2).toNat) ≤ 2147483647 from ⟨by omega, by omega⟩)
      have hFx21_ : ai_fr (sx_W vw_314g) S0_ (sm_aI Sx14_ 138 0 ((S0_.1 13 0 34) - 3).toNat (Sx14_.2.2.1 138 0 ((S0_.1 13 0 34) - 2).toNat)) := ai_fr_tr hFx18_ (ai_fr_aI rfl)
      have bx22_ : 0 ≤ Sx14_.1 13 0 34 ∧ Sx14_.1 13 0 34 ≤ 1023 := hIx15_.1 13 0 34 rfl
      refine sm_T_go 4 (c1 := (98, [some (.inr (.inr (some (13, 0)))), some (.inl (S0_.2.2.1 137 0 ((S0_.1 13 0 32) - 1).toNat)), some (.inl ((S0_.1 13 0 34) - 3))], [.inl 2, .inl (Sx14_.1 13 0 34), .inr (.inr (some (13, 0)))], sm_aI Sx14_ 138 0 ((S0_.1 13 0 34) - 3).toNat (Sx14_.2.2.1 138 0 ((S0_.1 13 0 34) - 2).toNat))) rfl ?_
      refine sm_T_bin (w := (Sx14_.1 13 0 34) - 2) rfl (bi_sub (by omega) (by omega) (by omega)) ?_
      have hIx23_ : gi (sm_pI (sm_aI Sx14_ 138 0 ((S0_.1 13 0 34) - 3).toNat (Sx14_.2.2.1 138 0 ((S0_.1 13 0 34) - 2).toNat)) 13 0 34 ((Sx14_.1 13 0 34) - 2)) := gi_pI hIx20_ (show 0 ≤ (Sx14_.1 13 0 34) - 2 ∧ (Sx14_.1 13 0 34) - 2 ≤ 1023 from ⟨by omega, by omega⟩)
      have hFx24_ : ai_fr (sx_W vw_314g) S0_ (sm_pI (sm_aI Sx14_ 138 0 ((S0_.1 13 0 34) - 3).toNat (Sx14_.2.2.1 138 0 ((S0_.1 13 0 34) - 2).toNat)) 13 0 34 ((Sx14_.1 13 0 34) - 2)) := ai_fr_tr hFx21_ (ai_fr_pI rfl)
      refine sm_T_go 1 (c1 := (102, [some (.inr (.inr (some (13, 0)))), some (.inl (S0_.2.2.1 137 0 ((S0_.1 13 0 32) - 1).toNat)), some (.inl ((S0_.1 13 0 34) - 3))], [], sm_pI (sm_aI Sx14_ 138 0 ((S0_.1 13 0 34) - 3).toNat (Sx14_.2.2.1 138 0 ((S0_.1 13 0 34) - 2).toNat)) 13 0 34 ((Sx14_.1 13 0 34) - 2))) rfl ?_
      refine sm_T_rv rfl ⟨_, _, rfl, rfl, hIx23_, hFx24_, ?_⟩
      refine ⟨?_, by (try simp only [rd_eq, rd_ne, rf_eq, rf_nk, rf_nt, rd_fa, rd_af, rd_fl, rd_al, rd_lf, rd_la, rd_leq, rd_lne, rd_fr, rd_ar, ne_eq, Nat.reduceEqDiff, not_false_eq_true]); omega⟩
      have nw_ : y_ = ((g_ch F_ cc_ Gr_ vx_ vy_).1.length : Int) := by rw [oln_]; omega
      refine rz_mk (w_ := u0_) (V_ := (g_ch F_ cc_ Gr_ vx_ vy_).1 :: V_) g93_ ⟨?_, ?_, ?_⟩ hwr1_ o93_ ?_ m93_ ?_ evn_ (by rw [List.map_cons, xm3_, ← nw_]) ?_ ?_ ow_.2
      · (try simp only [rd_eq, rd_ne, rf_eq, rf_nk, rf_nt, rd_fa, rd_af, rd_fl, rd_al, rd_lf, rd_la, rd_leq, rd_lne, rd_fr, rd_ar, ne_eq, Nat.reduceEqDiff, not_false_eq_true]); omega
      · exact stk_cg (fun j_ _ => by (try simp only [rd_eq, rd_ne, rf_eq, rf_nk, rf_nt, rd_fa, rd_af, rd_fl, rd_al, rd_lf, rd_la, rd_leq, rd_lne, rd_fr, rd_ar, ne_eq, Nat.reduceEqDiff, not_false_eq_true]); rw [k136_]) hw_.2.1.2
      · exact stk_cg (fun j_ _ => by (try simp only [rd_eq, rd_ne, rf_eq, rf_nk, rf_nt, rd_fa, rd_af, rd_fl, rd_al, rd_lf, rd_la, rd_leq, rd_lne, rd_fr, rd_ar, ne_eq, Nat.reduceEqDiff, not_false_eq_true]); rw [k137_]) hw_.2.2.2
      · (try simp only [rd_eq, rd_ne, rf_eq, rf_nk, rf_nt, rd_fa, rd_af, rd_fl, rd_al, rd_lf, rd_la, rd_leq, rd_lne, rd_fr, rd_ar, ne_eq, Nat.reduceEqDiff, not_false_eq_true]); simp only [List.length_cons]; push_cast; omega
      · obtain ⟨t1_, t2_, t3_, t4_⟩ := hs_; refine ⟨t1_.2.2, ?_, ?_, ?_⟩; (have t2_ : 1 + o_mk o_ ≤ 60 := t2_; show o_mk o_ ≤ 60; omega); (show (y_ :: g_).length = o_hl o_ + 1; have t3_ : (x_ :: y_ :: z_ :: g_).length = (2 + o_hl o_) + 1 := t3_; simp only [List.length_cons] at t3_ ⊢; omega); (exact h_ok_c.mpr ⟨(h_ok_c.mp (h_ok_c.mp t4_).2).1, (h_ok_c.mp (h_ok_c.mp (h_ok_c.mp t4_).2).2).2⟩)
      · exact rgl_fr (w_ := ([(13, 34)], [138], [])) e93_.1 (ai_fr_tr (ai_fr_aI rfl) (ai_fr_pI rfl)) rfl rfl rfl rfl rfl rfl
      · refine svl_tp xv_.2.2.2.2.2.2.2.2.2 (fun z9_ => Nat.le_trans ogl_ z9_) (fun j_ hj_ => ?_) (fun j_ hj_ => ?_) ?_ (by rw [oln_]; exact x8_) (fun z9_ => ?_)
        · (try simp only [rd_eq, rd_ne, rf_eq, rf_nk, rf_nt, rd_fa, rd_af, rd_fl, rd_al, rd_lf, rd_la, rd_leq, rd_lne, rd_fr, rd_ar, ne_eq, Nat.reduceEqDiff, not_false_eq_true]); exact e93_.2.2 j_ (by omega)
        · (try simp only [rd_eq, rd_ne, rf_eq, rf_nk, rf_nt, rd_fa, rd_af, rd_fl, rd_al, rd_lf, rd_la, rd_leq, rd_lne, rd_fr, rd_ar, ne_eq, Nat.reduceEqDiff, not_false_eq_true]); rw [if_neg (by omega), d93_]
        · rw [oln_]; (try simp only [rd_eq, rd_ne, rf_eq, rf_nk, rf_nt, rd_fa, rd_af, rd_fl, rd_al, rd_lf, rd_la, rd_leq, rd_lne, rd_fr, rd_ar, ne_eq, Nat.reduceEqDiff, not_false_eq_true]); rw [if_pos l1_.symm]; omega
        · have q9_ := e93_.2.1 z9_; rw [l1_] at q9_; exact q9_
  · have cx11_ : ¬ ((S0_.2.2.1 138 0 ((S0_.1 13 0 34) - 2).toNat) = (S0_.2.2.1 138 0 ((S0_.1 13 0 34) - 1).toNat)) := of_decide_eq_false cx11_
    exfalso; omega
end
/-! 99.zc4a -/
section
/-! the reference: settling, second pass; written by wip/p55/gen/vg -/

/-! settling, second pass -/
theorem rz_f {b_ : Nat → Int} {n_ T_ p_ F_ I_ m_ : Nat} {A_ : pA} {X_ : Nat → gQ → gE → Option (gQ × gE)} {s0_ : gS} {s_ : pO} {S_ : sm_S} (h_ : rz b_ n_ T_ p_ F_ I_ A_ X_ m_ s0_ s_ S_) : S_.1 13 0 10 = 0 := h_.1.1.1.1
theorem se1_ap {ls_ k_ x_ y_ : Int} {q_ : Nat} {o_ : List (Int × Nat)} {g_ c_ : List Int} {s_ : pO} (h_ : ls_ ≤ k_) (e_ : p_se2 1 ls_ ((k_, q_) :: o_, y_ :: x_ :: g_, c_) = .inr s_) : x_ = y_ ∧ p_se2 1 ls_ (o_, (if k_ = 4 then 1 else x_) :: g_, k_ :: c_) = .inr s_ := by
  rw [se2_ap h_] at e_
  obtain ⟨a_, h1_, h2_⟩ := pb_inr e_
  have q1_ := ap2_r (show p_ap2 false k_ q_ o_ x_ y_ g_ c_ = .inr a_ from h1_)
  rw [q1_.2] at h2_
  exact ⟨q1_.1, h2_⟩
theorem sa1_ch {q_ : Nat} {o_ : List (Int × Nat)} {x_ y_ z_ : Int} {g_ c_ : List Int} {s_ : pO} (e_ : p_sa2 1 ((-4, q_) :: o_, x_ :: y_ :: z_ :: g_, c_) = .inr s_) : x_ = y_ ∧ p_sa2 1 (o_, y_ :: g_, 7 :: c_) = .inr s_ := by
  rw [sa2_ch] at e_
  obtain ⟨a_, h1_, h2_⟩ := pb_inr e_
  have q1_ := ch2_r h1_
  rw [q1_.2] at h2_
  exact ⟨q1_.1, h2_⟩
theorem sa1_se {s_ s1_ : pO} (e_ : p_sa2 1 s_ = .inr s1_) : ∃ s2_, p_se2 1 1 s_ = .inr s2_ ∧ p_sa2 1 s2_ = .inr s1_ := by
  have h_ := sa2_se (mo_ := 1) (y_ := .inr s_)
  rw [pb_r rfl, pb_r rfl, e_] at h_
  obtain ⟨a_, h1_, h2_⟩ := pb_inr h_.symm
  exact ⟨a_, h1_, h2_⟩
theorem se1_lt {b_ : Nat → Int} {n_ T_ p_ F_ I_ m_ : Nat} {A_ : pA} {X_ : Nat → gQ → gE → Option (gQ × gE)} {s0_ : gS} {s_ s2_ : pO} {S_ : sm_S} (h_ : rz b_ n_ T_ p_ F_ I_ A_ X_ m_ s0_ s_ S_) (e_ : p_se2 1 1 s_ = .inr s2_) : o_tp s2_.1 < 1 := se2_lt h_.1 (show pb (.inr s_) (p_se2 1 1) = .inr s2_ from e_)
/-! M_.settle -/
def vw_315g : sx_Wl := ([(13, 32), (13, 34), (13, 37)], [138, 139, 140, 141, 142, 143], [])
def vq_315g (ls_ : Int) (b_ : Nat → Int) (n_ : Nat) (T_ : Nat) (p_ : Nat) (F_ : Nat) (I_ : Nat) (A_ : pA) (X_ : Nat → gQ → gE → Option (gQ × gE)) (m_ : Nat) (s0_ : gS) (s_ : pO) (s1_ : pO) (S0_ : sm_S) (u_ : Option sm_V) (S1_ : sm_S) : Prop := u_ = none ∧ gi S1_ ∧ ai_fr (sx_W vw_315g) S0_ S1_ ∧ (rz b_ n_ T_ p_ F_ I_ A_ X_ m_ s0_ s1_ S1_ ∧ (S1_.1 13 0 32) ≤ (S0_.1 13 0 32))
set_option maxHeartbeats 400000 in
theorem vl_315g {sc_ : Nat × (Nat → Int)} (ls_ : Int) (b_ : Nat → Int) (n_ : Nat) (T_ : Nat) (p_ : Nat) (F_ : Nat) (I_ : Nat) (A_ : pA) (X_ : Nat → gQ → gE → Option (gQ × gE)) (m_ : Nat) (s0_ : gS) (s_ : pO) (s1_ : pO) (S0_ : sm_S) (ht_ : rtab b_ n_ T_ S0_) (hz_ : rz b_ n_ T_ p_ F_ I_ A_ X_ m_ s0_ s_ S0_) (hls_ : 1 ≤ ls_) (hr_ : p_se2 1 ls_ s_ = .inr s1_) : ∀ nn_ : Nat, (∀  (S_ : sm_S), gi S_ → ai_fr (sx_W vw_315g) S0_ S_ → (((∃ s2_, rz b_ n_ T_ p_ F_ I_ A_ X_ m_ s0_ s2_ S_ ∧ p_se2 1 ls_ s2_ = .inr s1_) ∧ (S_.1 13 0 32) ≤ (S0_.1 13 0 32)) ∧ True) → (((S_.1 13 0 32)).toNat) < nn_ → sm_T (mt_P sc_) 5 315 (0, [some (.inr (.inr (some (13, 0)))), some (.inl ls_)], [], S_) (fun ro9_ => ∃ u_ S1_, ro9_ = (.inl u_, S1_, 0) ∧ vq_315g ls_ b_ n_ T_ p_ F_ I_ A_ X_ m_ s0_ s_ s1_ S0_ u_ S1_)) := by
  intro nn_
  induction nn_ with
  | zero => exact fun  _ _ _ _ h_ => absurd h_ (Nat.not_lt_zero _)
  | succ nn_ ih_ =>
    rintro  S_ hI_ hF_ ⟨h1_, -⟩ hm_
    obtain ⟨⟨s2_, z1_, z2_⟩, z9_⟩ := h1_
    have ht1_ := rtab_fr ht_ hF_ rfl rfl rfl rfl rfl
    have hf0_ := rz_f z1_
    obtain ⟨⟨⟨hg_, ⟨w0_, hw_, hwl_⟩, hop_, hv_, hmo1_⟩, hs_⟩, -, -⟩ := id z1_
    have hwl_ : wl b_ n_ T_ s2_.1 w0_ := by rcases hwl_ with z_ | z_; (exact absurd z_.1 (by decide)); (exact z_.2)
    have hwx_ := hw_.1
    have tp5_ := o_tp5 hs_.1
    have hwtp := wl_tp hwl_ hs_.1
    refine sm_T_go 1 (c1 := (1, [some (.inr (.inr (some (13, 0)))), some (.inl ls_)], [.inr (.inr (some (13, 0)))], S_)) rfl ?_
    refine sm_T_cal (d1 := 0) (Q1 := vq_292  S_) rfl rfl (by decide) (vc_292  S_ hI_ ) (fun u_ Sx1_ px4_ => ?_)
    obtain ⟨rfl, vx6_, rfl, px4_⟩ := px4_
    have e1x := px4_
    refine sm_T_b0 (a := 0) (z := 31) rfl (fun cx7_ => ?_) (fun cx7_ => ?_)
    · have cx7_ : vx6_ = 0 := of_decide_eq_true cx7_
      exfalso; (rw [if_pos hf0_] at e1x; omega)
    · have cx7_ : ¬ (vx6_ = 0) := of_decide_eq_false cx7_
      have wtp_ := hwtp.2.1
      refine sm_T_go 1 (c1 := (8, [some (.inr (.inr (some (13, 0)))), some (.inl ls_)], [.inr (.inr (some (13, 0)))], S_)) rfl ?_
      refine sm_T_cal (d1 := 0) (Q1 := vq_312 w0_ S_) rfl rfl (by decide) (vc_312 w0_ S_ hI_ (by exact hw_)) (fun u_ Sx8_ px11_ => ?_)
      obtain ⟨rfl, vx13_, rfl, px11_⟩ := px11_
      have e8_ := px11_
      refine sm_T_cal (d1 := 0) (Q1 := vq_309 vx13_ S_) rfl rfl (by decide) (vc_309 vx13_ S_ hI_ ) (fun u_ Sx14_ px17_ => ?_)
      obtain ⟨rfl, vx19_, rfl, px17_⟩ := px17_
      have e11 := px17_
      rw [e8_, wtp_] at e11
      refine sm_T_go 1 (c1 := (15, [some (.inr (.inr (some (13, 0)))), some (.inl ls_)], [.inl ls_, .inl vx19_], S_)) rfl ?_
      refine sm_T_br (a := 2) (z := 20) rfl (fun cx20_ => ?_) (fun cx20_ => ?_)
      · have cx20_ : vx19_ < ls_ := of_decide_eq_true cx20_
        refine sm_T_rv rfl ⟨_, _, rfl, rfl, hI_, hF_, ?_⟩
        refine ⟨?_, z9_⟩
        first | (exfalso; have h9_ := e11.trans e22_.symm; omega) | (have q9_ : p_se2 1 ls_ s2_ = .inr s2_ := p_se_st (lt_if e11 (by omega) hls_); rw [q9_] at z2_; cases z2_; exact z1_)
      · have cx20_ : ¬ (vx19_ < ls_) := of_decide_eq_false cx20_
        refine sm_T_go 1 (c1 := (19, [some (.inr (.inr (some (13, 0)))), some (.inl ls_)], [.inr (.inr (some (13, 0)))], S_)) rfl ?_
        refine sm_T_cal (d1 := 0) (Q1 := vq_312 w0_ S_) rfl rfl (by decide) (vc_312 w0_ S_ hI_ (by exact hw_)) (fun u_ Sx21_ px24_ => ?_)
        obtain ⟨rfl, vx26_, rfl, px24_⟩ := px24_
        have e19_ := px24_
        refine sm_T_cal (d1 := 0) (Q1 := vq_309 vx26_ S_) rfl rfl (by decide) (vc_309 vx26_ S_ hI_ ) (fun u_ Sx27_ px30_ => ?_)
        obtain ⟨rfl, vx32_, rfl, px30_⟩ := px30_
        have e22_ := px30_
        rw [e19_, wtp_] at e22_
        refine sm_T_b0 (a := 5) (z := 10) rfl (fun cx33_ => ?_) (fun cx33_ => ?_)
        · have cx33_ : vx32_ ≤ 0 := of_decide_eq_true cx33_
          refine sm_T_rv rfl ⟨_, _, rfl, rfl, hI_, hF_, ?_⟩
          refine ⟨?_, z9_⟩
          first | (exfalso; have h9_ := e11.trans e22_.symm; omega) | (have q9_ : p_se2 1 ls_ s2_ = .inr s2_ := p_se_st (lt_if e11 (by omega) hls_); rw [q9_] at z2_; cases z2_; exact z1_)
        · have cx33_ : ¬ (vx32_ ≤ 0) := of_decide_eq_false cx33_
          have otp_ : 1 ≤ o_tp s2_.1 ∧ ls_ ≤ o_tp s2_.1 := by by_cases z_ : 1 ≤ o_tp s2_.1; (rw [if_pos z_] at e11 e22_; omega); (rw [if_neg z_] at e11 e22_; omega)
          clear e11 e22_
          obtain ⟨so_, sg_, sc_⟩ := s2_
          obtain ⟨k1_, q1_, o2_, ho2_, hk2_⟩ := o_tp_c (o_ := so_) (by have := otp_.1; show o_tp so_ ≠ 0; intro z_; have z2_ : 1 ≤ o_tp so_ := this; omega)
          subst ho2_
          have hk3_ : ls_ ≤ k1_ := otp_.2
          obtain ⟨b1_, a1_, g2_, hg2_⟩ := s_ok_2 (show 1 ≤ k1_ by omega) hs_
          subst hg2_
          have wlen : 1 ≤ S_.1 13 0 32 := by have := (wl_len hwl_).2; simp only [List.length_cons] at this; omega
          have sea_ := se1_ap hk3_ z2_
          refine sm_T_go 1 (c1 := (29, [some (.inr (.inr (some (13, 0)))), some (.inl ls_)], [.inr (.inr (some (13, 0)))], S_)) rfl ?_
          refine sm_T_cal (d1 := 4) (Q1 := vq_313g b_ n_ T_ p_ F_ I_ A_ X_ m_ s0_ k1_ q1_ o2_ a1_ b1_ g2_ sc_ S_) rfl rfl (by decide) (vc_313g b_ n_ T_ p_ F_ I_ A_ X_ m_ s0_ k1_ q1_ o2_ a1_ b1_ g2_ sc_ S_ hI_ (by exact ht1_) (by exact z1_) (by omega) (by exact sea_.1)) (fun u_ Sx34_ px37_ => ?_)
          obtain ⟨rfl, hIx35_, hFx36_, px37_⟩ := px37_
          have hFx38_ : ai_fr (sx_W vw_315g) S0_ Sx34_ := ai_fr_tr hF_ (fr_le hFx36_ rfl)
          have e29_ := px37_
          refine sm_T_go 1 (c1 := (0, [some (.inr (.inr (some (13, 0)))), some (.inl ls_)], [], Sx34_)) rfl ?_
          refine ih_  Sx34_ hIx35_ hFx38_ ⟨?_, trivial⟩ ?_
          · have := e29_.2
            exact ⟨⟨_, e29_.1, sea_.2⟩, by omega⟩
          · (have := e29_.2); omega
set_option maxHeartbeats 400000 in
theorem vc_315g {sc_ : Nat × (Nat → Int)} (ls_ : Int) (b_ : Nat → Int) (n_ : Nat) (T_ : Nat) (p_ : Nat) (F_ : Nat) (I_ : Nat) (A_ : pA) (X_ : Nat → gQ → gE → Option (gQ × gE)) (m_ : Nat) (s0_ : gS) (s_ : pO) (s1_ : pO) (S0_ : sm_S) (hI_ : gi S0_) (ht_ : rtab b_ n_ T_ S0_) (hz_ : rz b_ n_ T_ p_ F_ I_ A_ X_ m_ s0_ s_ S0_) (hls_ : 1 ≤ ls_) (hr_ : p_se2 1 ls_ s_ = .inr s1_) : sm_T (mt_P sc_) 5 315 (0, [some (.inr (.inr (some (13, 0)))), some (.inl ls_)], [], S0_) (fun ro9_ => ∃ u_ S1_, ro9_ = (.inl u_, S1_, 0) ∧ vq_315g ls_ b_ n_ T_ p_ F_ I_ A_ X_ m_ s0_ s_ s1_ S0_ u_ S1_) := by
  have hF_ : ai_fr (sx_W vw_315g) S0_ S0_ := ai_fr_rf
  refine (vl_315g ls_ b_ n_ T_ p_ F_ I_ A_ X_ m_ s0_ s_ s1_ S0_ ht_ hz_ hls_ hr_ _)  S0_ hI_ hF_ ⟨?_, trivial⟩ (Nat.lt_succ_self _)
  · exact ⟨⟨s_, hz_, hr_⟩, Int.le_refl _⟩
end
/-! 99.zc4b -/
section
/-! M_.settleAll -/
def vw_316g : sx_Wl := ([(13, 32), (13, 33), (13, 34), (13, 37)], [138, 139, 140, 141, 142, 143], [])
def vq_316g (b_ : Nat → Int) (n_ : Nat) (T_ : Nat) (p_ : Nat) (F_ : Nat) (I_ : Nat) (A_ : pA) (X_ : Nat → gQ → gE → Option (gQ × gE)) (m_ : Nat) (s0_ : gS) (s_ : pO) (s1_ : pO) (S0_ : sm_S) (u_ : Option sm_V) (S1_ : sm_S) : Prop := u_ = none ∧ gi S1_ ∧ ai_fr (sx_W vw_316g) S0_ S1_ ∧ (rz b_ n_ T_ p_ F_ I_ A_ X_ m_ s0_ s1_ S1_)
set_option maxHeartbeats 400000 in
theorem vl_316g {sc_ : Nat × (Nat → Int)} (b_ : Nat → Int) (n_ : Nat) (T_ : Nat) (p_ : Nat) (F_ : Nat) (I_ : Nat) (A_ : pA) (X_ : Nat → gQ → gE → Option (gQ × gE)) (m_ : Nat) (s0_ : gS) (s_ : pO) (s1_ : pO) (S0_ : sm_S) (ht_ : rtab b_ n_ T_ S0_) (hz_ : rz b_ n_ T_ p_ F_ I_ A_ X_ m_ s0_ s_ S0_) (hr_ : p_sa2 1 s_ = .inr s1_) : ∀ nn_ : Nat, (∀  (S_ : sm_S), gi S_ → ai_fr (sx_W vw_316g) S0_ S_ → ((∃ s2_, rz b_ n_ T_ p_ F_ I_ A_ X_ m_ s0_ s2_ S_ ∧ p_sa2 1 s2_ = .inr s1_ ∧ o_tp s2_.1 < 1) ∧ True) → (((S_.1 13 0 32)).toNat) < nn_ → sm_T (mt_P sc_) 6 316 (5, [some (.inr (.inr (some (13, 0))))], [], S_) (fun ro9_ => ∃ u_ S1_, ro9_ = (.inl u_, S1_, 0) ∧ vq_316g b_ n_ T_ p_ F_ I_ A_ X_ m_ s0_ s_ s1_ S0_ u_ S1_)) := by
  intro nn_
  induction nn_ with
  | zero => exact fun  _ _ _ _ h_ => absurd h_ (Nat.not_lt_zero _)
  | succ nn_ ih_ =>
    rintro  S_ hI_ hF_ ⟨h1_, -⟩ hm_
    obtain ⟨s2_, z1_, z2_, z3_⟩ := h1_
    have ht1_ := rtab_fr ht_ hF_ rfl rfl rfl rfl rfl
    have hf0_ := rz_f z1_
    obtain ⟨⟨⟨hg_, ⟨w0_, hw_, hwl_⟩, hop_, hv_, hmo1_⟩, hs_⟩, -, -⟩ := id z1_
    have hwl_ : wl b_ n_ T_ s2_.1 w0_ := by rcases hwl_ with z_ | z_; (exact absurd z_.1 (by decide)); (exact z_.2)
    have hwx_ := hw_.1
    have tp5_ := o_tp5 hs_.1
    have hwtp := wl_tp hwl_ hs_.1
    refine sm_T_go 1 (c1 := (6, [some (.inr (.inr (some (13, 0))))], [.inr (.inr (some (13, 0)))], S_)) rfl ?_
    refine sm_T_cal (d1 := 0) (Q1 := vq_292  S_) rfl rfl (by decide) (vc_292  S_ hI_ ) (fun u_ Sx1_ px4_ => ?_)
    obtain ⟨rfl, vx6_, rfl, px4_⟩ := px4_
    have e1x := px4_
    refine sm_T_b0 (a := 0) (z := 24) rfl (fun cx7_ => ?_) (fun cx7_ => ?_)
    · have cx7_ : vx6_ = 0 := of_decide_eq_true cx7_
      exfalso; (rw [if_pos hf0_] at e1x; omega)
    · have cx7_ : ¬ (vx6_ = 0) := of_decide_eq_false cx7_
      have wtp_ := hwtp.2.2.2.1
      refine sm_T_go 1 (c1 := (13, [some (.inr (.inr (some (13, 0))))], [.inr (.inr (some (13, 0)))], S_)) rfl ?_
      refine sm_T_cal (d1 := 0) (Q1 := vq_312 w0_ S_) rfl rfl (by decide) (vc_312 w0_ S_ hI_ (by exact hw_)) (fun u_ Sx8_ px11_ => ?_)
      obtain ⟨rfl, vx13_, rfl, px11_⟩ := px11_
      have e13_ := px11_
      refine sm_T_go 1 (c1 := (18, [some (.inr (.inr (some (13, 0))))], [.inl 58, .inl vx13_], S_)) rfl ?_
      refine sm_T_br (a := 1) (z := 15) rfl (fun cx14_ => ?_) (fun cx14_ => ?_)
      · have cx14_ : vx13_ ≠ 58 := of_decide_eq_true cx14_
        refine sm_T_rv rfl ⟨_, _, rfl, rfl, hI_, hF_, ?_⟩
        have q9_ : p_sa2 1 s2_ = .inr s2_ := p_sa_st z3_ (fun z_ => by have := wtp_.mpr z_; omega)
        rw [q9_] at z2_
        cases z2_
        exact z1_
      · have cx14_ : ¬ (vx13_ ≠ 58) := of_decide_eq_false cx14_
        have otp_ : o_tp s2_.1 = -4 := wtp_.mp (by omega)
        obtain ⟨so_, sg_, sc_⟩ := s2_
        obtain ⟨k1_, q1_, o2_, ho2_, hk2_⟩ := o_tp_c (o_ := so_) (by intro z_; have z2_ : o_tp so_ = -4 := otp_; omega)
        subst ho2_
        have hk3_ : k1_ = -4 := otp_
        subst hk3_
        obtain ⟨x1_, x2_, x3_, g2_, hg2_⟩ := s_ok_3 hs_
        subst hg2_
        have wlen : 1 ≤ S_.1 13 0 32 := by have := (wl_len hwl_).2; simp only [List.length_cons] at this; omega
        have sac_ := sa1_ch z2_
        obtain ⟨sn_, hn1_, hn2_⟩ := sa1_se sac_.2
        refine sm_T_go 1 (c1 := (22, [some (.inr (.inr (some (13, 0))))], [.inr (.inr (some (13, 0)))], S_)) rfl ?_
        refine sm_T_cal (d1 := 4) (Q1 := vq_314g b_ n_ T_ p_ F_ I_ A_ X_ m_ s0_ q1_ o2_ x1_ x2_ x3_ g2_ sc_ S_) rfl rfl (by decide) (vc_314g b_ n_ T_ p_ F_ I_ A_ X_ m_ s0_ q1_ o2_ x1_ x2_ x3_ g2_ sc_ S_ hI_ (by exact ht1_) (by exact z1_) (by exact sac_.1)) (fun u_ Sx15_ px18_ => ?_)
        obtain ⟨rfl, hIx16_, hFx17_, px18_⟩ := px18_
        have hFx19_ : ai_fr (sx_W vw_316g) S0_ Sx15_ := ai_fr_tr hF_ (fr_le hFx17_ rfl)
        have e22_ := px18_
        have ht2_ := rtab_fr ht1_ hFx17_ rfl rfl rfl rfl rfl
        refine sm_T_go 2 (c1 := (27, [some (.inr (.inr (some (13, 0))))], [.inl 1, .inr (.inr (some (13, 0)))], Sx15_)) rfl ?_
        refine sm_T_cal (d1 := 5) (Q1 := vq_315g 1 b_ n_ T_ p_ F_ I_ A_ X_ m_ s0_ (o2_, x2_ :: g2_, 7 :: sc_) sn_ Sx15_) rfl rfl (by decide) (vc_315g 1 b_ n_ T_ p_ F_ I_ A_ X_ m_ s0_ (o2_, x2_ :: g2_, 7 :: sc_) sn_ Sx15_ hIx16_ (by exact ht2_) (by exact e22_.1) (by decide) (by exact hn1_)) (fun u_ Sx20_ px23_ => ?_)
        obtain ⟨rfl, hIx21_, hFx22_, px23_⟩ := px23_
        have hFx24_ : ai_fr (sx_W vw_316g) S0_ Sx20_ := ai_fr_tr hFx19_ (fr_le hFx22_ rfl)
        have e27_ := px23_
        refine sm_T_go 1 (c1 := (5, [some (.inr (.inr (some (13, 0))))], [], Sx20_)) rfl ?_
        refine ih_  Sx20_ hIx21_ hFx24_ ⟨?_, trivial⟩ ?_
        · exact ⟨_, e27_.1, hn2_, se1_lt e22_.1 hn1_⟩
        · (have := e22_.2); (have := e27_.2); omega
set_option maxHeartbeats 400000 in
theorem vc_316g {sc_ : Nat × (Nat → Int)} (b_ : Nat → Int) (n_ : Nat) (T_ : Nat) (p_ : Nat) (F_ : Nat) (I_ : Nat) (A_ : pA) (X_ : Nat → gQ → gE → Option (gQ × gE)) (m_ : Nat) (s0_ : gS) (s_ : pO) (s1_ : pO) (S0_ : sm_S) (hI_ : gi S0_) (ht_ : rtab b_ n_ T_ S0_) (hz_ : rz b_ n_ T_ p_ F_ I_ A_ X_ m_ s0_ s_ S0_) (hr_ : p_sa2 1 s_ = .inr s1_) : sm_T (mt_P sc_) 6 316 (0, [some (.inr (.inr (some (13, 0))))], [], S0_) (fun ro9_ => ∃ u_ S1_, ro9_ = (.inl u_, S1_, 0) ∧ vq_316g b_ n_ T_ p_ F_ I_ A_ X_ m_ s0_ s_ s1_ S0_ u_ S1_) := by
  have hF_ : ai_fr (sx_W vw_316g) S0_ S0_ := ai_fr_rf
  obtain ⟨sm_, hm1_, hm2_⟩ := sa1_se hr_
  refine sm_T_go 2 (c1 := (2, [some (.inr (.inr (some (13, 0))))], [.inl 1, .inr (.inr (some (13, 0)))], S0_)) rfl ?_
  refine sm_T_cal (d1 := 5) (Q1 := vq_315g 1 b_ n_ T_ p_ F_ I_ A_ X_ m_ s0_ s_ sm_ S0_) rfl rfl (by decide) (vc_315g 1 b_ n_ T_ p_ F_ I_ A_ X_ m_ s0_ s_ sm_ S0_ hI_ (by exact ht_) (by exact hz_) (by decide) (by exact hm1_)) (fun u_ Sx1_ px4_ => ?_)
  obtain ⟨rfl, hIx2_, hFx3_, px4_⟩ := px4_
  have hFx5_ : ai_fr (sx_W vw_316g) S0_ Sx1_ := ai_fr_tr hF_ (fr_le hFx3_ rfl)
  have e2_ := px4_
  refine sm_T_go 0 (c1 := (5, [some (.inr (.inr (some (13, 0))))], [], Sx1_)) rfl ?_
  refine (vl_316g b_ n_ T_ p_ F_ I_ A_ X_ m_ s0_ s_ s1_ S0_ ht_ hz_ hr_ _)  Sx1_ hIx2_ hFx5_ ⟨?_, trivial⟩ (Nat.lt_succ_self _)
  · exact ⟨_, e2_.1, hm2_, se1_lt hz_ hm1_⟩

/-! turning, second pass -/
theorem ti2 {t_ : Bool} {h_ c_ : List Int} : p_ti false t_ h_ c_ = (h_, if t_ = true then 6 :: c_ else c_) := by
  cases t_ <;> rfl
theorem rwv_gt {st_ st'_ : Nat → Int} {p_ q_ : Nat} {v_ : List Int} {z_ : Int} (h_ : rwv st_ p_ v_) (hq_ : p_ + v_.length ≤ q_) (hs_ : ∀ k_, st'_ k_ = if k_ = q_ then z_ else st_ k_) : rwv st'_ p_ v_ := rwv_cg h_ (fun k_ hk_ => by rw [hs_, if_neg (by omega)])
end
