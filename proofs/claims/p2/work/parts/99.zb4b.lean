/-! Builder.operate -/
def vw_39 : sx_Wl := ([(1, 6), (1, 8), (3, 4)], [27, 28, 29, 42, 43], [])
def vq_39 (k_ : Int) (dd_ : Nat) (F_ : Nat) (G_ : pGr) (V_ : gV) (r_ : pGr × gV) (S0_ : sm_S) (u_ : Option sm_V) (S1_ : sm_S) : Prop := u_ = none ∧ gi S1_ ∧ ai_fr (sx_W vw_39) S0_ S1_ ∧ (idf dd_ S0_ S1_ ∧ (cgl dd_ F_ r_.1 S1_ ∧ cstk r_.1 r_.2 S1_))
set_option maxHeartbeats 2500000 in
set_option maxRecDepth 20000 in
theorem vl_39 {sc_ : Nat × (Nat → Int)} (k_ : Int) (dd_ : Nat) (F_ : Nat) (G_ : pGr) (V_ : gV) (r_ : pGr × gV) (S0_ : sm_S) (hI0_ : gi S0_) (hd_ : S0_.2.1 1 0 1 = some dd_) (hg_ : cgl dd_ F_ G_ S0_) (hV_ : cstk G_ V_ S0_) (he_ : e_op F_ k_ G_ V_ = some r_) : ∀ nn_ : Nat, (∀ (j_ : Int) (S_ : sm_S), gi S_ → ai_fr (sx_W vw_39) S0_ S_ → ((k_ = 6) ∧ (0 ≤ j_) ∧ ((S_.1 1 0 6) = S0_.1 1 0 6) ∧ (∃ x_ l_ rr_ e1_, V_ = x_ :: l_ ∧ cgl dd_ F_ G_ S_ ∧ (e1_.length : Int) = j_ ∧ j_ + rr_.length = x_.length ∧ x_ = e1_ ++ rr_ ∧ (imq (G_.length ≤ 1000) (rwv (S_.2.2.1 27 0) (8 * l_.length) (e1_.map (fun z_ => i_xor z_ 1) ++ rr_)))) ∧ (∀ j9_, j9_ < 8 * (V_.length - 1) → S_.2.2.1 27 0 j9_ = S0_.2.2.1 27 0 j9_) ∧ (∀ j9_, S_.2.2.1 28 0 j9_ = S0_.2.2.1 28 0 j9_) ∧ (idf dd_ S0_ S_) ∧ True) → ((8 - j_).toNat) < nn_ → sm_T (mt_P sc_) 4 39 (8, [some (.inr (.inr (some (1, 0)))), some (.inl k_), some (.inl j_), none, none, none, none, none], [], S_) (fun ro9_ => ∃ u_ S1_, ro9_ = (.inl u_, S1_, 0) ∧ vq_39 k_ dd_ F_ G_ V_ r_ S0_ u_ S1_)) ∧ (∀ (b_ : Int) (a_ : Int) (nb_ : Int) (sa_ : Int) (j_ : Int) (S_ : sm_S), gi S_ → ai_fr (sx_W vw_39) S0_ S_ → ((k_ = 4) ∧ (1 ≤ j_ ∧ j_ ≤ nb_ ∧ 0 ≤ sa_ ∧ sa_ ≤ 2025) ∧ (∃ y_ x_ l_, V_ = y_ :: x_ :: l_ ∧ nb_ = (x_.length : Int) ∧ a_ = 8 * (l_.length : Int) ∧ b_ = a_ + 8 ∧ (S_.1 1 0 6) = (l_.length : Int) + 1 ∧ (∀ j9_, S_.2.2.1 28 0 j9_ = if j9_ = l_.length then 1 else S0_.2.2.1 28 0 j9_) ∧ ∃ (G1_ : pGr) (s1_ : Int) (r1_ s2_ e1_ e2_ : List Int), cgl dd_ F_ G1_ S_ ∧ (e1_.length : Int) = j_ ∧ (e2_.length : Int) = j_ ∧ r1_.length = s2_.length ∧ j_ + r1_.length = nb_ ∧ x_ = e1_ ++ r1_ ∧ y_ = e2_ ++ s2_ ∧ (imq (G1_.length ≤ 1000) (sa_ = s1_)) ∧ G_.length ≤ G1_.length ∧ (g_sa F_ G_ x_ y_) = ([(g_s1 F_ G1_ s1_ r1_ s2_).1], (g_s1 F_ G1_ s1_ r1_ s2_).2)) ∧ (∀ j9_, S_.2.2.1 27 0 j9_ = S0_.2.2.1 27 0 j9_) ∧ (idf dd_ S0_ S_) ∧ True) → ((nb_ - j_).toNat) < nn_ → sm_T (mt_P sc_) 4 39 (151, [some (.inr (.inr (some (1, 0)))), some (.inl k_), some (.inl b_), some (.inl a_), some (.inl nb_), some (.inl sa_), some (.inl j_), none], [], S_) (fun ro9_ => ∃ u_ S1_, ro9_ = (.inl u_, S1_, 0) ∧ vq_39 k_ dd_ F_ G_ V_ r_ S0_ u_ S1_)) ∧ (∀ (b_ : Int) (a_ : Int) (nb_ : Int) (j_ : Int) (S_ : sm_S), gi S_ → ai_fr (sx_W vw_39) S0_ S_ → ((k_ ≠ 4 ∧ k_ ≠ 5 ∧ k_ ≠ 6 ∧ k_ ≠ 7) ∧ (0 ≤ j_ ∧ j_ ≤ nb_) ∧ (∃ y_ x_ l_, V_ = y_ :: x_ :: l_ ∧ nb_ = (x_.length : Int) ∧ a_ = 8 * (l_.length : Int) ∧ b_ = a_ + 8 ∧ (S_.1 1 0 6) = (l_.length : Int) + 1 ∧ (∀ j9_, j9_ < 8 * l_.length → S_.2.2.1 27 0 j9_ = S0_.2.2.1 27 0 j9_) ∧ ∃ (G1_ : pGr) (d_ r1_ s2_ e2_ : List Int), cgl dd_ F_ G1_ S_ ∧ (d_.length : Int) = j_ ∧ (e2_.length : Int) = j_ ∧ r1_.length = s2_.length ∧ j_ + r1_.length = nb_ ∧ y_ = e2_ ++ s2_ ∧ (imq (G1_.length ≤ 1000) (rwv (S_.2.2.1 27 0) (8 * l_.length) (d_ ++ r1_) ∧ rwv (S_.2.2.1 27 0) (8 * l_.length + 8) y_)) ∧ G_.length ≤ G1_.length ∧ (g_z2 (g_bw F_ k_) G_ x_ y_) = (d_ ++ (g_z2 (g_bw F_ k_) G1_ r1_ s2_).1, (g_z2 (g_bw F_ k_) G1_ r1_ s2_).2)) ∧ (∀ j9_, S_.2.2.1 28 0 j9_ = S0_.2.2.1 28 0 j9_) ∧ (idf dd_ S0_ S_) ∧ True) → ((nb_ - j_).toNat) < nn_ → sm_T (mt_P sc_) 4 39 (210, [some (.inr (.inr (some (1, 0)))), some (.inl k_), some (.inl b_), some (.inl a_), some (.inl nb_), some (.inl j_), none, none], [], S_) (fun ro9_ => ∃ u_ S1_, ro9_ = (.inl u_, S1_, 0) ∧ vq_39 k_ dd_ F_ G_ V_ r_ S0_ u_ S1_)) := by
  intro nn_
  induction nn_ with
  | zero => exact ⟨fun _ _ _ _ _ h_ => absurd h_ (Nat.not_lt_zero _), fun _ _ _ _ _ _ _ _ _ h_ => absurd h_ (Nat.not_lt_zero _), fun _ _ _ _ _ _ _ _ h_ => absurd h_ (Nat.not_lt_zero _)⟩
  | succ nn_ ih_ =>
    refine ⟨?_, ?_, ?_⟩
    · rintro j_ S_ hI_ hF_ ⟨hk_, h0_, h1t, h1_, h2_, h3_, hD_, -⟩ hm_
      obtain ⟨x_, l_, rr_, e1_, rfl, z1_, z2_, z4_, z5_, z6_⟩ := h1_
      obtain ⟨x_1, l_1, hxl_, er⟩ := e_op6 (show e_op F_ 6 G_ (x_ :: l_) = some r_ by rw [← hk_]; exact he_)
      cases hxl_
      have tp_ : (S_.1 1 0 6) = (l_.length : Int) + 1 := by rw [h1t, hV_.1]; simp only [List.length_cons]; push_cast; omega
      have lx8_ : x_.length ≤ 8 := hV_.2.2.1.2
      have wt : S_.2.2.1 28 0 (S_.1 1 0 6 - 1).toNat = (x_.length : Int) := by rw [h3_, show (S_.1 1 0 6 - 1).toNat = l_.length by omega]; exact hV_.2.1
      have bx1_ : 0 ≤ S_.1 1 0 6 ∧ S_.1 1 0 6 ≤ 512 := hI_.1 1 0 6 rfl
      refine sm_T_go 6 (c1 := (18, [some (.inr (.inr (some (1, 0)))), some (.inl k_), some (.inl j_), none, none, none, none, none], [.inl 1, .inl (S_.1 1 0 6), .inr (.inr (some (28, 0))), .inl j_], S_)) rfl ?_
      refine sm_T_bin (w := (S_.1 1 0 6) - 1) rfl (bi_sub (by omega) (by omega) (by omega)) ?_
      refine sm_T_iald (n := 512) rfl rfl (by omega) (by omega) ?_
      have bx2_ : 0 ≤ S_.2.2.1 28 0 ((S_.1 1 0 6) - 1).toNat ∧ S_.2.2.1 28 0 ((S_.1 1 0 6) - 1).toNat ≤ 8 := hI_.2 28 0 _
      refine sm_T_br (a := 3) (z := 29) rfl (fun cx3_ => ?_) (fun cx3_ => ?_)
      · have cx3_ : (S_.2.2.1 28 0 ((S_.1 1 0 6) - 1).toNat) ≤ j_ := of_decide_eq_true cx3_
        refine sm_T_rv rfl ⟨_, _, rfl, rfl, hI_, hF_, ?_⟩
        refine ⟨hD_, ?_⟩
        have kr_ : rr_ = [] := List.eq_nil_of_length_eq_zero (by omega)
        rw [er]
        refine ⟨z1_, h1t.trans hV_.1, svl_tp (st_ := S0_.2.2.1 27 0) (wd_ := S0_.2.2.1 28 0) hV_.2.2.2.2 (fun z_ => z_) (fun j_ hj_ => h2_ j_ hj_) (fun j_ hj_ => h3_ j_) (by rw [h3_, List.length_map]; exact hV_.2.1) (by rw [List.length_map]; exact hV_.2.2.1) (fun z_ => ?_)⟩
        have q9_ := z6_ z_
        rw [kr_, List.append_nil] at q9_
        rw [z5_, kr_, List.append_nil]
        exact q9_
      · have cx3_ : ¬ ((S_.2.2.1 28 0 ((S_.1 1 0 6) - 1).toNat) ≤ j_) := of_decide_eq_false cx3_
        obtain ⟨r0_, rr_, rfl⟩ : ∃ r0_ r1_, rr_ = r0_ :: r1_ := by cases rr_ with | nil => (simp only [List.length_nil] at z4_; omega) | cons p_ q_ => exact ⟨p_, q_, rfl⟩
        have rx : imq (G_.length ≤ 1000) (S_.2.2.1 27 0 (8 * S_.1 1 0 6 + j_ - 8).toNat = r0_) := fun z_ => by rw [show (8 * S_.1 1 0 6 + j_ - 8).toNat = 8 * l_.length + (e1_.map (fun z_ => i_xor z_ 1)).length by rw [List.length_map]; omega]; exact rwv_m (z6_ z_)
        refine sm_T_go 5 (c1 := (32, [some (.inr (.inr (some (1, 0)))), some (.inl k_), some (.inl j_), none, none, none, none, none], [.inl 1, .inl (S_.1 1 0 6), .inr (.inr (some (27, 0)))], S_)) rfl ?_
        refine sm_T_bin (w := (S_.1 1 0 6) - 1) rfl (bi_sub (by omega) (by omega) (by omega)) ?_
        refine sm_T_go 1 (c1 := (35, [some (.inr (.inr (some (1, 0)))), some (.inl k_), some (.inl j_), none, none, none, none, none], [.inl 8, .inl ((S_.1 1 0 6) - 1), .inr (.inr (some (27, 0)))], S_)) rfl ?_
        refine sm_T_bin (w := 8 * (S_.1 1 0 6) - 8) rfl (bi_mul (by omega) (by omega) (by omega)) ?_
        refine sm_T_go 1 (c1 := (37, [some (.inr (.inr (some (1, 0)))), some (.inl k_), some (.inl j_), none, none, none, none, none], [.inl j_, .inl (8 * (S_.1 1 0 6) - 8), .inr (.inr (some (27, 0)))], S_)) rfl ?_
        refine sm_T_bin (w := 8 * (S_.1 1 0 6) + j_ - 8) rfl (bi_add (by omega) (by omega) (by omega)) ?_
        refine sm_T_go 1 (c1 := (39, [some (.inr (.inr (some (1, 0)))), some (.inl k_), some (.inl j_), none, none, none, none, none], [.inl (8 * (S_.1 1 0 6) + j_ - 8), .inr (.inr (some (27, 0))), .inl (8 * (S_.1 1 0 6) + j_ - 8), .inr (.inr (some (27, 0)))], S_)) rfl ?_
        refine sm_T_iald (n := 4096) rfl rfl (by omega) (by omega) ?_
        have bx4_ : 0 ≤ S_.2.2.1 27 0 (8 * (S_.1 1 0 6) + j_ - 8).toNat ∧ S_.2.2.1 27 0 (8 * (S_.1 1 0 6) + j_ - 8).toNat ≤ 2025 := hI_.2 27 0 _
        refine sm_T_go 1 (c1 := (41, [some (.inr (.inr (some (1, 0)))), some (.inl k_), some (.inl j_), none, none, none, none, none], [.inl 1, .inl (S_.2.2.1 27 0 (8 * (S_.1 1 0 6) + j_ - 8).toNat), .inl (8 * (S_.1 1 0 6) + j_ - 8), .inr (.inr (some (27, 0)))], S_)) rfl ?_
        refine sm_T_bin (w := (i_xor (S_.2.2.1 27 0 (8 * (S_.1 1 0 6) + j_ - 8).toNat) 1)) rfl rfl ?_
        have bx5_ := i_x1 (x_ := (S_.2.2.1 27 0 (8 * (S_.1 1 0 6) + j_ - 8).toNat)) (by omega)
        refine sm_T_iast (n := 4096) rfl rfl (by omega) (by omega) ?_
        have hIx6_ : gi (sm_aI S_ 27 0 (8 * (S_.1 1 0 6) + j_ - 8).toNat (i_xor (S_.2.2.1 27 0 (8 * (S_.1 1 0 6) + j_ - 8).toNat) 1)) := gi_aI hI_ (show 0 ≤ (i_xor (S_.2.2.1 27 0 (8 * (S_.1 1 0 6) + j_ - 8).toNat) 1) ∧ (i_xor (S_.2.2.1 27 0 (8 * (S_.1 1 0 6) + j_ - 8).toNat) 1) ≤ 2025 from ⟨by omega, by omega⟩)
        have hFx7_ : ai_fr (sx_W vw_39) S0_ (sm_aI S_ 27 0 (8 * (S_.1 1 0 6) + j_ - 8).toNat (i_xor (S_.2.2.1 27 0 (8 * (S_.1 1 0 6) + j_ - 8).toNat) 1)) := ai_fr_tr hF_ (ai_fr_aI rfl)
        have hDx8_ : idf dd_ S0_ (sm_aI S_ 27 0 (8 * (S_.1 1 0 6) + j_ - 8).toNat (i_xor (S_.2.2.1 27 0 (8 * (S_.1 1 0 6) + j_ - 8).toNat) 1)) := idf_aI hD_ (Or.inl (by decide))
        refine sm_T_inc (a := 2) (z := 1) (v := j_) (w := j_ + 1) rfl rfl (by omega) (by omega) (by omega) ?_
        refine sm_T_go 1 (c1 := (8, [some (.inr (.inr (some (1, 0)))), some (.inl k_), some (.inl (j_ + 1)), none, none, none, none, none], [], sm_aI S_ 27 0 (8 * (S_.1 1 0 6) + j_ - 8).toNat (i_xor (S_.2.2.1 27 0 (8 * (S_.1 1 0 6) + j_ - 8).toNat) 1))) rfl ?_
        refine ih_.1 (j_ + 1) (sm_aI S_ 27 0 (8 * (S_.1 1 0 6) + j_ - 8).toNat (i_xor (S_.2.2.1 27 0 (8 * (S_.1 1 0 6) + j_ - 8).toNat) 1)) hIx6_ hFx7_ ⟨?_, ?_, ?_, ?_, ?_, ?_, ?_, trivial⟩ ?_
        · exact hk_
        · omega
        · exact h1t
        · refine ⟨x_, l_, rr_, e1_ ++ [r0_], rfl, cgl_st z1_, ?_, ?_, ?_, fun z_ => ?_⟩
          · simp only [List.length_append, List.length_cons, List.length_nil]; push_cast; omega
          · simp only [List.length_cons] at z4_; push_cast at z4_; omega
          · rw [z5_, List.append_assoc]; rfl
          · rw [map_mid]; exact rwv_set (q_ := (8 * S_.1 1 0 6 + j_ - 8).toNat) (z6_ z_) (by rw [List.length_map]; omega) (fun j9_ => by rw [rd_eq, rx z_])
        · intro j9_ hj_
          simp only [List.length_cons] at hj_
          rw [rd_eq, if_neg (by omega)]
          exact h2_ j9_ hj_
        · intro j9_
          rw [rd_ne (by decide)]
          exact h3_ j9_
        · exact hDx8_
        · omega
    · rintro b_ a_ nb_ sa_ j_ S_ hI_ hF_ ⟨k4_, h0_, h1_, hst_, hD_, -⟩ hm_
      obtain ⟨y_, x_, l_, rfl, hnb_, ha_, hb_, h1t, hw1_, h1_⟩ := h1_
      obtain ⟨G1_, s1_, r1_, s2_, e1_, e2_, z1_, z2_, z2b, z3_, z4_, z5_, z5b, z6_, z7_, z8_⟩ := h1_
      obtain ⟨hk15_, y_1, x_1, l_1, hyx_, xy_, x1_, er⟩ := e_opb he_ (by omega) (by omega)
      cases hyx_
      have vy_ := hV_.2
      have tp_ : S0_.1 1 0 6 = (l_.length : Int) + 2 := by rw [hV_.1]; simp only [List.length_cons]; push_cast; omega
      have lx8_ : x_.length ≤ 8 := vy_.2.2.2.2.1.2
      have hvl_ : l_.length ≤ 510 := by have := hV_.1; have q9_ : S0_.1 1 0 6 ≤ 512 := (hI0_.1 1 0 6 rfl).2; omega
      refine sm_T_go 2 (c1 := (155, [some (.inr (.inr (some (1, 0)))), some (.inl k_), some (.inl b_), some (.inl a_), some (.inl nb_), some (.inl sa_), some (.inl j_), none], [.inl nb_, .inl j_], S_)) rfl ?_
      refine sm_T_br (a := 3) (z := 41) rfl (fun cx1_ => ?_) (fun cx1_ => ?_)
      · have cx1_ : nb_ ≤ j_ := of_decide_eq_true cx1_
        have kr_ : r1_ = [] := List.eq_nil_of_length_eq_zero (by omega)
        have ks_ : s2_ = [] := List.eq_nil_of_length_eq_zero (by omega)
        rw [kr_, ks_] at z8_
        have q8_ : g_s1 F_ G1_ s1_ [] [] = (s1_, G1_) := rfl
        rw [q8_] at z8_
        have hfin4 : cgl dd_ F_ r_.1 (sm_aI S_ 27 0 a_.toNat sa_) ∧ cstk r_.1 r_.2 (sm_aI S_ 27 0 a_.toNat sa_) := by rw [er, k4_, g_op4, z8_]; refine ⟨cgl_st z1_, by show S_.1 1 0 6 = _; rw [h1t]; simp only [List.length_cons]; push_cast; omega, svl_tp (st_ := S0_.2.2.1 27 0) (wd_ := S0_.2.2.1 28 0) vy_.2.2.2.2.2.2 (fun z_ => by have z9_ : G1_.length ≤ 1000 := z_; omega) (fun j9_ hj_ => by rw [rd_eq, if_neg (by omega), hst_]) (fun j9_ hj_ => by rw [rd_ne (by decide), hw1_, if_neg (by omega)]) (by rw [rd_ne (by decide), hw1_, if_pos rfl]; rfl) (by simp) (fun z_ => ?_)⟩; (intro k9_ z9_ e9_; have k0_ : k9_ = 0 := (by cases k9_ with | zero => rfl | succ k9_ => simp at e9_); subst k0_; rw [rd_eq, if_pos (by omega)]; have q9_ := Option.some.inj e9_; rw [← q9_]; exact z6_ z_)
        refine sm_T_go 4 (c1 := (203, [some (.inr (.inr (some (1, 0)))), some (.inl k_), some (.inl b_), some (.inl a_), some (.inl nb_), some (.inl sa_), some (.inl j_), none], [.inl sa_, .inl a_, .inr (.inr (some (27, 0)))], S_)) rfl ?_
        refine sm_T_iast (n := 4096) rfl rfl (by omega) (by omega) ?_
        have hIx2_ : gi (sm_aI S_ 27 0 a_.toNat sa_) := gi_aI hI_ (show 0 ≤ sa_ ∧ sa_ ≤ 2025 from ⟨by omega, by omega⟩)
        have hFx3_ : ai_fr (sx_W vw_39) S0_ (sm_aI S_ 27 0 a_.toNat sa_) := ai_fr_tr hF_ (ai_fr_aI rfl)
        have hDx4_ : idf dd_ S0_ (sm_aI S_ 27 0 a_.toNat sa_) := idf_aI hD_ (Or.inl (by decide))
        refine sm_T_go 1 (c1 := (294, [some (.inr (.inr (some (1, 0)))), some (.inl k_), some (.inl b_), some (.inl a_), some (.inl nb_), some (.inl sa_), some (.inl j_), none], [], sm_aI S_ 27 0 a_.toNat sa_)) rfl ?_
        refine sm_T_rv rfl ⟨_, _, rfl, rfl, hIx2_, hFx3_, ?_⟩
        refine ⟨hDx4_, ?_⟩
        first | exact hfin4 | exact hfin | (rw [er, k5_, g_op5]; refine ⟨e105_.1, by rw [t105_]; simp only [List.length_cons]; push_cast; omega, svl_tp (st_ := S0_.2.2.1 27 0) (wd_ := S0_.2.2.1 28 0) vy_.2.2.2.2.2.2 (fun z_ => Nat.le_trans (g_su_le x_ y_ G_ 0) z_) (fun j_ hj_ => e105_.2.2 j_ (Or.inl (by omega))) (fun j_ hj_ => by rw [w105_]) (by rw [w105_, g_su_ln x_ y_ G_ 0 xy_]; exact vy_.2.2.2.1) (by rw [g_su_ln x_ y_ G_ 0 xy_]; omega) (fun z_ => by have q9_ := e105_.2.1 z_; rw [show (8 * S0_.1 1 0 6 - 16).toNat = 8 * l_.length by omega] at q9_; exact q9_)⟩)
      · have cx1_ : ¬ (nb_ ≤ j_) := of_decide_eq_false cx1_
        obtain ⟨r0_, r1_, rfl⟩ : ∃ r0_ r9_, r1_ = r0_ :: r9_ := by cases r1_ with | nil => (simp only [List.length_nil] at z4_; omega) | cons p_ q_ => exact ⟨p_, q_, rfl⟩
        obtain ⟨s0_, s2_, rfl⟩ : ∃ s0_ s9_, s2_ = s0_ :: s9_ := by cases s2_ with | nil => (simp only [List.length_nil, List.length_cons] at z3_ z4_; omega) | cons p_ q_ => exact ⟨p_, q_, rfl⟩
        have rx : imq (G1_.length ≤ 1000) (S_.2.2.1 27 0 (a_ + j_).toNat = r0_ ∧ S_.2.2.1 27 0 (b_ + j_).toNat = s0_) := fun z_ => by rw [show (a_ + j_).toNat = 8 * l_.length + e1_.length by omega, show (b_ + j_).toNat = 8 * (x_ :: l_).length + e2_.length by simp only [List.length_cons]; omega, hst_, hst_]; exact ⟨rwv_m (by rw [← z5_]; exact vy_.2.2.2.2.2.1 (by omega)), rwv_m (by rw [← z5b]; exact vy_.2.2.1 (by omega))⟩
        have l1_ := g_xo_le (F_ := F_) (G_ := G1_) (a_ := r0_) (b_ := s0_)
        have l2_ := (g_an_le (F_ := F_) (G_ := (g_xo F_ G1_ r0_ s0_).2) (a_ := s1_) (b_ := i_xor (g_xo F_ G1_ r0_ s0_).1 1)).1
        refine sm_T_go 7 (c1 := (169, [some (.inr (.inr (some (1, 0)))), some (.inl k_), some (.inl b_), some (.inl a_), some (.inl nb_), some (.inl sa_), some (.inl j_), none], [.inl j_, .inl a_, .inr (.inr (some (27, 0))), .inr (.inr (some (1, 0))), .inl sa_, .inr (.inr (some (1, 0)))], S_)) rfl ?_
        refine sm_T_bin (w := a_ + j_) rfl (bi_add (by omega) (by omega) (by omega)) ?_
        refine sm_T_iald (n := 4096) rfl rfl (by omega) (by omega) ?_
        have bx5_ : 0 ≤ S_.2.2.1 27 0 (a_ + j_).toNat ∧ S_.2.2.1 27 0 (a_ + j_).toNat ≤ 2025 := hI_.2 27 0 _
        refine sm_T_go 4 (c1 := (178, [some (.inr (.inr (some (1, 0)))), some (.inl k_), some (.inl b_), some (.inl a_), some (.inl nb_), some (.inl sa_), some (.inl j_), none], [.inl j_, .inl b_, .inr (.inr (some (27, 0))), .inl (S_.2.2.1 27 0 (a_ + j_).toNat), .inr (.inr (some (1, 0))), .inl sa_, .inr (.inr (some (1, 0)))], S_)) rfl ?_
        refine sm_T_bin (w := b_ + j_) rfl (bi_add (by omega) (by omega) (by omega)) ?_
        refine sm_T_iald (n := 4096) rfl rfl (by omega) (by omega) ?_
        have bx6_ : 0 ≤ S_.2.2.1 27 0 (b_ + j_).toNat ∧ S_.2.2.1 27 0 (b_ + j_).toNat ≤ 2025 := hI_.2 27 0 _
        refine sm_T_cal (d1 := 2) (Q1 := vq_43 (S_.2.2.1 27 0 (a_ + j_).toNat) (S_.2.2.1 27 0 (b_ + j_).toNat) dd_ F_ G1_ r0_ s0_ S_) rfl rfl (by decide) (vc_43 (S_.2.2.1 27 0 (a_ + j_).toNat) (S_.2.2.1 27 0 (b_ + j_).toNat) dd_ F_ G1_ r0_ s0_ S_ hI_ (by exact cgl_d z1_) (by exact z1_) (by omega) (by omega) (by exact rx)) (fun u_ Sx7_ px10_ => ?_)
        obtain ⟨vx12_, rfl, hIx8_, hFx9_, px10_⟩ := px10_
        have hFx11_ : ai_fr (sx_W vw_39) S0_ Sx7_ := ai_fr_tr hF_ (fr_le hFx9_ rfl)
        obtain ⟨dx14_, px10_⟩ := px10_
        have hDx13_ : idf dd_ S0_ Sx7_ := idf_tr hD_ dx14_
        have e180_ := px10_
        have f180_ : Sx7_.2.2.1 27 0 = S_.2.2.1 27 0 := fr_arr hFx9_ rfl
        have t180_ : Sx7_.1 1 0 6 = S_.1 1 0 6 := hFx9_.1 1 0 6 rfl
        have w180_ : Sx7_.2.2.1 28 0 = S_.2.2.1 28 0 := fr_arr hFx9_ rfl
        refine sm_T_go 1 (c1 := (184, [some (.inr (.inr (some (1, 0)))), some (.inl k_), some (.inl b_), some (.inl a_), some (.inl nb_), some (.inl sa_), some (.inl j_), none], [.inl 1, .inl vx12_, .inl sa_, .inr (.inr (some (1, 0)))], Sx7_)) rfl ?_
        refine sm_T_bin (w := (i_xor vx12_ 1)) rfl rfl ?_
        have bx15_ := i_x1 (x_ := vx12_) (by omega)
        refine sm_T_cal (d1 := 1) (Q1 := vq_44 sa_ (i_xor vx12_ 1) dd_ F_ (g_xo F_ G1_ r0_ s0_).2 s1_ (i_xor (g_xo F_ G1_ r0_ s0_).1 1) Sx7_) rfl rfl (by decide) (vc_44 sa_ (i_xor vx12_ 1) dd_ F_ (g_xo F_ G1_ r0_ s0_).2 s1_ (i_xor (g_xo F_ G1_ r0_ s0_).1 1) Sx7_ hIx8_ (by exact cgl_d e180_.1) (by exact e180_.1) (by omega) (by omega) (by (intro z_; rw [e180_.2.1 (by omega)]; exact ⟨z6_ (by omega), rfl⟩))) (fun u_ Sx16_ px19_ => ?_)
        obtain ⟨vx21_, rfl, hIx17_, hFx18_, px19_⟩ := px19_
        have hFx20_ : ai_fr (sx_W vw_39) S0_ Sx16_ := ai_fr_tr hFx11_ (fr_le hFx18_ rfl)
        obtain ⟨dx23_, px19_⟩ := px19_
        have hDx22_ : idf dd_ S0_ Sx16_ := idf_tr hDx13_ dx23_
        have e185_ := px19_
        have f185_ : Sx16_.2.2.1 27 0 = S_.2.2.1 27 0 := (fr_arr hFx18_ rfl).trans f180_
        have t185_ : Sx16_.1 1 0 6 = S_.1 1 0 6 := (hFx18_.1 1 0 6 rfl).trans t180_
        have w185_ : Sx16_.2.2.1 28 0 = S_.2.2.1 28 0 := (fr_arr hFx18_ rfl).trans w180_
        refine sm_T_go 1 (c1 := (190, [some (.inr (.inr (some (1, 0)))), some (.inl k_), some (.inl b_), some (.inl a_), some (.inl nb_), some (.inl vx21_), some (.inl j_), none], [], Sx16_)) rfl ?_
        refine sm_T_inc (a := 6) (z := 1) (v := j_) (w := j_ + 1) rfl rfl (by omega) (by omega) (by omega) ?_
        refine sm_T_go 1 (c1 := (151, [some (.inr (.inr (some (1, 0)))), some (.inl k_), some (.inl b_), some (.inl a_), some (.inl nb_), some (.inl vx21_), some (.inl (j_ + 1)), none], [], Sx16_)) rfl ?_
        refine ih_.2.1 b_ a_ nb_ vx21_ (j_ + 1) Sx16_ hIx17_ hFx20_ ⟨?_, ?_, ?_, ?_, ?_, trivial⟩ ?_
        · exact k4_
        · omega
        · refine ⟨y_, x_, l_, rfl, hnb_, ha_, hb_, t185_.trans h1t, fun j9_ => by rw [w185_]; exact hw1_ j9_, (g_e3 F_ G1_ s1_ r0_ s0_).2, (g_e3 F_ G1_ s1_ r0_ s0_).1, r1_, s2_, e1_ ++ [r0_], e2_ ++ [s0_], e185_.1, ?_, ?_, ?_, ?_, ?_, ?_, fun z_ => e185_.2.1 z_, ?_, ?_⟩
          · simp only [List.length_append, List.length_cons, List.length_nil]; push_cast; omega
          · simp only [List.length_append, List.length_cons, List.length_nil]; push_cast; omega
          · simp only [List.length_cons] at z3_; omega
          · simp only [List.length_cons] at z4_; push_cast at z4_; omega
          · rw [z5_, List.append_assoc]; rfl
          · rw [z5b, List.append_assoc]; rfl
          · show _ ≤ (g_an F_ (g_xo F_ G1_ r0_ s0_).2 s1_ (i_xor (g_xo F_ G1_ r0_ s0_).1 1)).2.length; omega
          · rw [z8_]; rfl
        · (intro j9_; rw [f185_]; exact hst_ j9_)
        · exact hDx22_
        · omega
    · rintro b_ a_ nb_ j_ S_ hI_ hF_ ⟨kn_, h0_, h1_, h3_, hD_, -⟩ hm_
      obtain ⟨y_, x_, l_, rfl, hnb_, ha_, hb_, h1t, h2_, h1_⟩ := h1_
      obtain ⟨G1_, d_, r1_, s2_, e2_, z1_, z2_, z2b, z3_, z4_, z5b, z6_, z7_, z8_⟩ := h1_
      obtain ⟨hk15_, y_1, x_1, l_1, hyx_, xy_, x1_, er⟩ := e_opb he_ (by omega) (by omega)
      cases hyx_
      have vy_ := hV_.2
      have tp_ : S0_.1 1 0 6 = (l_.length : Int) + 2 := by rw [hV_.1]; simp only [List.length_cons]; push_cast; omega
      have lx8_ : x_.length ≤ 8 := vy_.2.2.2.2.1.2
      have hvl_ : l_.length ≤ 510 := by have := hV_.1; have q9_ : S0_.1 1 0 6 ≤ 512 := (hI0_.1 1 0 6 rfl).2; omega
      refine sm_T_go 2 (c1 := (214, [some (.inr (.inr (some (1, 0)))), some (.inl k_), some (.inl b_), some (.inl a_), some (.inl nb_), some (.inl j_), none, none], [.inl nb_, .inl j_], S_)) rfl ?_
      refine sm_T_br (a := 3) (z := 80) rfl (fun cx1_ => ?_) (fun cx1_ => ?_)
      · have cx1_ : nb_ ≤ j_ := of_decide_eq_true cx1_
        have kr_ : r1_ = [] := List.eq_nil_of_length_eq_zero (by omega)
        have ks_ : s2_ = [] := List.eq_nil_of_length_eq_zero (by omega)
        rw [kr_, ks_] at z8_
        have q8_ : g_z2 (g_bw F_ k_) G1_ [] [] = ([], G1_) := rfl
        rw [q8_, List.append_nil] at z8_
        have hfin : cgl dd_ F_ r_.1 S_ ∧ cstk r_.1 r_.2 S_ := by rw [er, g_opw (by omega) (by omega), z8_]; refine ⟨z1_, by rw [h1t]; simp only [List.length_cons]; push_cast; omega, svl_tp (st_ := S0_.2.2.1 27 0) (wd_ := S0_.2.2.1 28 0) vy_.2.2.2.2.2.2 (fun z_ => by have z9_ : G1_.length ≤ 1000 := z_; omega) (fun j9_ hj_ => h2_ j9_ hj_) (fun j9_ hj_ => h3_ j9_) (by rw [h3_]; show _ = (d_.length : Int); rw [show (d_.length : Int) = x_.length by omega]; exact vy_.2.2.2.1) (by show 1 ≤ d_.length ∧ d_.length ≤ 8; omega) (fun z_ => by have q9_ := (z6_ z_).1; rw [kr_, List.append_nil] at q9_; exact q9_)⟩
        refine sm_T_rv rfl ⟨_, _, rfl, rfl, hI_, hF_, ?_⟩
        refine ⟨hD_, ?_⟩
        first | exact hfin4 | exact hfin | (rw [er, k5_, g_op5]; refine ⟨e105_.1, by rw [t105_]; simp only [List.length_cons]; push_cast; omega, svl_tp (st_ := S0_.2.2.1 27 0) (wd_ := S0_.2.2.1 28 0) vy_.2.2.2.2.2.2 (fun z_ => Nat.le_trans (g_su_le x_ y_ G_ 0) z_) (fun j_ hj_ => e105_.2.2 j_ (Or.inl (by omega))) (fun j_ hj_ => by rw [w105_]) (by rw [w105_, g_su_ln x_ y_ G_ 0 xy_]; exact vy_.2.2.2.1) (by rw [g_su_ln x_ y_ G_ 0 xy_]; omega) (fun z_ => by have q9_ := e105_.2.1 z_; rw [show (8 * S0_.1 1 0 6 - 16).toNat = 8 * l_.length by omega] at q9_; exact q9_)⟩)
      · have cx1_ : ¬ (nb_ ≤ j_) := of_decide_eq_false cx1_
        obtain ⟨r0_, r1_, rfl⟩ : ∃ r0_ r9_, r1_ = r0_ :: r9_ := by cases r1_ with | nil => (simp only [List.length_nil] at z4_; omega) | cons p_ q_ => exact ⟨p_, q_, rfl⟩
        obtain ⟨s0_, s2_, rfl⟩ : ∃ s0_ s9_, s2_ = s0_ :: s9_ := by cases s2_ with | nil => (simp only [List.length_nil, List.length_cons] at z3_ z4_; omega) | cons p_ q_ => exact ⟨p_, q_, rfl⟩
        have rx : imq (G1_.length ≤ 1000) (S_.2.2.1 27 0 (a_ + j_).toNat = r0_ ∧ S_.2.2.1 27 0 (b_ + j_).toNat = s0_) := fun z_ => by rw [show (a_ + j_).toNat = 8 * l_.length + d_.length by omega, show (b_ + j_).toNat = 8 * l_.length + 8 + e2_.length by omega]; exact ⟨rwv_m (z6_ z_).1, rwv_m (by rw [← z5b]; exact (z6_ z_).2)⟩
        have l1_ := g_bw_le (F_ := F_) (k_ := k_) G1_ r0_ s0_
        refine sm_T_go 4 (c1 := (224, [some (.inr (.inr (some (1, 0)))), some (.inl k_), some (.inl b_), some (.inl a_), some (.inl nb_), some (.inl j_), none, none], [.inl j_, .inl a_, .inr (.inr (some (27, 0)))], S_)) rfl ?_
        refine sm_T_bin (w := a_ + j_) rfl (bi_add (by omega) (by omega) (by omega)) ?_
        refine sm_T_iald (n := 4096) rfl rfl (by omega) (by omega) ?_
        have bx2_ : 0 ≤ S_.2.2.1 27 0 (a_ + j_).toNat ∧ S_.2.2.1 27 0 (a_ + j_).toNat ≤ 2025 := hI_.2 27 0 _
        refine sm_T_go 5 (c1 := (235, [some (.inr (.inr (some (1, 0)))), some (.inl k_), some (.inl b_), some (.inl a_), some (.inl nb_), some (.inl j_), some (.inl (S_.2.2.1 27 0 (a_ + j_).toNat)), none], [.inl j_, .inl b_, .inr (.inr (some (27, 0)))], S_)) rfl ?_
        refine sm_T_bin (w := b_ + j_) rfl (bi_add (by omega) (by omega) (by omega)) ?_
        refine sm_T_iald (n := 4096) rfl rfl (by omega) (by omega) ?_
        have bx3_ : 0 ≤ S_.2.2.1 27 0 (b_ + j_).toNat ∧ S_.2.2.1 27 0 (b_ + j_).toNat ≤ 2025 := hI_.2 27 0 _
        refine sm_T_go 5 (c1 := (246, [some (.inr (.inr (some (1, 0)))), some (.inl k_), some (.inl b_), some (.inl a_), some (.inl nb_), some (.inl j_), some (.inl (S_.2.2.1 27 0 (a_ + j_).toNat)), some (.inl (S_.2.2.1 27 0 (b_ + j_).toNat))], [.inl j_, .inl a_, .inr (.inr (some (27, 0)))], S_)) rfl ?_
        refine sm_T_bin (w := a_ + j_) rfl (bi_add (by omega) (by omega) (by omega)) ?_
        refine sm_T_go 2 (c1 := (249, [some (.inr (.inr (some (1, 0)))), some (.inl k_), some (.inl b_), some (.inl a_), some (.inl nb_), some (.inl j_), some (.inl (S_.2.2.1 27 0 (a_ + j_).toNat)), some (.inl (S_.2.2.1 27 0 (b_ + j_).toNat))], [.inl 3, .inl k_, .inl (a_ + j_), .inr (.inr (some (27, 0)))], S_)) rfl ?_
        refine sm_T_br (a := 1) (z := 14) rfl (fun cx4_ => ?_) (fun cx4_ => ?_)
        · have cx4_ : k_ ≠ 3 := of_decide_eq_true cx4_
          refine sm_T_go 2 (c1 := (265, [some (.inr (.inr (some (1, 0)))), some (.inl k_), some (.inl b_), some (.inl a_), some (.inl nb_), some (.inl j_), some (.inl (S_.2.2.1 27 0 (a_ + j_).toNat)), some (.inl (S_.2.2.1 27 0 (b_ + j_).toNat))], [.inl 1, .inl k_, .inl (a_ + j_), .inr (.inr (some (27, 0)))], S_)) rfl ?_
          refine sm_T_br (a := 1) (z := 14) rfl (fun cx5_ => ?_) (fun cx5_ => ?_)
          · have cx5_ : k_ ≠ 1 := of_decide_eq_true cx5_
            refine sm_T_go 3 (c1 := (284, [some (.inr (.inr (some (1, 0)))), some (.inl k_), some (.inl b_), some (.inl a_), some (.inl nb_), some (.inl j_), some (.inl (S_.2.2.1 27 0 (a_ + j_).toNat)), some (.inl (S_.2.2.1 27 0 (b_ + j_).toNat))], [.inl (S_.2.2.1 27 0 (b_ + j_).toNat), .inl (S_.2.2.1 27 0 (a_ + j_).toNat), .inr (.inr (some (1, 0))), .inl (a_ + j_), .inr (.inr (some (27, 0)))], S_)) rfl ?_
            refine sm_T_cal (d1 := 2) (Q1 := vq_43 (S_.2.2.1 27 0 (a_ + j_).toNat) (S_.2.2.1 27 0 (b_ + j_).toNat) dd_ F_ G1_ r0_ s0_ S_) rfl rfl (by decide) (vc_43 (S_.2.2.1 27 0 (a_ + j_).toNat) (S_.2.2.1 27 0 (b_ + j_).toNat) dd_ F_ G1_ r0_ s0_ S_ hI_ (by exact cgl_d z1_) (by exact z1_) (by omega) (by omega) (by exact rx)) (fun u_ Sx6_ px9_ => ?_)
            obtain ⟨vx11_, rfl, hIx7_, hFx8_, px9_⟩ := px9_
            have hFx10_ : ai_fr (sx_W vw_39) S0_ Sx6_ := ai_fr_tr hF_ (fr_le hFx8_ rfl)
            obtain ⟨dx13_, px9_⟩ := px9_
            have hDx12_ : idf dd_ S0_ Sx6_ := idf_tr hD_ dx13_
            have e9_ : cgl dd_ F_ (g_bw F_ k_ G1_ r0_ s0_).2 Sx6_ ∧ (imq ((g_bw F_ k_ G1_ r0_ s0_).2.length ≤ 1000) (vx11_ = (g_bw F_ k_ G1_ r0_ s0_).1)) ∧ (0 ≤ vx11_ ∧ vx11_ ≤ 2025) := by rw [g_bw2 (by omega) (by omega)]; exact px9_
            have f9_ : Sx6_.2.2.1 27 0 = S_.2.2.1 27 0 := fr_arr hFx8_ rfl
            have t9_ : Sx6_.1 1 0 6 = S_.1 1 0 6 := hFx8_.1 1 0 6 rfl
            have w9_ : Sx6_.2.2.1 28 0 = S_.2.2.1 28 0 := fr_arr hFx8_ rfl
            have g9_ : ∀ z9_ : Int, ∀ j9_ : Nat, (sm_aI Sx6_ 27 0 (a_ + j_).toNat z9_).2.2.1 27 0 j9_ = if j9_ = (a_ + j_).toNat then z9_ else S_.2.2.1 27 0 j9_ := fun z9_ j9_ => by rw [rd_eq, f9_]
            refine sm_T_iast (n := 4096) rfl rfl (by omega) (by omega) ?_
            have hIx14_ : gi (sm_aI Sx6_ 27 0 (a_ + j_).toNat vx11_) := gi_aI hIx7_ (show 0 ≤ vx11_ ∧ vx11_ ≤ 2025 from ⟨by omega, by omega⟩)
            have hFx15_ : ai_fr (sx_W vw_39) S0_ (sm_aI Sx6_ 27 0 (a_ + j_).toNat vx11_) := ai_fr_tr hFx10_ (ai_fr_aI rfl)
            have hDx16_ : idf dd_ S0_ (sm_aI Sx6_ 27 0 (a_ + j_).toNat vx11_) := idf_aI hDx12_ (Or.inl (by decide))
            refine sm_T_inc (a := 5) (z := 1) (v := j_) (w := j_ + 1) rfl rfl (by omega) (by omega) (by omega) ?_
            refine sm_T_go 1 (c1 := (210, [some (.inr (.inr (some (1, 0)))), some (.inl k_), some (.inl b_), some (.inl a_), some (.inl nb_), some (.inl (j_ + 1)), some (.inl (S_.2.2.1 27 0 (a_ + j_).toNat)), some (.inl (S_.2.2.1 27 0 (b_ + j_).toNat))], [], sm_aI Sx6_ 27 0 (a_ + j_).toNat vx11_)) rfl ?_
            refine sm_T_wk [some (.inr (.inr (some (1, 0)))), some (.inl k_), some (.inl b_), some (.inl a_), some (.inl nb_), some (.inl (j_ + 1)), none, none] (by exact ⟨rfl, rfl, rfl, rfl, rfl, rfl, trivial⟩) ?_
            refine ih_.2.2 b_ a_ nb_ (j_ + 1) (sm_aI Sx6_ 27 0 (a_ + j_).toNat vx11_) hIx14_ hFx15_ ⟨?_, ?_, ?_, ?_, ?_, trivial⟩ ?_
            · exact kn_
            · omega
            · refine ⟨y_, x_, l_, rfl, hnb_, ha_, hb_, t9_.trans h1t, fun j9_ hj_ => by rw [g9_, if_neg (by omega)]; exact h2_ j9_ hj_, (g_bw F_ k_ G1_ r0_ s0_).2, d_ ++ [(g_bw F_ k_ G1_ r0_ s0_).1], r1_, s2_, e2_ ++ [s0_], cgl_st e9_.1, ?_, ?_, ?_, ?_, ?_, fun z_ => ?_, ?_, ?_⟩
              · simp only [List.length_append, List.length_cons, List.length_nil]; push_cast; omega
              · simp only [List.length_append, List.length_cons, List.length_nil]; push_cast; omega
              · simp only [List.length_cons] at z3_; omega
              · simp only [List.length_cons] at z4_; push_cast at z4_; omega
              · rw [z5b, List.append_assoc]; rfl
              · have q1_ := z6_ (by omega)
                refine ⟨?_, ?_⟩
                · exact rwv_set (q_ := (a_ + j_).toNat) q1_.1 (by omega) (fun j9_ => by rw [g9_, e9_.2.1 z_])
                · exact rwv_cg q1_.2 (fun j9_ hj_ => by rw [g9_, if_neg (by omega)])
              · omega
              · rw [z8_]; exact g_z2_c
            · intro j9_
              rw [rd_ne (by decide), w9_]
              exact h3_ j9_
            · exact hDx16_
            · omega
          · have cx5_ : ¬ (k_ ≠ 1) := of_decide_eq_false cx5_
            refine sm_T_go 3 (c1 := (273, [some (.inr (.inr (some (1, 0)))), some (.inl k_), some (.inl b_), some (.inl a_), some (.inl nb_), some (.inl j_), some (.inl (S_.2.2.1 27 0 (a_ + j_).toNat)), some (.inl (S_.2.2.1 27 0 (b_ + j_).toNat))], [.inl (S_.2.2.1 27 0 (b_ + j_).toNat), .inl (S_.2.2.1 27 0 (a_ + j_).toNat), .inr (.inr (some (1, 0))), .inl (a_ + j_), .inr (.inr (some (27, 0)))], S_)) rfl ?_
            refine sm_T_cal (d1 := 2) (Q1 := vq_42 (S_.2.2.1 27 0 (a_ + j_).toNat) (S_.2.2.1 27 0 (b_ + j_).toNat) dd_ F_ G1_ r0_ s0_ S_) rfl rfl (by decide) (vc_42 (S_.2.2.1 27 0 (a_ + j_).toNat) (S_.2.2.1 27 0 (b_ + j_).toNat) dd_ F_ G1_ r0_ s0_ S_ hI_ (by exact cgl_d z1_) (by exact z1_) (by omega) (by omega) (by exact rx)) (fun u_ Sx17_ px20_ => ?_)
            obtain ⟨vx22_, rfl, hIx18_, hFx19_, px20_⟩ := px20_
            have hFx21_ : ai_fr (sx_W vw_39) S0_ Sx17_ := ai_fr_tr hF_ (fr_le hFx19_ rfl)
            obtain ⟨dx24_, px20_⟩ := px20_
            have hDx23_ : idf dd_ S0_ Sx17_ := idf_tr hD_ dx24_
            have e9_ : cgl dd_ F_ (g_bw F_ k_ G1_ r0_ s0_).2 Sx17_ ∧ (imq ((g_bw F_ k_ G1_ r0_ s0_).2.length ≤ 1000) (vx22_ = (g_bw F_ k_ G1_ r0_ s0_).1)) ∧ (0 ≤ vx22_ ∧ vx22_ ≤ 2025) := by rw [show k_ = 1 by omega, g_bw1]; exact px20_
            have f9_ : Sx17_.2.2.1 27 0 = S_.2.2.1 27 0 := fr_arr hFx19_ rfl
            have t9_ : Sx17_.1 1 0 6 = S_.1 1 0 6 := hFx19_.1 1 0 6 rfl
            have w9_ : Sx17_.2.2.1 28 0 = S_.2.2.1 28 0 := fr_arr hFx19_ rfl
            have g9_ : ∀ z9_ : Int, ∀ j9_ : Nat, (sm_aI Sx17_ 27 0 (a_ + j_).toNat z9_).2.2.1 27 0 j9_ = if j9_ = (a_ + j_).toNat then z9_ else S_.2.2.1 27 0 j9_ := fun z9_ j9_ => by rw [rd_eq, f9_]
            refine sm_T_go 1 (c1 := (287, [some (.inr (.inr (some (1, 0)))), some (.inl k_), some (.inl b_), some (.inl a_), some (.inl nb_), some (.inl j_), some (.inl (S_.2.2.1 27 0 (a_ + j_).toNat)), some (.inl (S_.2.2.1 27 0 (b_ + j_).toNat))], [.inl vx22_, .inl (a_ + j_), .inr (.inr (some (27, 0)))], Sx17_)) rfl ?_
            refine sm_T_iast (n := 4096) rfl rfl (by omega) (by omega) ?_
            have hIx25_ : gi (sm_aI Sx17_ 27 0 (a_ + j_).toNat vx22_) := gi_aI hIx18_ (show 0 ≤ vx22_ ∧ vx22_ ≤ 2025 from ⟨by omega, by omega⟩)
            have hFx26_ : ai_fr (sx_W vw_39) S0_ (sm_aI Sx17_ 27 0 (a_ + j_).toNat vx22_) := ai_fr_tr hFx21_ (ai_fr_aI rfl)
            have hDx27_ : idf dd_ S0_ (sm_aI Sx17_ 27 0 (a_ + j_).toNat vx22_) := idf_aI hDx23_ (Or.inl (by decide))
            refine sm_T_inc (a := 5) (z := 1) (v := j_) (w := j_ + 1) rfl rfl (by omega) (by omega) (by omega) ?_
            refine sm_T_go 1 (c1 := (210, [some (.inr (.inr (some (1, 0)))), some (.inl k_), some (.inl b_), some (.inl a_), some (.inl nb_), some (.inl (j_ + 1)), some (.inl (S_.2.2.1 27 0 (a_ + j_).toNat)), some (.inl (S_.2.2.1 27 0 (b_ + j_).toNat))], [], sm_aI Sx17_ 27 0 (a_ + j_).toNat vx22_)) rfl ?_
            refine sm_T_wk [some (.inr (.inr (some (1, 0)))), some (.inl k_), some (.inl b_), some (.inl a_), some (.inl nb_), some (.inl (j_ + 1)), none, none] (by exact ⟨rfl, rfl, rfl, rfl, rfl, rfl, trivial⟩) ?_
            refine ih_.2.2 b_ a_ nb_ (j_ + 1) (sm_aI Sx17_ 27 0 (a_ + j_).toNat vx22_) hIx25_ hFx26_ ⟨?_, ?_, ?_, ?_, ?_, trivial⟩ ?_
            · exact kn_
            · omega
            · refine ⟨y_, x_, l_, rfl, hnb_, ha_, hb_, t9_.trans h1t, fun j9_ hj_ => by rw [g9_, if_neg (by omega)]; exact h2_ j9_ hj_, (g_bw F_ k_ G1_ r0_ s0_).2, d_ ++ [(g_bw F_ k_ G1_ r0_ s0_).1], r1_, s2_, e2_ ++ [s0_], cgl_st e9_.1, ?_, ?_, ?_, ?_, ?_, fun z_ => ?_, ?_, ?_⟩
              · simp only [List.length_append, List.length_cons, List.length_nil]; push_cast; omega
              · simp only [List.length_append, List.length_cons, List.length_nil]; push_cast; omega
              · simp only [List.length_cons] at z3_; omega
              · simp only [List.length_cons] at z4_; push_cast at z4_; omega
              · rw [z5b, List.append_assoc]; rfl
              · have q1_ := z6_ (by omega)
                refine ⟨?_, ?_⟩
                · exact rwv_set (q_ := (a_ + j_).toNat) q1_.1 (by omega) (fun j9_ => by rw [g9_, e9_.2.1 z_])
                · exact rwv_cg q1_.2 (fun j9_ hj_ => by rw [g9_, if_neg (by omega)])
              · omega
              · rw [z8_]; exact g_z2_c
            · intro j9_
              rw [rd_ne (by decide), w9_]
              exact h3_ j9_
            · exact hDx27_
            · omega
        · have cx4_ : ¬ (k_ ≠ 3) := of_decide_eq_false cx4_
          refine sm_T_go 3 (c1 := (257, [some (.inr (.inr (some (1, 0)))), some (.inl k_), some (.inl b_), some (.inl a_), some (.inl nb_), some (.inl j_), some (.inl (S_.2.2.1 27 0 (a_ + j_).toNat)), some (.inl (S_.2.2.1 27 0 (b_ + j_).toNat))], [.inl (S_.2.2.1 27 0 (b_ + j_).toNat), .inl (S_.2.2.1 27 0 (a_ + j_).toNat), .inr (.inr (some (1, 0))), .inl (a_ + j_), .inr (.inr (some (27, 0)))], S_)) rfl ?_
          refine sm_T_cal (d1 := 1) (Q1 := vq_44 (S_.2.2.1 27 0 (a_ + j_).toNat) (S_.2.2.1 27 0 (b_ + j_).toNat) dd_ F_ G1_ r0_ s0_ S_) rfl rfl (by decide) (vc_44 (S_.2.2.1 27 0 (a_ + j_).toNat) (S_.2.2.1 27 0 (b_ + j_).toNat) dd_ F_ G1_ r0_ s0_ S_ hI_ (by exact cgl_d z1_) (by exact z1_) (by omega) (by omega) (by exact rx)) (fun u_ Sx28_ px31_ => ?_)
          obtain ⟨vx33_, rfl, hIx29_, hFx30_, px31_⟩ := px31_
          have hFx32_ : ai_fr (sx_W vw_39) S0_ Sx28_ := ai_fr_tr hF_ (fr_le hFx30_ rfl)
          obtain ⟨dx35_, px31_⟩ := px31_
          have hDx34_ : idf dd_ S0_ Sx28_ := idf_tr hD_ dx35_
          have e9_ : cgl dd_ F_ (g_bw F_ k_ G1_ r0_ s0_).2 Sx28_ ∧ (imq ((g_bw F_ k_ G1_ r0_ s0_).2.length ≤ 1000) (vx33_ = (g_bw F_ k_ G1_ r0_ s0_).1)) ∧ (0 ≤ vx33_ ∧ vx33_ ≤ 2025) := by rw [show k_ = 3 by omega, g_bw3]; exact px31_
          have f9_ : Sx28_.2.2.1 27 0 = S_.2.2.1 27 0 := fr_arr hFx30_ rfl
          have t9_ : Sx28_.1 1 0 6 = S_.1 1 0 6 := hFx30_.1 1 0 6 rfl
          have w9_ : Sx28_.2.2.1 28 0 = S_.2.2.1 28 0 := fr_arr hFx30_ rfl
          have g9_ : ∀ z9_ : Int, ∀ j9_ : Nat, (sm_aI Sx28_ 27 0 (a_ + j_).toNat z9_).2.2.1 27 0 j9_ = if j9_ = (a_ + j_).toNat then z9_ else S_.2.2.1 27 0 j9_ := fun z9_ j9_ => by rw [rd_eq, f9_]
          refine sm_T_go 1 (c1 := (287, [some (.inr (.inr (some (1, 0)))), some (.inl k_), some (.inl b_), some (.inl a_), some (.inl nb_), some (.inl j_), some (.inl (S_.2.2.1 27 0 (a_ + j_).toNat)), some (.inl (S_.2.2.1 27 0 (b_ + j_).toNat))], [.inl vx33_, .inl (a_ + j_), .inr (.inr (some (27, 0)))], Sx28_)) rfl ?_
          refine sm_T_iast (n := 4096) rfl rfl (by omega) (by omega) ?_
          have hIx36_ : gi (sm_aI Sx28_ 27 0 (a_ + j_).toNat vx33_) := gi_aI hIx29_ (show 0 ≤ vx33_ ∧ vx33_ ≤ 2025 from ⟨by omega, by omega⟩)
          have hFx37_ : ai_fr (sx_W vw_39) S0_ (sm_aI Sx28_ 27 0 (a_ + j_).toNat vx33_) := ai_fr_tr hFx32_ (ai_fr_aI rfl)
          have hDx38_ : idf dd_ S0_ (sm_aI Sx28_ 27 0 (a_ + j_).toNat vx33_) := idf_aI hDx34_ (Or.inl (by decide))
          refine sm_T_inc (a := 5) (z := 1) (v := j_) (w := j_ + 1) rfl rfl (by omega) (by omega) (by omega) ?_
          refine sm_T_go 1 (c1 := (210, [some (.inr (.inr (some (1, 0)))), some (.inl k_), some (.inl b_), some (.inl a_), some (.inl nb_), some (.inl (j_ + 1)), some (.inl (S_.2.2.1 27 0 (a_ + j_).toNat)), some (.inl (S_.2.2.1 27 0 (b_ + j_).toNat))], [], sm_aI Sx28_ 27 0 (a_ + j_).toNat vx33_)) rfl ?_
          refine sm_T_wk [some (.inr (.inr (some (1, 0)))), some (.inl k_), some (.inl b_), some (.inl a_), some (.inl nb_), some (.inl (j_ + 1)), none, none] (by exact ⟨rfl, rfl, rfl, rfl, rfl, rfl, trivial⟩) ?_
          refine ih_.2.2 b_ a_ nb_ (j_ + 1) (sm_aI Sx28_ 27 0 (a_ + j_).toNat vx33_) hIx36_ hFx37_ ⟨?_, ?_, ?_, ?_, ?_, trivial⟩ ?_
          · exact kn_
          · omega
          · refine ⟨y_, x_, l_, rfl, hnb_, ha_, hb_, t9_.trans h1t, fun j9_ hj_ => by rw [g9_, if_neg (by omega)]; exact h2_ j9_ hj_, (g_bw F_ k_ G1_ r0_ s0_).2, d_ ++ [(g_bw F_ k_ G1_ r0_ s0_).1], r1_, s2_, e2_ ++ [s0_], cgl_st e9_.1, ?_, ?_, ?_, ?_, ?_, fun z_ => ?_, ?_, ?_⟩
            · simp only [List.length_append, List.length_cons, List.length_nil]; push_cast; omega
            · simp only [List.length_append, List.length_cons, List.length_nil]; push_cast; omega
            · simp only [List.length_cons] at z3_; omega
            · simp only [List.length_cons] at z4_; push_cast at z4_; omega
            · rw [z5b, List.append_assoc]; rfl
            · have q1_ := z6_ (by omega)
              refine ⟨?_, ?_⟩
              · exact rwv_set (q_ := (a_ + j_).toNat) q1_.1 (by omega) (fun j9_ => by rw [g9_, e9_.2.1 z_])
              · exact rwv_cg q1_.2 (fun j9_ hj_ => by rw [g9_, if_neg (by omega)])
            · omega
            · rw [z8_]; exact g_z2_c
          · intro j9_
            rw [rd_ne (by decide), w9_]
            exact h3_ j9_
          · exact hDx38_
          · omega
set_option maxHeartbeats 2500000 in
set_option maxRecDepth 20000 in
theorem vc_39 {sc_ : Nat × (Nat → Int)} (k_ : Int) (dd_ : Nat) (F_ : Nat) (G_ : pGr) (V_ : gV) (r_ : pGr × gV) (S0_ : sm_S) (hI_ : gi S0_) (hI0_ : gi S0_) (hd_ : S0_.2.1 1 0 1 = some dd_) (hg_ : cgl dd_ F_ G_ S0_) (hV_ : cstk G_ V_ S0_) (he_ : e_op F_ k_ G_ V_ = some r_) : sm_T (mt_P sc_) 4 39 (0, [some (.inr (.inr (some (1, 0)))), some (.inl k_), none, none, none, none, none, none], [], S0_) (fun ro9_ => ∃ u_ S1_, ro9_ = (.inl u_, S1_, 0) ∧ vq_39 k_ dd_ F_ G_ V_ r_ S0_ u_ S1_) := by
  have hF_ : ai_fr (sx_W vw_39) S0_ S0_ := ai_fr_rf
  have hD_ : idf dd_ S0_ S0_ := idf_rf
  refine sm_T_go 2 (c1 := (3, [some (.inr (.inr (some (1, 0)))), some (.inl k_), none, none, none, none, none, none], [.inl 6, .inl k_], S0_)) rfl ?_
  refine sm_T_br (a := 1) (z := 47) rfl (fun cx1_ => ?_) (fun cx1_ => ?_)
  · have cx1_ : k_ ≠ 6 := of_decide_eq_true cx1_
    refine sm_T_go 2 (c1 := (53, [some (.inr (.inr (some (1, 0)))), some (.inl k_), none, none, none, none, none, none], [.inl 7, .inl k_], S0_)) rfl ?_
    refine sm_T_br (a := 1) (z := 8) rfl (fun cx2_ => ?_) (fun cx2_ => ?_)
    · have cx2_ : k_ ≠ 7 := of_decide_eq_true cx2_
      obtain ⟨hk15_, y_, x_, l_, hVe_, xy_, x1_, er⟩ := e_opb he_ (by omega) (by omega)
      have hV2_ : cstk G_ (y_ :: x_ :: l_) S0_ := by rw [← hVe_]; exact hV_
      have vy_ := hV2_.2
      have tp_ : S0_.1 1 0 6 = (l_.length : Int) + 2 := by rw [hV2_.1]; simp only [List.length_cons]; push_cast; omega
      have lx8_ : x_.length ≤ 8 := vy_.2.2.2.2.1.2
      have hvl_ : l_.length ≤ 510 := by have := hV2_.1; have q9_ : S0_.1 1 0 6 ≤ 512 := (hI_.1 1 0 6 rfl).2; omega
      have nbx_ : S0_.2.2.1 28 0 (S0_.1 1 0 6 - 1).toNat = (y_.length : Int) := by rw [show (S0_.1 1 0 6 - 1).toNat = (x_ :: l_).length by simp only [List.length_cons]; omega]; exact vy_.1
      have bx3_ : 0 ≤ S0_.1 1 0 6 ∧ S0_.1 1 0 6 ≤ 512 := hI_.1 1 0 6 rfl
      refine sm_T_go 4 (c1 := (67, [some (.inr (.inr (some (1, 0)))), some (.inl k_), none, none, none, none, none, none], [.inl 1, .inl (S0_.1 1 0 6), .inr (.inr (some (1, 0)))], S0_)) rfl ?_
      refine sm_T_bin (w := (S0_.1 1 0 6) - 1) rfl (bi_sub (by omega) (by omega) (by omega)) ?_
      have hIx4_ : gi (sm_pI S0_ 1 0 6 ((S0_.1 1 0 6) - 1)) := gi_pI hI_ (show 0 ≤ (S0_.1 1 0 6) - 1 ∧ (S0_.1 1 0 6) - 1 ≤ 512 from ⟨by omega, by omega⟩)
      have hFx5_ : ai_fr (sx_W vw_39) S0_ (sm_pI S0_ 1 0 6 ((S0_.1 1 0 6) - 1)) := ai_fr_tr hF_ (ai_fr_pI rfl)
      have hDx6_ : idf dd_ S0_ (sm_pI S0_ 1 0 6 ((S0_.1 1 0 6) - 1)) := idf_pI hD_ (Or.inl (by decide))
      refine sm_T_go 4 (c1 := (77, [some (.inr (.inr (some (1, 0)))), some (.inl k_), none, none, none, none, none, none], [.inl 8, .inl ((S0_.1 1 0 6) - 1)], sm_pI S0_ 1 0 6 ((S0_.1 1 0 6) - 1))) rfl ?_
      refine sm_T_bin (w := 8 * (S0_.1 1 0 6) - 8) rfl (bi_mul (by omega) (by omega) (by omega)) ?_
      refine sm_T_go 3 (c1 := (82, [some (.inr (.inr (some (1, 0)))), some (.inl k_), some (.inl (8 * (S0_.1 1 0 6) - 8)), none, none, none, none, none], [.inl 8, .inl (8 * (S0_.1 1 0 6) - 8)], sm_pI S0_ 1 0 6 ((S0_.1 1 0 6) - 1))) rfl ?_
      refine sm_T_bin (w := 8 * (S0_.1 1 0 6) - 16) rfl (bi_sub (by omega) (by omega) (by omega)) ?_
      refine sm_T_go 5 (c1 := (92, [some (.inr (.inr (some (1, 0)))), some (.inl k_), some (.inl (8 * (S0_.1 1 0 6) - 8)), some (.inl (8 * (S0_.1 1 0 6) - 16)), none, none, none, none], [.inl ((S0_.1 1 0 6) - 1), .inr (.inr (some (28, 0)))], sm_pI S0_ 1 0 6 ((S0_.1 1 0 6) - 1))) rfl ?_
      refine sm_T_iald (n := 512) rfl rfl (by omega) (by omega) ?_
      have bx7_ : 0 ≤ S0_.2.2.1 28 0 ((S0_.1 1 0 6) - 1).toNat ∧ S0_.2.2.1 28 0 ((S0_.1 1 0 6) - 1).toNat ≤ 8 := hI_.2 28 0 _
      refine sm_T_go 3 (c1 := (97, [some (.inr (.inr (some (1, 0)))), some (.inl k_), some (.inl (8 * (S0_.1 1 0 6) - 8)), some (.inl (8 * (S0_.1 1 0 6) - 16)), some (.inl (S0_.2.2.1 28 0 ((S0_.1 1 0 6) - 1).toNat)), none, none, none], [.inl 5, .inl k_], sm_pI S0_ 1 0 6 ((S0_.1 1 0 6) - 1))) rfl ?_
      refine sm_T_br (a := 1) (z := 14) rfl (fun cx8_ => ?_) (fun cx8_ => ?_)
      · have cx8_ : k_ ≠ 5 := of_decide_eq_true cx8_
        refine sm_T_go 2 (c1 := (113, [some (.inr (.inr (some (1, 0)))), some (.inl k_), some (.inl (8 * (S0_.1 1 0 6) - 8)), some (.inl (8 * (S0_.1 1 0 6) - 16)), some (.inl (S0_.2.2.1 28 0 ((S0_.1 1 0 6) - 1).toNat)), none, none, none], [.inl 4, .inl k_], sm_pI S0_ 1 0 6 ((S0_.1 1 0 6) - 1))) rfl ?_
        refine sm_T_br (a := 1) (z := 94) rfl (fun cx9_ => ?_) (fun cx9_ => ?_)
        · have cx9_ : k_ ≠ 4 := of_decide_eq_true cx9_
          refine sm_T_go 2 (c1 := (210, [some (.inr (.inr (some (1, 0)))), some (.inl k_), some (.inl (8 * (S0_.1 1 0 6) - 8)), some (.inl (8 * (S0_.1 1 0 6) - 16)), some (.inl (S0_.2.2.1 28 0 ((S0_.1 1 0 6) - 1).toNat)), some (.inl 0), none, none], [], sm_pI S0_ 1 0 6 ((S0_.1 1 0 6) - 1))) rfl ?_
          refine (vl_39 k_ dd_ F_ G_ V_ r_ S0_ hI0_ hd_ hg_ hV_ he_ _).2.2 (8 * (S0_.1 1 0 6) - 8) (8 * (S0_.1 1 0 6) - 16) (S0_.2.2.1 28 0 ((S0_.1 1 0 6) - 1).toNat) 0 (sm_pI S0_ 1 0 6 ((S0_.1 1 0 6) - 1)) hIx4_ hFx5_ ⟨?_, ?_, ?_, ?_, ?_, trivial⟩ (Nat.lt_succ_self _)
          · omega
          · omega
          · refine ⟨y_, x_, l_, hVe_, ?_, by omega, by omega, by (try simp only [rd_eq, rd_ne, rf_eq, rf_nk, rf_nt, rd_fa, rd_af, rd_fl, rd_al, rd_lf, rd_la, rd_leq, rd_lne, rd_fr, rd_ar, ne_eq, Nat.reduceEqDiff, not_false_eq_true]); omega, fun j9_ hj_ => rfl, G_, [], x_, y_, [], cgl_fr (w_ := ([(1, 6)], [], [])) hg_ (ai_fr_pI rfl) rfl rfl rfl rfl rfl rfl rfl rfl, rfl, rfl, xy_, ?_, rfl, fun z_ => ⟨vy_.2.2.2.2.2.1 z_, vy_.2.2.1 z_⟩, Nat.le_refl _, rfl⟩
            · rw [xy_, show (S0_.1 1 0 6 - 1).toNat = (x_ :: l_).length by simp only [List.length_cons]; omega]; exact vy_.1
            · rw [xy_, show (S0_.1 1 0 6 - 1).toNat = (x_ :: l_).length by simp only [List.length_cons]; omega, vy_.1]; omega
          · (intro j9_; rfl)
          · exact hDx6_
        · have cx9_ : ¬ (k_ ≠ 4) := of_decide_eq_false cx9_
          have k4_ : k_ = 4 := by omega
          obtain ⟨x0_, x9_, rfl⟩ : ∃ r0_ r1_, x_ = r0_ :: r1_ := by cases x_ with | nil => (simp only [List.length_nil] at x1_; omega) | cons p_ q_ => exact ⟨p_, q_, rfl⟩
          obtain ⟨y0_, y9_, rfl⟩ : ∃ s0_ s1_, y_ = s0_ :: s1_ := by cases y_ with | nil => (simp only [List.length_nil, List.length_cons] at xy_; omega) | cons p_ q_ => exact ⟨p_, q_, rfl⟩
          have rx : imq (G_.length ≤ 1000) (S0_.2.2.1 27 0 (8 * S0_.1 1 0 6 - 16).toNat = x0_ ∧ S0_.2.2.1 27 0 (8 * S0_.1 1 0 6 - 8).toNat = y0_) := fun z_ => by rw [show (8 * S0_.1 1 0 6 - 16).toNat = 8 * l_.length + 0 by omega, show (8 * S0_.1 1 0 6 - 8).toNat = 8 * ((x0_ :: x9_) :: l_).length + 0 by simp only [List.length_cons]; omega]; exact ⟨vy_.2.2.2.2.2.1 z_ 0 x0_ rfl, vy_.2.2.1 z_ 0 y0_ rfl⟩
          refine sm_T_go 5 (c1 := (125, [some (.inr (.inr (some (1, 0)))), some (.inl k_), some (.inl (8 * (S0_.1 1 0 6) - 8)), some (.inl (8 * (S0_.1 1 0 6) - 16)), some (.inl (S0_.2.2.1 28 0 ((S0_.1 1 0 6) - 1).toNat)), none, none, none], [.inl 1, .inl ((S0_.1 1 0 6) - 1), .inr (.inr (some (28, 0)))], sm_pI S0_ 1 0 6 ((S0_.1 1 0 6) - 1))) rfl ?_
          refine sm_T_bin (w := (S0_.1 1 0 6) - 2) rfl (bi_sub (by omega) (by omega) (by omega)) ?_
          refine sm_T_go 1 (c1 := (127, [some (.inr (.inr (some (1, 0)))), some (.inl k_), some (.inl (8 * (S0_.1 1 0 6) - 8)), some (.inl (8 * (S0_.1 1 0 6) - 16)), some (.inl (S0_.2.2.1 28 0 ((S0_.1 1 0 6) - 1).toNat)), none, none, none], [.inl 1, .inl ((S0_.1 1 0 6) - 2), .inr (.inr (some (28, 0)))], sm_pI S0_ 1 0 6 ((S0_.1 1 0 6) - 1))) rfl ?_
          refine sm_T_iast (n := 512) rfl rfl (by omega) (by omega) ?_
          have hIx10_ : gi (sm_aI (sm_pI S0_ 1 0 6 ((S0_.1 1 0 6) - 1)) 28 0 ((S0_.1 1 0 6) - 2).toNat 1) := gi_aI hIx4_ (show 0 ≤ 1 ∧ 1 ≤ 8 from ⟨by omega, by omega⟩)
          have hFx11_ : ai_fr (sx_W vw_39) S0_ (sm_aI (sm_pI S0_ 1 0 6 ((S0_.1 1 0 6) - 1)) 28 0 ((S0_.1 1 0 6) - 2).toNat 1) := ai_fr_tr hFx5_ (ai_fr_aI rfl)
          have hDx12_ : idf dd_ S0_ (sm_aI (sm_pI S0_ 1 0 6 ((S0_.1 1 0 6) - 1)) 28 0 ((S0_.1 1 0 6) - 2).toNat 1) := idf_aI hDx6_ (Or.inl (by decide))
          refine sm_T_go 4 (c1 := (134, [some (.inr (.inr (some (1, 0)))), some (.inl k_), some (.inl (8 * (S0_.1 1 0 6) - 8)), some (.inl (8 * (S0_.1 1 0 6) - 16)), some (.inl (S0_.2.2.1 28 0 ((S0_.1 1 0 6) - 1).toNat)), none, none, none], [.inl (8 * (S0_.1 1 0 6) - 16), .inr (.inr (some (27, 0))), .inr (.inr (some (1, 0)))], sm_aI (sm_pI S0_ 1 0 6 ((S0_.1 1 0 6) - 1)) 28 0 ((S0_.1 1 0 6) - 2).toNat 1)) rfl ?_
          refine sm_T_iald (n := 4096) rfl rfl (by omega) (by omega) ?_
          have bx13_ : 0 ≤ S0_.2.2.1 27 0 (8 * (S0_.1 1 0 6) - 16).toNat ∧ S0_.2.2.1 27 0 (8 * (S0_.1 1 0 6) - 16).toNat ≤ 2025 := hI_.2 27 0 _
          refine sm_T_go 3 (c1 := (140, [some (.inr (.inr (some (1, 0)))), some (.inl k_), some (.inl (8 * (S0_.1 1 0 6) - 8)), some (.inl (8 * (S0_.1 1 0 6) - 16)), some (.inl (S0_.2.2.1 28 0 ((S0_.1 1 0 6) - 1).toNat)), none, none, none], [.inl (8 * (S0_.1 1 0 6) - 8), .inr (.inr (some (27, 0))), .inl (S0_.2.2.1 27 0 (8 * (S0_.1 1 0 6) - 16).toNat), .inr (.inr (some (1, 0)))], sm_aI (sm_pI S0_ 1 0 6 ((S0_.1 1 0 6) - 1)) 28 0 ((S0_.1 1 0 6) - 2).toNat 1)) rfl ?_
          refine sm_T_iald (n := 4096) rfl rfl (by omega) (by omega) ?_
          have bx14_ : 0 ≤ S0_.2.2.1 27 0 (8 * (S0_.1 1 0 6) - 8).toNat ∧ S0_.2.2.1 27 0 (8 * (S0_.1 1 0 6) - 8).toNat ≤ 2025 := hI_.2 27 0 _
          refine sm_T_go 0 (c1 := (141, [some (.inr (.inr (some (1, 0)))), some (.inl k_), some (.inl (8 * (S0_.1 1 0 6) - 8)), some (.inl (8 * (S0_.1 1 0 6) - 16)), some (.inl (S0_.2.2.1 28 0 ((S0_.1 1 0 6) - 1).toNat)), none, none, none], [.inl (S0_.2.2.1 27 0 (8 * (S0_.1 1 0 6) - 8).toNat), .inl (S0_.2.2.1 27 0 (8 * (S0_.1 1 0 6) - 16).toNat), .inr (.inr (some (1, 0)))], sm_aI (sm_pI S0_ 1 0 6 ((S0_.1 1 0 6) - 1)) 28 0 ((S0_.1 1 0 6) - 2).toNat 1)) rfl ?_
          refine sm_T_cal (d1 := 2) (Q1 := vq_43 (S0_.2.2.1 27 0 (8 * (S0_.1 1 0 6) - 16).toNat) (S0_.2.2.1 27 0 (8 * (S0_.1 1 0 6) - 8).toNat) dd_ F_ G_ x0_ y0_ (sm_aI (sm_pI S0_ 1 0 6 ((S0_.1 1 0 6) - 1)) 28 0 ((S0_.1 1 0 6) - 2).toNat 1)) rfl rfl (by decide) (vc_43 (S0_.2.2.1 27 0 (8 * (S0_.1 1 0 6) - 16).toNat) (S0_.2.2.1 27 0 (8 * (S0_.1 1 0 6) - 8).toNat) dd_ F_ G_ x0_ y0_ (sm_aI (sm_pI S0_ 1 0 6 ((S0_.1 1 0 6) - 1)) 28 0 ((S0_.1 1 0 6) - 2).toNat 1) hIx10_ (by exact hd_) (by exact cgl_fr (w_ := ([(1, 6)], [28], [])) hg_ (ai_fr_tr (ai_fr_pI rfl) (ai_fr_aI rfl)) rfl rfl rfl rfl rfl rfl rfl rfl) (by omega) (by omega) (by exact rx)) (fun u_ Sx15_ px18_ => ?_)
          obtain ⟨vx20_, rfl, hIx16_, hFx17_, px18_⟩ := px18_
          have hFx19_ : ai_fr (sx_W vw_39) S0_ Sx15_ := ai_fr_tr hFx11_ (fr_le hFx17_ rfl)
          obtain ⟨dx22_, px18_⟩ := px18_
          have hDx21_ : idf dd_ S0_ Sx15_ := idf_tr hDx12_ dx22_
          have e141_ := px18_
          have t141_ : Sx15_.1 1 0 6 = S0_.1 1 0 6 - 1 := (hFx17_.1 1 0 6 rfl)
          have w141_ : ∀ j9_ : Nat, Sx15_.2.2.1 28 0 j9_ = if j9_ = l_.length then 1 else S0_.2.2.1 28 0 j9_ := fun j9_ => by rw [fr_arr (t := 28) (i := 0) hFx17_ rfl, rd_eq, show (S0_.1 1 0 6 - 2).toNat = l_.length by omega]; rfl
          have f141_ : Sx15_.2.2.1 27 0 = S0_.2.2.1 27 0 := (fr_arr hFx17_ rfl).trans (by funext j9_; exact rd_ne (by decide))
          refine sm_T_go 1 (c1 := (145, [some (.inr (.inr (some (1, 0)))), some (.inl k_), some (.inl (8 * (S0_.1 1 0 6) - 8)), some (.inl (8 * (S0_.1 1 0 6) - 16)), some (.inl (S0_.2.2.1 28 0 ((S0_.1 1 0 6) - 1).toNat)), none, none, none], [.inl 1, .inl vx20_], Sx15_)) rfl ?_
          refine sm_T_bin (w := (i_xor vx20_ 1)) rfl rfl ?_
          have bx23_ := i_x1 (x_ := vx20_) (by omega)
          refine sm_T_go 3 (c1 := (151, [some (.inr (.inr (some (1, 0)))), some (.inl k_), some (.inl (8 * (S0_.1 1 0 6) - 8)), some (.inl (8 * (S0_.1 1 0 6) - 16)), some (.inl (S0_.2.2.1 28 0 ((S0_.1 1 0 6) - 1).toNat)), some (.inl (i_xor vx20_ 1)), some (.inl 1), none], [], Sx15_)) rfl ?_
          refine (vl_39 k_ dd_ F_ G_ V_ r_ S0_ hI0_ hd_ hg_ hV_ he_ _).2.1 (8 * (S0_.1 1 0 6) - 8) (8 * (S0_.1 1 0 6) - 16) (S0_.2.2.1 28 0 ((S0_.1 1 0 6) - 1).toNat) (i_xor vx20_ 1) 1 Sx15_ hIx16_ hFx19_ ⟨?_, ?_, ?_, ?_, ?_, trivial⟩ (Nat.lt_succ_self _)
          · exact k4_
          · omega
          · refine ⟨y0_ :: y9_, x0_ :: x9_, l_, hVe_, ?_, by omega, by omega, by rw [t141_]; omega, w141_, (g_xo F_ G_ x0_ y0_).2, i_xor (g_xo F_ G_ x0_ y0_).1 1, x9_, y9_, [x0_], [y0_], e141_.1, rfl, rfl, ?_, ?_, rfl, rfl, fun z_ => by rw [e141_.2.1 z_], g_xo_le, rfl⟩
            · rw [xy_, show (S0_.1 1 0 6 - 1).toNat = ((x0_ :: x9_) :: l_).length by simp only [List.length_cons]; omega]; exact vy_.1
            · simp only [List.length_cons] at xy_; omega
            · rw [show (S0_.1 1 0 6 - 1).toNat = ((x0_ :: x9_) :: l_).length by simp only [List.length_cons]; omega, vy_.1, ← xy_]; simp only [List.length_cons]; push_cast; omega
          · (intro j9_; rw [f141_])
          · exact hDx21_
      · have cx8_ : ¬ (k_ ≠ 5) := of_decide_eq_false cx8_
        have k5_ : k_ = 5 := by omega
        refine sm_T_go 4 (c1 := (105, [some (.inr (.inr (some (1, 0)))), some (.inl k_), some (.inl (8 * (S0_.1 1 0 6) - 8)), some (.inl (8 * (S0_.1 1 0 6) - 16)), some (.inl (S0_.2.2.1 28 0 ((S0_.1 1 0 6) - 1).toNat)), none, none, none], [.inl (S0_.2.2.1 28 0 ((S0_.1 1 0 6) - 1).toNat), .inl (8 * (S0_.1 1 0 6) - 8), .inl (8 * (S0_.1 1 0 6) - 16), .inr (.inr (some (1, 0)))], sm_pI S0_ 1 0 6 ((S0_.1 1 0 6) - 1))) rfl ?_
        refine sm_T_cal (d1 := 3) (Q1 := vq_41 (8 * (S0_.1 1 0 6) - 16) (8 * (S0_.1 1 0 6) - 8) (S0_.2.2.1 28 0 ((S0_.1 1 0 6) - 1).toNat) dd_ F_ G_ x_ y_ (sm_pI S0_ 1 0 6 ((S0_.1 1 0 6) - 1))) rfl rfl (by decide) (vc_41 (8 * (S0_.1 1 0 6) - 16) (8 * (S0_.1 1 0 6) - 8) (S0_.2.2.1 28 0 ((S0_.1 1 0 6) - 1).toNat) dd_ F_ G_ x_ y_ (sm_pI S0_ 1 0 6 ((S0_.1 1 0 6) - 1)) hIx4_ (by exact hd_) (by exact cgl_fr (w_ := ([(1, 6)], [], [])) hg_ (ai_fr_pI rfl) rfl rfl rfl rfl rfl rfl rfl rfl) (by omega) (by (refine ⟨?_, xy_, lx8_⟩; have q9_ := vy_.1; rw [show (S0_.1 1 0 6 - 1).toNat = (x_ :: l_).length by simp only [List.length_cons]; omega]; rw [xy_]; exact q9_)) (by (intro z_; rw [show (8 * S0_.1 1 0 6 - 16).toNat = 8 * l_.length by omega, show (8 * S0_.1 1 0 6 - 8).toNat = 8 * (x_ :: l_).length by simp only [List.length_cons]; omega]; exact ⟨vy_.2.2.2.2.2.1 z_, vy_.2.2.1 z_⟩))) (fun u_ Sx24_ px27_ => ?_)
        obtain ⟨rfl, hIx25_, hFx26_, px27_⟩ := px27_
        have hFx28_ : ai_fr (sx_W vw_39) S0_ Sx24_ := ai_fr_tr hFx5_ (fr_le hFx26_ rfl)
        obtain ⟨dx30_, px27_⟩ := px27_
        have hDx29_ : idf dd_ S0_ Sx24_ := idf_tr hDx6_ dx30_
        have e105_ := px27_
        have t105_ : Sx24_.1 1 0 6 = S0_.1 1 0 6 - 1 := (hFx26_.1 1 0 6 rfl)
        have w105_ : ∀ j9_, Sx24_.2.2.1 28 0 j9_ = S0_.2.2.1 28 0 j9_ := fun j9_ => congrFun (fr_arr (t := 28) (i := 0) hFx26_ rfl) j9_
        have k5_ : k_ = 5 := by omega
        refine sm_T_go 1 (c1 := (294, [some (.inr (.inr (some (1, 0)))), some (.inl k_), some (.inl (8 * (S0_.1 1 0 6) - 8)), some (.inl (8 * (S0_.1 1 0 6) - 16)), some (.inl (S0_.2.2.1 28 0 ((S0_.1 1 0 6) - 1).toNat)), none, none, none], [], Sx24_)) rfl ?_
        refine sm_T_rv rfl ⟨_, _, rfl, rfl, hIx25_, hFx28_, ?_⟩
        refine ⟨hDx29_, ?_⟩
        first | exact hfin4 | exact hfin | (rw [er, k5_, g_op5]; refine ⟨e105_.1, by rw [t105_]; simp only [List.length_cons]; push_cast; omega, svl_tp (st_ := S0_.2.2.1 27 0) (wd_ := S0_.2.2.1 28 0) vy_.2.2.2.2.2.2 (fun z_ => Nat.le_trans (g_su_le x_ y_ G_ 0) z_) (fun j_ hj_ => e105_.2.2 j_ (Or.inl (by omega))) (fun j_ hj_ => by rw [w105_]) (by rw [w105_, g_su_ln x_ y_ G_ 0 xy_]; exact vy_.2.2.2.1) (by rw [g_su_ln x_ y_ G_ 0 xy_]; omega) (fun z_ => by have q9_ := e105_.2.1 z_; rw [show (8 * S0_.1 1 0 6 - 16).toNat = 8 * l_.length by omega] at q9_; exact q9_)⟩)
    · have cx2_ : ¬ (k_ ≠ 7) := of_decide_eq_false cx2_
      have hk_ : k_ = 7 := by omega
      obtain ⟨ve_, va_, c_, l_, hVe_, hl7_, er⟩ := e_op7 (show e_op F_ 7 G_ V_ = some r_ by rw [← hk_]; exact he_)
      have hV2_ : cstk G_ (ve_ :: va_ :: [c_] :: l_) S0_ := by rw [← hVe_]; exact hV_
      have tp_ : S0_.1 1 0 6 = (l_.length : Int) + 3 := by rw [hV2_.1]; simp only [List.length_cons]; push_cast; omega
      refine sm_T_go 1 (c1 := (57, [some (.inr (.inr (some (1, 0)))), some (.inl k_), none, none, none, none, none, none], [.inr (.inr (some (1, 0)))], S0_)) rfl ?_
      refine sm_T_cal (d1 := 3) (Q1 := vq_40 dd_ F_ G_ c_ va_ ve_ l_ S0_) rfl rfl (by decide) (vc_40 dd_ F_ G_ c_ va_ ve_ l_ S0_ hI_ (by exact hd_) (by exact hg_) (by exact tp_) (by exact hV2_.2) (by (have q9_ : S0_.1 1 0 6 ≤ 512 := (hI_.1 1 0 6 rfl).2); omega)) (fun u_ Sx31_ px34_ => ?_)
      obtain ⟨rfl, hIx32_, hFx33_, px34_⟩ := px34_
      have hFx35_ : ai_fr (sx_W vw_39) S0_ Sx31_ := ai_fr_tr hF_ (fr_le hFx33_ rfl)
      obtain ⟨dx37_, px34_⟩ := px34_
      have hDx36_ : idf dd_ S0_ Sx31_ := idf_tr hD_ dx37_
      have e57_ := px34_
      refine sm_T_rv rfl ⟨_, _, rfl, rfl, hIx32_, hFx35_, ?_⟩
      refine ⟨hDx36_, ?_⟩
      rw [er]
      exact e57_
  · have cx1_ : ¬ (k_ ≠ 6) := of_decide_eq_false cx1_
    have hk_ : k_ = 6 := by omega
    obtain ⟨x_, l_, hVe_, er⟩ := e_op6 (show e_op F_ 6 G_ V_ = some r_ by rw [← hk_]; exact he_)
    have hV2_ : cstk G_ (x_ :: l_) S0_ := by rw [← hVe_]; exact hV_
    have tp_ : S0_.1 1 0 6 = (l_.length : Int) + 1 := by rw [hV2_.1]; simp only [List.length_cons]; push_cast; omega
    have lx8_ : x_.length ≤ 8 := hV2_.2.2.1.2
    refine sm_T_go 2 (c1 := (8, [some (.inr (.inr (some (1, 0)))), some (.inl k_), some (.inl 0), none, none, none, none, none], [], S0_)) rfl ?_
    refine (vl_39 k_ dd_ F_ G_ V_ r_ S0_ hI0_ hd_ hg_ hV_ he_ _).1 0 S0_ hI_ hF_ ⟨?_, ?_, ?_, ?_, ?_, ?_, ?_, trivial⟩ (Nat.lt_succ_self _)
    · exact hk_
    · omega
    · rfl
    · exact ⟨x_, l_, x_, [], hVe_, hg_, rfl, by simp, rfl, fun z_ => hV2_.2.2.2.1 z_⟩
    · (intro j9_ hj_; rfl)
    · (intro j9_; rfl)
    · exact hD_
