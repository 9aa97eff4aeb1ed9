/-! Builder.sum -/
def vw_41 : sx_Wl := ([(1, 8), (3, 4)], [27, 29, 42, 43], [])
def vq_41 (a_ : Int) (b_ : Int) (nb_ : Int) (dd_ : Nat) (F_ : Nat) (G_ : pGr) (x_ : List Int) (y_ : List Int) (S0_ : sm_S) (u_ : Option sm_V) (S1_ : sm_S) : Prop := u_ = none ∧ gi S1_ ∧ ai_fr (sx_W vw_41) S0_ S1_ ∧ (idf dd_ S0_ S1_ ∧ (cgl dd_ F_ (g_su F_ G_ 0 x_ y_).2 S1_ ∧ (imq ((g_su F_ G_ 0 x_ y_).2.length ≤ 1000) (rwv (S1_.2.2.1 27 0) a_.toNat (g_su F_ G_ 0 x_ y_).1)) ∧ ∀ j_ : Nat, j_ < a_.toNat ∨ a_.toNat + 8 ≤ j_ → S1_.2.2.1 27 0 j_ = S0_.2.2.1 27 0 j_))
set_option maxHeartbeats 1500000 in
theorem vl_41 {sc_ : Nat × (Nat → Int)} (a_ : Int) (b_ : Int) (nb_ : Int) (dd_ : Nat) (F_ : Nat) (G_ : pGr) (x_ : List Int) (y_ : List Int) (S0_ : sm_S) (hd_ : S0_.2.1 1 0 1 = some dd_) (hg_ : cgl dd_ F_ G_ S0_) (ha_ : 0 ≤ a_ ∧ a_ + 8 ≤ b_ ∧ b_ + 8 ≤ 4096) (hn_ : nb_ = (x_.length : Int) ∧ x_.length = y_.length ∧ x_.length ≤ 8) (hr_ : imq (G_.length ≤ 1000) (rwv (S0_.2.2.1 27 0) a_.toNat x_ ∧ rwv (S0_.2.2.1 27 0) b_.toNat y_)) : ∀ nn_ : Nat, (∀ (cy_ : Int) (k_ : Int) (S_ : sm_S), gi S_ → ai_fr (sx_W vw_41) S0_ S_ → (((0 ≤ k_ ∧ k_ ≤ nb_) ∧ 0 ≤ cy_ ∧ cy_ ≤ 2025) ∧ (∃ (G1_ : pGr) (c1_ : Int) (d_ r_ e_ s_ : List Int), cgl dd_ F_ G1_ S_ ∧ (d_.length : Int) = k_ ∧ (e_.length : Int) = k_ ∧ r_.length = s_.length ∧ k_ + r_.length = nb_ ∧ y_ = e_ ++ s_ ∧ (imq (G1_.length ≤ 1000) (cy_ = c1_ ∧ rwv (S_.2.2.1 27 0) a_.toNat (d_ ++ r_) ∧ rwv (S_.2.2.1 27 0) b_.toNat y_)) ∧ (g_su F_ G_ 0 x_ y_) = (d_ ++ (g_su F_ G1_ c1_ r_ s_).1, (g_su F_ G1_ c1_ r_ s_).2)) ∧ (∀ j_ : Nat, j_ < a_.toNat ∨ a_.toNat + 8 ≤ j_ → S_.2.2.1 27 0 j_ = S0_.2.2.1 27 0 j_) ∧ (idf dd_ S0_ S_) ∧ True) → ((nb_ - k_).toNat) < nn_ → sm_T (mt_P sc_) 3 41 (6, [some (.inr (.inr (some (1, 0)))), some (.inl a_), some (.inl b_), some (.inl nb_), some (.inl cy_), some (.inl k_), none, none, none, none], [], S_) (fun ro9_ => ∃ u_ S1_, ro9_ = (.inl u_, S1_, 0) ∧ vq_41 a_ b_ nb_ dd_ F_ G_ x_ y_ S0_ u_ S1_)) := by
  intro nn_
  induction nn_ with
  | zero => exact fun _ _ _ _ _ _ h_ => absurd h_ (Nat.not_lt_zero _)
  | succ nn_ ih_ =>
    rintro cy_ k_ S_ hI_ hF_ ⟨h0_, h1_, h2_, hD_, -⟩ hm_
    obtain ⟨G1_, c1_, d_, r_, e_, s_, z1_, z2_, z2b, z3_, z4_, z5_, z6_, z8_⟩ := h1_
    refine sm_T_go 2 (c1 := (9, [some (.inr (.inr (some (1, 0)))), some (.inl a_), some (.inl b_), some (.inl nb_), some (.inl cy_), some (.inl k_), none, none, none, none], [.inl nb_, .inl k_], S_)) rfl ?_
    refine sm_T_br (a := 3) (z := 84) rfl (fun cx1_ => ?_) (fun cx1_ => ?_)
    · have cx1_ : nb_ ≤ k_ := of_decide_eq_true cx1_
      refine sm_T_rv rfl ⟨_, _, rfl, rfl, hI_, hF_, ?_⟩
      refine ⟨hD_, ?_⟩
      have kr_ : r_ = [] := List.eq_nil_of_length_eq_zero (by omega)
      have ks_ : s_ = [] := List.eq_nil_of_length_eq_zero (by omega)
      rw [kr_, ks_] at z8_
      have q8_ : g_su F_ G1_ c1_ [] [] = ([], G1_) := rfl
      rw [q8_, List.append_nil] at z8_
      rw [z8_]
      refine ⟨z1_, fun z_ => ?_, h2_⟩
      have q9_ := (z6_ z_).2.1
      rw [kr_, List.append_nil] at q9_
      exact q9_
    · have cx1_ : ¬ (nb_ ≤ k_) := of_decide_eq_false cx1_
      obtain ⟨r0_, r_, rfl⟩ : ∃ r0_ r1_, r_ = r0_ :: r1_ := by cases r_ with | nil => (simp only [List.length_nil] at z4_; omega) | cons p_ q_ => exact ⟨p_, q_, rfl⟩
      obtain ⟨s0_, s_, rfl⟩ : ∃ s0_ s1_, s_ = s0_ :: s1_ := by cases s_ with | nil => (simp only [List.length_nil, List.length_cons] at z3_ z4_; omega) | cons p_ q_ => exact ⟨p_, q_, rfl⟩
      have rx : imq (G1_.length ≤ 1000) (S_.2.2.1 27 0 (a_ + k_).toNat = r0_ ∧ S_.2.2.1 27 0 (b_ + k_).toNat = s0_) := fun z_ => by rw [show (a_ + k_).toNat = a_.toNat + d_.length by omega, show (b_ + k_).toNat = b_.toNat + e_.length by omega]; exact ⟨rwv_m (z6_ z_).2.1, rwv_m (by rw [← z5_]; exact (z6_ z_).2.2)⟩
      obtain ⟨P1_, hP1_⟩ : ∃ z_, z_ = g_xo F_ G1_ r0_ s0_ := ⟨_, rfl⟩
      have lP1_ : G1_.length ≤ P1_.2.length := by rw [hP1_]; exact g_xo_le
      obtain ⟨P2_, hP2_⟩ : ∃ z_, z_ = g_xo F_ P1_.2 P1_.1 c1_ := ⟨_, rfl⟩
      have lP2_ : P1_.2.length ≤ P2_.2.length := by rw [hP2_]; exact g_xo_le
      obtain ⟨P3_, hP3_⟩ : ∃ z_, z_ = g_an F_ P2_.2 r0_ s0_ := ⟨_, rfl⟩
      have lP3_ : P2_.2.length ≤ P3_.2.length := by rw [hP3_]; exact g_an_le.1
      obtain ⟨P4_, hP4_⟩ : ∃ z_, z_ = g_an F_ P3_.2 P1_.1 c1_ := ⟨_, rfl⟩
      have lP4_ : P3_.2.length ≤ P4_.2.length := by rw [hP4_]; exact g_an_le.1
      obtain ⟨P5_, hP5_⟩ : ∃ z_, z_ = g_or F_ P4_.2 P3_.1 P4_.1 := ⟨_, rfl⟩
      have lP5_ : P4_.2.length ≤ P5_.2.length := by rw [hP5_]; exact g_or_le
      have hs3_ : g_s3 F_ G1_ c1_ r0_ s0_ = (P2_.1, P5_.1, P5_.2) := by rw [hP5_, hP4_, hP3_, hP2_, hP1_]; rfl
      refine sm_T_go 4 (c1 := (19, [some (.inr (.inr (some (1, 0)))), some (.inl a_), some (.inl b_), some (.inl nb_), some (.inl cy_), some (.inl k_), none, none, none, none], [.inl k_, .inl a_, .inr (.inr (some (27, 0)))], S_)) rfl ?_
      refine sm_T_bin (w := a_ + k_) rfl (bi_add (by omega) (by omega) (by omega)) ?_
      refine sm_T_iald (n := 4096) rfl rfl (by omega) (by omega) ?_
      have bx2_ : 0 ≤ S_.2.2.1 27 0 (a_ + k_).toNat ∧ S_.2.2.1 27 0 (a_ + k_).toNat ≤ 2025 := hI_.2 27 0 _
      refine sm_T_go 5 (c1 := (30, [some (.inr (.inr (some (1, 0)))), some (.inl a_), some (.inl b_), some (.inl nb_), some (.inl cy_), some (.inl k_), some (.inl (S_.2.2.1 27 0 (a_ + k_).toNat)), none, none, none], [.inl k_, .inl b_, .inr (.inr (some (27, 0)))], S_)) rfl ?_
      refine sm_T_bin (w := b_ + k_) rfl (bi_add (by omega) (by omega) (by omega)) ?_
      refine sm_T_iald (n := 4096) rfl rfl (by omega) (by omega) ?_
      have bx3_ : 0 ≤ S_.2.2.1 27 0 (b_ + k_).toNat ∧ S_.2.2.1 27 0 (b_ + k_).toNat ≤ 2025 := hI_.2 27 0 _
      refine sm_T_go 4 (c1 := (39, [some (.inr (.inr (some (1, 0)))), some (.inl a_), some (.inl b_), some (.inl nb_), some (.inl cy_), some (.inl k_), some (.inl (S_.2.2.1 27 0 (a_ + k_).toNat)), some (.inl (S_.2.2.1 27 0 (b_ + k_).toNat)), none, none], [.inl (S_.2.2.1 27 0 (b_ + k_).toNat), .inl (S_.2.2.1 27 0 (a_ + k_).toNat), .inr (.inr (some (1, 0)))], S_)) rfl ?_
      refine sm_T_cal (d1 := 2) (Q1 := vq_43 (S_.2.2.1 27 0 (a_ + k_).toNat) (S_.2.2.1 27 0 (b_ + k_).toNat) dd_ F_ G1_ r0_ s0_ S_) rfl rfl (by decide) (vc_43 (S_.2.2.1 27 0 (a_ + k_).toNat) (S_.2.2.1 27 0 (b_ + k_).toNat) dd_ F_ G1_ r0_ s0_ S_ hI_ (by exact cgl_d z1_) (by exact z1_) (by omega) (by omega) (by exact rx)) (fun u_ Sx4_ px7_ => ?_)
      obtain ⟨vx9_, rfl, hIx5_, hFx6_, px7_⟩ := px7_
      have hFx8_ : ai_fr (sx_W vw_41) S0_ Sx4_ := ai_fr_tr hF_ (fr_le hFx6_ rfl)
      obtain ⟨dx11_, px7_⟩ := px7_
      have hDx10_ : idf dd_ S0_ Sx4_ := idf_tr hD_ dx11_
      have e39_ := px7_
      rw [← hP1_] at e39_
      have f39_ : Sx4_.2.2.1 27 0 = S_.2.2.1 27 0 := fr_arr hFx6_ rfl
      refine sm_T_go 5 (c1 := (51, [some (.inr (.inr (some (1, 0)))), some (.inl a_), some (.inl b_), some (.inl nb_), some (.inl cy_), some (.inl k_), some (.inl (S_.2.2.1 27 0 (a_ + k_).toNat)), some (.inl (S_.2.2.1 27 0 (b_ + k_).toNat)), some (.inl vx9_), none], [.inl k_, .inl a_, .inr (.inr (some (27, 0)))], Sx4_)) rfl ?_
      refine sm_T_bin (w := a_ + k_) rfl (bi_add (by omega) (by omega) (by omega)) ?_
      refine sm_T_go 3 (c1 := (57, [some (.inr (.inr (some (1, 0)))), some (.inl a_), some (.inl b_), some (.inl nb_), some (.inl cy_), some (.inl k_), some (.inl (S_.2.2.1 27 0 (a_ + k_).toNat)), some (.inl (S_.2.2.1 27 0 (b_ + k_).toNat)), some (.inl vx9_), none], [.inl cy_, .inl vx9_, .inr (.inr (some (1, 0))), .inl (a_ + k_), .inr (.inr (some (27, 0)))], Sx4_)) rfl ?_
      refine sm_T_cal (d1 := 2) (Q1 := vq_43 vx9_ cy_ dd_ F_ P1_.2 P1_.1 c1_ Sx4_) rfl rfl (by decide) (vc_43 vx9_ cy_ dd_ F_ P1_.2 P1_.1 c1_ Sx4_ hIx5_ (by exact cgl_d e39_.1) (by exact e39_.1) (by omega) (by omega) (by (intro z_; exact ⟨e39_.2.1 z_, (z6_ (by omega)).1⟩))) (fun u_ Sx12_ px15_ => ?_)
      obtain ⟨vx17_, rfl, hIx13_, hFx14_, px15_⟩ := px15_
      have hFx16_ : ai_fr (sx_W vw_41) S0_ Sx12_ := ai_fr_tr hFx8_ (fr_le hFx14_ rfl)
      obtain ⟨dx19_, px15_⟩ := px15_
      have hDx18_ : idf dd_ S0_ Sx12_ := idf_tr hDx10_ dx19_
      have e57_ := px15_
      rw [← hP2_] at e57_
      have f57_ : Sx12_.2.2.1 27 0 = S_.2.2.1 27 0 := (fr_arr hFx14_ rfl).trans f39_
      have g57_ : ∀ j9_ : Nat, (sm_aI Sx12_ 27 0 (a_ + k_).toNat vx17_).2.2.1 27 0 j9_ = if j9_ = (a_ + k_).toNat then vx17_ else S_.2.2.1 27 0 j9_ := fun j9_ => by rw [rd_eq, f57_]
      refine sm_T_iast (n := 4096) rfl rfl (by omega) (by omega) ?_
      have hIx20_ : gi (sm_aI Sx12_ 27 0 (a_ + k_).toNat vx17_) := gi_aI hIx13_ (show 0 ≤ vx17_ ∧ vx17_ ≤ 2025 from ⟨by omega, by omega⟩)
      have hFx21_ : ai_fr (sx_W vw_41) S0_ (sm_aI Sx12_ 27 0 (a_ + k_).toNat vx17_) := ai_fr_tr hFx16_ (ai_fr_aI rfl)
      have hDx22_ : idf dd_ S0_ (sm_aI Sx12_ 27 0 (a_ + k_).toNat vx17_) := idf_aI hDx18_ (Or.inl (by decide))
      refine sm_T_go 3 (c1 := (66, [some (.inr (.inr (some (1, 0)))), some (.inl a_), some (.inl b_), some (.inl nb_), some (.inl cy_), some (.inl k_), some (.inl (S_.2.2.1 27 0 (a_ + k_).toNat)), some (.inl (S_.2.2.1 27 0 (b_ + k_).toNat)), some (.inl vx9_), none], [.inl (S_.2.2.1 27 0 (b_ + k_).toNat), .inl (S_.2.2.1 27 0 (a_ + k_).toNat), .inr (.inr (some (1, 0)))], sm_aI Sx12_ 27 0 (a_ + k_).toNat vx17_)) rfl ?_
      refine sm_T_cal (d1 := 1) (Q1 := vq_44 (S_.2.2.1 27 0 (a_ + k_).toNat) (S_.2.2.1 27 0 (b_ + k_).toNat) dd_ F_ P2_.2 r0_ s0_ (sm_aI Sx12_ 27 0 (a_ + k_).toNat vx17_)) rfl rfl (by decide) (vc_44 (S_.2.2.1 27 0 (a_ + k_).toNat) (S_.2.2.1 27 0 (b_ + k_).toNat) dd_ F_ P2_.2 r0_ s0_ (sm_aI Sx12_ 27 0 (a_ + k_).toNat vx17_) hIx20_ (by exact cgl_d (cgl_st e57_.1)) (by exact cgl_st e57_.1) (by omega) (by omega) (by (intro z_; exact rx (by omega)))) (fun u_ Sx23_ px26_ => ?_)
      obtain ⟨vx28_, rfl, hIx24_, hFx25_, px26_⟩ := px26_
      have hFx27_ : ai_fr (sx_W vw_41) S0_ Sx23_ := ai_fr_tr hFx21_ (fr_le hFx25_ rfl)
      obtain ⟨dx30_, px26_⟩ := px26_
      have hDx29_ : idf dd_ S0_ Sx23_ := idf_tr hDx22_ dx30_
      have e66_ := px26_
      rw [← hP3_] at e66_
      have g66_ := g57_
      rw [← fr_arr (t := 27) (i := 0) hFx25_ rfl] at g66_
      refine sm_T_go 6 (c1 := (79, [some (.inr (.inr (some (1, 0)))), some (.inl a_), some (.inl b_), some (.inl nb_), some (.inl cy_), some (.inl k_), some (.inl (S_.2.2.1 27 0 (a_ + k_).toNat)), some (.inl (S_.2.2.1 27 0 (b_ + k_).toNat)), some (.inl vx9_), some (.inl vx28_)], [.inl cy_, .inl vx9_, .inr (.inr (some (1, 0))), .inl vx28_, .inr (.inr (some (1, 0)))], Sx23_)) rfl ?_
      refine sm_T_cal (d1 := 1) (Q1 := vq_44 vx9_ cy_ dd_ F_ P3_.2 P1_.1 c1_ Sx23_) rfl rfl (by decide) (vc_44 vx9_ cy_ dd_ F_ P3_.2 P1_.1 c1_ Sx23_ hIx24_ (by exact cgl_d e66_.1) (by exact e66_.1) (by omega) (by omega) (by (intro z_; exact ⟨e39_.2.1 (by omega), (z6_ (by omega)).1⟩))) (fun u_ Sx31_ px34_ => ?_)
      obtain ⟨vx36_, rfl, hIx32_, hFx33_, px34_⟩ := px34_
      have hFx35_ : ai_fr (sx_W vw_41) S0_ Sx31_ := ai_fr_tr hFx27_ (fr_le hFx33_ rfl)
      obtain ⟨dx38_, px34_⟩ := px34_
      have hDx37_ : idf dd_ S0_ Sx31_ := idf_tr hDx29_ dx38_
      have e79_ := px34_
      rw [← hP4_] at e79_
      have g79_ := g66_
      rw [← fr_arr (t := 27) (i := 0) hFx33_ rfl] at g79_
      refine sm_T_cal (d1 := 2) (Q1 := vq_42 vx28_ vx36_ dd_ F_ P4_.2 P3_.1 P4_.1 Sx31_) rfl rfl (by decide) (vc_42 vx28_ vx36_ dd_ F_ P4_.2 P3_.1 P4_.1 Sx31_ hIx32_ (by exact cgl_d e79_.1) (by exact e79_.1) (by omega) (by omega) (by (intro z_; exact ⟨e66_.2.1 (by omega), e79_.2.1 (by omega)⟩))) (fun u_ Sx39_ px42_ => ?_)
      obtain ⟨vx44_, rfl, hIx40_, hFx41_, px42_⟩ := px42_
      have hFx43_ : ai_fr (sx_W vw_41) S0_ Sx39_ := ai_fr_tr hFx35_ (fr_le hFx41_ rfl)
      obtain ⟨dx46_, px42_⟩ := px42_
      have hDx45_ : idf dd_ S0_ Sx39_ := idf_tr hDx37_ dx46_
      have e82_ := px42_
      rw [← hP5_] at e82_
      have g82_ := g79_
      rw [← fr_arr (t := 27) (i := 0) hFx41_ rfl] at g82_
      refine sm_T_go 1 (c1 := (87, [some (.inr (.inr (some (1, 0)))), some (.inl a_), some (.inl b_), some (.inl nb_), some (.inl vx44_), some (.inl k_), some (.inl (S_.2.2.1 27 0 (a_ + k_).toNat)), some (.inl (S_.2.2.1 27 0 (b_ + k_).toNat)), some (.inl vx9_), some (.inl vx28_)], [], Sx39_)) rfl ?_
      refine sm_T_inc (a := 5) (z := 1) (v := k_) (w := k_ + 1) rfl rfl (by omega) (by omega) (by omega) ?_
      refine sm_T_go 1 (c1 := (6, [some (.inr (.inr (some (1, 0)))), some (.inl a_), some (.inl b_), some (.inl nb_), some (.inl vx44_), some (.inl (k_ + 1)), some (.inl (S_.2.2.1 27 0 (a_ + k_).toNat)), some (.inl (S_.2.2.1 27 0 (b_ + k_).toNat)), some (.inl vx9_), some (.inl vx28_)], [], Sx39_)) rfl ?_
      refine sm_T_wk [some (.inr (.inr (some (1, 0)))), some (.inl a_), some (.inl b_), some (.inl nb_), some (.inl vx44_), some (.inl (k_ + 1)), none, none, none, none] (by exact ⟨rfl, rfl, rfl, rfl, rfl, rfl, trivial⟩) ?_
      refine ih_ vx44_ (k_ + 1) Sx39_ hIx40_ hFx43_ ⟨?_, ?_, ?_, ?_, trivial⟩ ?_
      · omega
      · refine ⟨P5_.2, P5_.1, d_ ++ [P2_.1], r_, e_ ++ [s0_], s_, e82_.1, ?_, ?_, ?_, ?_, ?_, fun z_ => ?_, ?_⟩
        · simp only [List.length_append, List.length_cons, List.length_nil]; push_cast; omega
        · simp only [List.length_append, List.length_cons, List.length_nil]; push_cast; omega
        · simp only [List.length_cons] at z3_; omega
        · simp only [List.length_cons] at z4_; push_cast at z4_; omega
        · rw [z5_, List.append_assoc]; rfl
        · have q1_ := z6_ (by omega)
          refine ⟨e82_.2.1 z_, ?_, ?_⟩
          · exact rwv_set (q_ := (a_ + k_).toNat) q1_.2.1 (by omega) (fun j_ => by rw [g82_, e57_.2.1 (by omega)])
          · exact rwv_cg q1_.2.2 (fun j_ hj_ => by rw [g82_, if_neg (by omega)])
        · rw [z8_, g_su_c, hs3_]
      · intro j_ hj_
        rw [g82_, if_neg (by omega)]
        exact h2_ j_ hj_
      · exact hDx45_
      · omega
set_option maxHeartbeats 1500000 in
theorem vc_41 {sc_ : Nat × (Nat → Int)} (a_ : Int) (b_ : Int) (nb_ : Int) (dd_ : Nat) (F_ : Nat) (G_ : pGr) (x_ : List Int) (y_ : List Int) (S0_ : sm_S) (hI_ : gi S0_) (hd_ : S0_.2.1 1 0 1 = some dd_) (hg_ : cgl dd_ F_ G_ S0_) (ha_ : 0 ≤ a_ ∧ a_ + 8 ≤ b_ ∧ b_ + 8 ≤ 4096) (hn_ : nb_ = (x_.length : Int) ∧ x_.length = y_.length ∧ x_.length ≤ 8) (hr_ : imq (G_.length ≤ 1000) (rwv (S0_.2.2.1 27 0) a_.toNat x_ ∧ rwv (S0_.2.2.1 27 0) b_.toNat y_)) : sm_T (mt_P sc_) 3 41 (0, [some (.inr (.inr (some (1, 0)))), some (.inl a_), some (.inl b_), some (.inl nb_), none, none, none, none, none, none], [], S0_) (fun ro9_ => ∃ u_ S1_, ro9_ = (.inl u_, S1_, 0) ∧ vq_41 a_ b_ nb_ dd_ F_ G_ x_ y_ S0_ u_ S1_) := by
  have hF_ : ai_fr (sx_W vw_41) S0_ S0_ := ai_fr_rf
  have hD_ : idf dd_ S0_ S0_ := idf_rf
  refine sm_T_go 4 (c1 := (6, [some (.inr (.inr (some (1, 0)))), some (.inl a_), some (.inl b_), some (.inl nb_), some (.inl 0), some (.inl 0), none, none, none, none], [], S0_)) rfl ?_
  refine (vl_41 a_ b_ nb_ dd_ F_ G_ x_ y_ S0_ hd_ hg_ ha_ hn_ hr_ _) 0 0 S0_ hI_ hF_ ⟨?_, ?_, ?_, ?_, trivial⟩ (Nat.lt_succ_self _)
  · omega
  · exact ⟨G_, 0, [], x_, [], y_, hg_, rfl, rfl, hn_.2.1, by omega, rfl, fun z_ => ⟨rfl, hr_ z_⟩, rfl⟩
  · (intro j_ hj_; rfl)
  · exact hD_
