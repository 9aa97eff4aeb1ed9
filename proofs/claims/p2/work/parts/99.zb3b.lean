/-! Builder.choose -/
def vw_40 : sx_Wl := ([(1, 6), (1, 8), (3, 4)], [27, 28, 29, 42, 43], [])
def vq_40 (dd_ : Nat) (F_ : Nat) (G_ : pGr) (c_ : Int) (va_ : List Int) (ve_ : List Int) (l_ : gV) (S0_ : sm_S) (u_ : Option sm_V) (S1_ : sm_S) : Prop := u_ = none ∧ gi S1_ ∧ ai_fr (sx_W vw_40) S0_ S1_ ∧ (idf dd_ S0_ S1_ ∧ (cgl dd_ F_ (g_ch F_ c_ G_ va_ ve_).2 S1_ ∧ cstk (g_ch F_ c_ G_ va_ ve_).2 ((g_ch F_ c_ G_ va_ ve_).1 :: l_) S1_))
set_option maxHeartbeats 1500000 in
theorem vl_40 {sc_ : Nat × (Nat → Int)} (dd_ : Nat) (F_ : Nat) (G_ : pGr) (c_ : Int) (va_ : List Int) (ve_ : List Int) (l_ : gV) (S0_ : sm_S) (hd_ : S0_.2.1 1 0 1 = some dd_) (hg_ : cgl dd_ F_ G_ S0_) (ht_ : (S0_.1 1 0 6) = (l_.length : Int) + 3) (hV_ : svl (G_.length ≤ 1000) (S0_.2.2.1 27 0) (S0_.2.2.1 28 0) (ve_ :: va_ :: [c_] :: l_)) (hl_ : va_.length = ve_.length ∧ l_.length ≤ 509) : ∀ nn_ : Nat, (∀ (ro_ : Int) (cd_ : Int) (k_ : Int) (S_ : sm_S), gi S_ → ai_fr (sx_W vw_40) S0_ S_ → (((0 ≤ k_ ∧ k_ ≤ (va_.length : Int)) ∧ (0 ≤ cd_ ∧ cd_ ≤ 2025) ∧ ro_ = 8 * (l_.length : Int) ∧ (S_.1 1 0 6) = (l_.length : Int) + 1) ∧ (∃ (G1_ : pGr) (d_ r_ s_ e1_ e2_ : List Int), cgl dd_ F_ G1_ S_ ∧ (d_.length : Int) = k_ ∧ (e1_.length : Int) = k_ ∧ (e2_.length : Int) = k_ ∧ r_.length = s_.length ∧ k_ + r_.length = va_.length ∧ va_ = e1_ ++ r_ ∧ ve_ = e2_ ++ s_ ∧ (imq (G1_.length ≤ 1000) (cd_ = c_ ∧ rwv (S_.2.2.1 27 0) (8 * l_.length) d_ ∧ rwv (S_.2.2.1 27 0) (8 * l_.length + 8) va_ ∧ rwv (S_.2.2.1 27 0) (8 * l_.length + 16) ve_)) ∧ G_.length ≤ G1_.length ∧ (g_ch F_ c_ G_ va_ ve_) = (d_ ++ (g_ch F_ c_ G1_ r_ s_).1, (g_ch F_ c_ G1_ r_ s_).2)) ∧ (∀ j_, j_ < 8 * l_.length → S_.2.2.1 27 0 j_ = S0_.2.2.1 27 0 j_) ∧ (∀ j_, S_.2.2.1 28 0 j_ = S0_.2.2.1 28 0 j_) ∧ (idf dd_ S0_ S_) ∧ True) → (((va_.length : Int) - k_).toNat) < nn_ → sm_T (mt_P sc_) 3 40 (29, [some (.inr (.inr (some (1, 0)))), some (.inl ro_), some (.inl cd_), some (.inl k_), none, none], [], S_) (fun ro9_ => ∃ u_ S1_, ro9_ = (.inl u_, S1_, 0) ∧ vq_40 dd_ F_ G_ c_ va_ ve_ l_ S0_ u_ S1_)) := by
  intro nn_
  induction nn_ with
  | zero => exact fun _ _ _ _ _ _ _ h_ => absurd h_ (Nat.not_lt_zero _)
  | succ nn_ ih_ =>
    rintro ro_ cd_ k_ S_ hI_ hF_ ⟨h0_, h1_, h2_, h3_, hD_, -⟩ hm_
    obtain ⟨G1_, d_, r_, s_, e1_, e2_, z1_, z2_, z2b, z2c, z3_, z4_, z5_, z5b, z6_, z7_, z8_⟩ := h1_
    have v1_ := hV_.2.2.2.1
    have v2_ := hV_.2.2.2.2.1
    simp only [List.length_cons] at v1_
    have wt : S_.2.2.1 28 0 (S_.1 1 0 6).toNat = (va_.length : Int) := by rw [h3_, show (S_.1 1 0 6).toNat = l_.length + 1 by omega]; exact v1_
    have bx1_ : 0 ≤ S_.1 1 0 6 ∧ S_.1 1 0 6 ≤ 512 := hI_.1 1 0 6 rfl
    refine sm_T_go 5 (c1 := (38, [some (.inr (.inr (some (1, 0)))), some (.inl ro_), some (.inl cd_), some (.inl k_), none, none], [.inl (S_.1 1 0 6), .inr (.inr (some (28, 0))), .inl k_], S_)) rfl ?_
    refine sm_T_iald (n := 512) rfl rfl (by omega) (by omega) ?_
    have bx2_ : 0 ≤ S_.2.2.1 28 0 (S_.1 1 0 6).toNat ∧ S_.2.2.1 28 0 (S_.1 1 0 6).toNat ≤ 8 := hI_.2 28 0 _
    refine sm_T_br (a := 3) (z := 71) rfl (fun cx3_ => ?_) (fun cx3_ => ?_)
    · have cx3_ : (S_.2.2.1 28 0 (S_.1 1 0 6).toNat) ≤ k_ := of_decide_eq_true cx3_
      refine sm_T_go 5 (c1 := (119, [some (.inr (.inr (some (1, 0)))), some (.inl ro_), some (.inl cd_), some (.inl k_), none, none], [.inl 1, .inl (S_.1 1 0 6), .inr (.inr (some (28, 0)))], S_)) rfl ?_
      refine sm_T_bin (w := (S_.1 1 0 6) - 1) rfl (bi_sub (by omega) (by omega) (by omega)) ?_
      refine sm_T_go 4 (c1 := (128, [some (.inr (.inr (some (1, 0)))), some (.inl ro_), some (.inl cd_), some (.inl k_), none, none], [.inl (S_.1 1 0 6), .inr (.inr (some (28, 0))), .inl ((S_.1 1 0 6) - 1), .inr (.inr (some (28, 0)))], S_)) rfl ?_
      refine sm_T_iald (n := 512) rfl rfl (by omega) (by omega) ?_
      refine sm_T_iast (n := 512) rfl rfl (by omega) (by omega) ?_
      have hIx4_ : gi (sm_aI S_ 28 0 ((S_.1 1 0 6) - 1).toNat (S_.2.2.1 28 0 (S_.1 1 0 6).toNat)) := gi_aI hI_ (show 0 ≤ (S_.2.2.1 28 0 (S_.1 1 0 6).toNat) ∧ (S_.2.2.1 28 0 (S_.1 1 0 6).toNat) ≤ 8 from ⟨by omega, by omega⟩)
      have hFx5_ : ai_fr (sx_W vw_40) S0_ (sm_aI S_ 28 0 ((S_.1 1 0 6) - 1).toNat (S_.2.2.1 28 0 (S_.1 1 0 6).toNat)) := ai_fr_tr hF_ (ai_fr_aI rfl)
      have hDx6_ : idf dd_ S0_ (sm_aI S_ 28 0 ((S_.1 1 0 6) - 1).toNat (S_.2.2.1 28 0 (S_.1 1 0 6).toNat)) := idf_aI hD_ (Or.inl (by decide))
      refine sm_T_rv rfl ⟨_, _, rfl, rfl, hIx4_, hFx5_, ?_⟩
      refine ⟨hDx6_, ?_⟩
      have kr_ : r_ = [] := List.eq_nil_of_length_eq_zero (by omega)
      have ks_ : s_ = [] := List.eq_nil_of_length_eq_zero (by omega)
      rw [kr_, ks_] at z8_
      have q8_ : g_ch F_ c_ G1_ [] [] = ([], G1_) := rfl
      rw [q8_, List.append_nil] at z8_
      rw [z8_]
      refine ⟨cgl_fr (w_ := ([], [28], [])) z1_ (ai_fr_aI rfl) rfl rfl rfl rfl rfl rfl rfl rfl, by show S_.1 1 0 6 = _; rw [List.length_cons]; push_cast; omega, svl_tp hV_.2.2.2.2.2.2.2.2.2 (fun z_ => Nat.le_trans z7_ z_) (fun j_ hj_ => h2_ j_ hj_) (fun j_ hj_ => ?_) ?_ (show 1 ≤ d_.length ∧ d_.length ≤ 8 by omega) (fun z_ => (z6_ z_).2.1)⟩
      · rw [rd_eq, if_neg (by omega), h3_]
      · rw [rd_eq, if_pos (by omega)]; show _ = (d_.length : Int); omega
    · have cx3_ : ¬ ((S_.2.2.1 28 0 (S_.1 1 0 6).toNat) ≤ k_) := of_decide_eq_false cx3_
      obtain ⟨r0_, r_, rfl⟩ : ∃ r0_ r1_, r_ = r0_ :: r1_ := by cases r_ with | nil => (simp only [List.length_nil] at z4_; omega) | cons p_ q_ => exact ⟨p_, q_, rfl⟩
      obtain ⟨s0_, s_, rfl⟩ : ∃ s0_ s1_, s_ = s0_ :: s1_ := by cases s_ with | nil => (simp only [List.length_nil, List.length_cons] at z3_ z4_; omega) | cons p_ q_ => exact ⟨p_, q_, rfl⟩
      have rx : imq (G1_.length ≤ 1000) (S_.2.2.1 27 0 (8 * S_.1 1 0 6 + k_).toNat = r0_ ∧ S_.2.2.1 27 0 (8 * S_.1 1 0 6 + k_ + 8).toNat = s0_) := fun z_ => by rw [show (8 * S_.1 1 0 6 + k_).toNat = 8 * l_.length + 8 + e1_.length by omega, show (8 * S_.1 1 0 6 + k_ + 8).toNat = 8 * l_.length + 16 + e2_.length by omega]; exact ⟨rwv_m (by rw [← z5_]; exact (z6_ z_).2.2.1), rwv_m (by rw [← z5b]; exact (z6_ z_).2.2.2)⟩
      obtain ⟨P1_, hP1_⟩ : ∃ z_, z_ = g_an F_ G1_ c_ r0_ := ⟨_, rfl⟩
      have lP1_ : G1_.length ≤ P1_.2.length := by rw [hP1_]; exact g_an_le.1
      obtain ⟨P2_, hP2_⟩ : ∃ z_, z_ = g_an F_ P1_.2 (i_xor c_ 1) s0_ := ⟨_, rfl⟩
      have lP2_ : P1_.2.length ≤ P2_.2.length := by rw [hP2_]; exact g_an_le.1
      obtain ⟨P3_, hP3_⟩ : ∃ z_, z_ = g_or F_ P2_.2 P1_.1 P2_.1 := ⟨_, rfl⟩
      have lP3_ : P2_.2.length ≤ P3_.2.length := by rw [hP3_]; exact g_or_le
      have hc3_ : g_c3 F_ G1_ c_ r0_ s0_ = P3_ := by rw [hP3_, hP2_, hP1_]; rfl
      refine sm_T_go 7 (c1 := (54, [some (.inr (.inr (some (1, 0)))), some (.inl ro_), some (.inl cd_), some (.inl k_), none, none], [.inl 8, .inl (S_.1 1 0 6), .inr (.inr (some (27, 0))), .inl cd_, .inr (.inr (some (1, 0)))], S_)) rfl ?_
      refine sm_T_bin (w := 8 * (S_.1 1 0 6)) rfl (bi_mul (by omega) (by omega) (by omega)) ?_
      refine sm_T_go 1 (c1 := (56, [some (.inr (.inr (some (1, 0)))), some (.inl ro_), some (.inl cd_), some (.inl k_), none, none], [.inl k_, .inl (8 * (S_.1 1 0 6)), .inr (.inr (some (27, 0))), .inl cd_, .inr (.inr (some (1, 0)))], S_)) rfl ?_
      refine sm_T_bin (w := 8 * (S_.1 1 0 6) + k_) rfl (bi_add (by omega) (by omega) (by omega)) ?_
      refine sm_T_iald (n := 4096) rfl rfl (by omega) (by omega) ?_
      have bx7_ : 0 ≤ S_.2.2.1 27 0 (8 * (S_.1 1 0 6) + k_).toNat ∧ S_.2.2.1 27 0 (8 * (S_.1 1 0 6) + k_).toNat ≤ 2025 := hI_.2 27 0 _
      refine sm_T_cal (d1 := 1) (Q1 := vq_44 cd_ (S_.2.2.1 27 0 (8 * (S_.1 1 0 6) + k_).toNat) dd_ F_ G1_ c_ r0_ S_) rfl rfl (by decide) (vc_44 cd_ (S_.2.2.1 27 0 (8 * (S_.1 1 0 6) + k_).toNat) dd_ F_ G1_ c_ r0_ S_ hI_ (by exact cgl_d z1_) (by exact z1_) (by omega) (by omega) (by (intro z_; exact ⟨(z6_ z_).1, (rx z_).1⟩))) (fun u_ Sx8_ px11_ => ?_)
      obtain ⟨vx13_, rfl, hIx9_, hFx10_, px11_⟩ := px11_
      have hFx12_ : ai_fr (sx_W vw_40) S0_ Sx8_ := ai_fr_tr hF_ (fr_le hFx10_ rfl)
      obtain ⟨dx15_, px11_⟩ := px11_
      have hDx14_ : idf dd_ S0_ Sx8_ := idf_tr hD_ dx15_
      have ex16_ : Sx8_.1 1 0 6 = S_.1 1 0 6 := hFx10_.1 1 0 6 rfl
      have e58_ := px11_
      rw [← hP1_] at e58_
      have f58_ : Sx8_.2.2.1 27 0 = S_.2.2.1 27 0 := fr_arr hFx10_ rfl
      have t58_ : Sx8_.1 1 0 6 = S_.1 1 0 6 := hFx10_.1 1 0 6 rfl
      have w58_ : Sx8_.2.2.1 28 0 = S_.2.2.1 28 0 := fr_arr hFx10_ rfl
      refine sm_T_go 4 (c1 := (66, [some (.inr (.inr (some (1, 0)))), some (.inl ro_), some (.inl cd_), some (.inl k_), some (.inl vx13_), none], [.inl 1, .inl cd_, .inr (.inr (some (1, 0)))], Sx8_)) rfl ?_
      refine sm_T_bin (w := (i_xor cd_ 1)) rfl rfl ?_
      have bx17_ := i_x1 (x_ := cd_) (by omega)
      have bx18_ : 0 ≤ Sx8_.1 1 0 6 ∧ Sx8_.1 1 0 6 ≤ 512 := hIx9_.1 1 0 6 rfl
      refine sm_T_go 5 (c1 := (76, [some (.inr (.inr (some (1, 0)))), some (.inl ro_), some (.inl cd_), some (.inl k_), some (.inl vx13_), none], [.inl 1, .inl (Sx8_.1 1 0 6), .inr (.inr (some (27, 0))), .inl (i_xor cd_ 1), .inr (.inr (some (1, 0)))], Sx8_)) rfl ?_
      refine sm_T_bin (w := (Sx8_.1 1 0 6) + 1) rfl (bi_add (by omega) (by omega) (by omega)) ?_
      refine sm_T_go 1 (c1 := (79, [some (.inr (.inr (some (1, 0)))), some (.inl ro_), some (.inl cd_), some (.inl k_), some (.inl vx13_), none], [.inl 8, .inl ((Sx8_.1 1 0 6) + 1), .inr (.inr (some (27, 0))), .inl (i_xor cd_ 1), .inr (.inr (some (1, 0)))], Sx8_)) rfl ?_
      refine sm_T_bin (w := 8 * (Sx8_.1 1 0 6) + 8) rfl (bi_mul (by omega) (by omega) (by omega)) ?_
      refine sm_T_go 1 (c1 := (81, [some (.inr (.inr (some (1, 0)))), some (.inl ro_), some (.inl cd_), some (.inl k_), some (.inl vx13_), none], [.inl k_, .inl (8 * (Sx8_.1 1 0 6) + 8), .inr (.inr (some (27, 0))), .inl (i_xor cd_ 1), .inr (.inr (some (1, 0)))], Sx8_)) rfl ?_
      refine sm_T_bin (w := 8 * (Sx8_.1 1 0 6) + k_ + 8) rfl (bi_add (by omega) (by omega) (by omega)) ?_
      refine sm_T_iald (n := 4096) rfl rfl (by omega) (by omega) ?_
      have bx19_ : 0 ≤ Sx8_.2.2.1 27 0 (8 * (Sx8_.1 1 0 6) + k_ + 8).toNat ∧ Sx8_.2.2.1 27 0 (8 * (Sx8_.1 1 0 6) + k_ + 8).toNat ≤ 2025 := hIx9_.2 27 0 _
      refine sm_T_cal (d1 := 1) (Q1 := vq_44 (i_xor cd_ 1) (Sx8_.2.2.1 27 0 (8 * (Sx8_.1 1 0 6) + k_ + 8).toNat) dd_ F_ P1_.2 (i_xor c_ 1) s0_ Sx8_) rfl rfl (by decide) (vc_44 (i_xor cd_ 1) (Sx8_.2.2.1 27 0 (8 * (Sx8_.1 1 0 6) + k_ + 8).toNat) dd_ F_ P1_.2 (i_xor c_ 1) s0_ Sx8_ hIx9_ (by exact cgl_d e58_.1) (by exact e58_.1) (by omega) (by omega) (by (intro z_; refine ⟨by rw [(z6_ (by omega)).1], ?_⟩; rw [t58_, f58_]; first | exact (rx (by omega)).2 | (rw [← (rx (by omega)).2]; congr 1; omega)))) (fun u_ Sx20_ px23_ => ?_)
      obtain ⟨vx25_, rfl, hIx21_, hFx22_, px23_⟩ := px23_
      have hFx24_ : ai_fr (sx_W vw_40) S0_ Sx20_ := ai_fr_tr hFx12_ (fr_le hFx22_ rfl)
      obtain ⟨dx27_, px23_⟩ := px23_
      have hDx26_ : idf dd_ S0_ Sx20_ := idf_tr hDx14_ dx27_
      have ex28_ : Sx20_.1 1 0 6 = Sx8_.1 1 0 6 := hFx22_.1 1 0 6 rfl
      have e83_ := px23_
      rw [← hP2_] at e83_
      have f83_ : Sx20_.2.2.1 27 0 = S_.2.2.1 27 0 := (fr_arr hFx22_ rfl).trans f58_
      have t83_ : Sx20_.1 1 0 6 = S_.1 1 0 6 := (hFx22_.1 1 0 6 rfl).trans t58_
      have w83_ : Sx20_.2.2.1 28 0 = S_.2.2.1 28 0 := (fr_arr hFx22_ rfl).trans w58_
      refine sm_T_go 5 (c1 := (94, [some (.inr (.inr (some (1, 0)))), some (.inl ro_), some (.inl cd_), some (.inl k_), some (.inl vx13_), some (.inl vx25_)], [.inl k_, .inl ro_, .inr (.inr (some (27, 0)))], Sx20_)) rfl ?_
      refine sm_T_bin (w := ro_ + k_) rfl (bi_add (by omega) (by omega) (by omega)) ?_
      refine sm_T_go 3 (c1 := (100, [some (.inr (.inr (some (1, 0)))), some (.inl ro_), some (.inl cd_), some (.inl k_), some (.inl vx13_), some (.inl vx25_)], [.inl vx25_, .inl vx13_, .inr (.inr (some (1, 0))), .inl (ro_ + k_), .inr (.inr (some (27, 0)))], Sx20_)) rfl ?_
      refine sm_T_cal (d1 := 2) (Q1 := vq_42 vx13_ vx25_ dd_ F_ P2_.2 P1_.1 P2_.1 Sx20_) rfl rfl (by decide) (vc_42 vx13_ vx25_ dd_ F_ P2_.2 P1_.1 P2_.1 Sx20_ hIx21_ (by exact cgl_d e83_.1) (by exact e83_.1) (by omega) (by omega) (by (intro z_; exact ⟨e58_.2.1 (by omega), e83_.2.1 (by omega)⟩))) (fun u_ Sx29_ px32_ => ?_)
      obtain ⟨vx34_, rfl, hIx30_, hFx31_, px32_⟩ := px32_
      have hFx33_ : ai_fr (sx_W vw_40) S0_ Sx29_ := ai_fr_tr hFx24_ (fr_le hFx31_ rfl)
      obtain ⟨dx36_, px32_⟩ := px32_
      have hDx35_ : idf dd_ S0_ Sx29_ := idf_tr hDx26_ dx36_
      have e100_ := px32_
      rw [← hP3_] at e100_
      have f100_ : Sx29_.2.2.1 27 0 = S_.2.2.1 27 0 := (fr_arr hFx31_ rfl).trans f83_
      have t100_ : Sx29_.1 1 0 6 = S_.1 1 0 6 := (hFx31_.1 1 0 6 rfl).trans t83_
      have w100_ : Sx29_.2.2.1 28 0 = S_.2.2.1 28 0 := (fr_arr hFx31_ rfl).trans w83_
      have g100_ : ∀ z9_ : Int, ∀ j9_ : Nat, (sm_aI Sx29_ 27 0 (ro_ + k_).toNat z9_).2.2.1 27 0 j9_ = if j9_ = (ro_ + k_).toNat then z9_ else S_.2.2.1 27 0 j9_ := fun z9_ j9_ => by rw [rd_eq, f100_]
      refine sm_T_iast (n := 4096) rfl rfl (by omega) (by omega) ?_
      have hIx37_ : gi (sm_aI Sx29_ 27 0 (ro_ + k_).toNat vx34_) := gi_aI hIx30_ (show 0 ≤ vx34_ ∧ vx34_ ≤ 2025 from ⟨by omega, by omega⟩)
      have hFx38_ : ai_fr (sx_W vw_40) S0_ (sm_aI Sx29_ 27 0 (ro_ + k_).toNat vx34_) := ai_fr_tr hFx33_ (ai_fr_aI rfl)
      have hDx39_ : idf dd_ S0_ (sm_aI Sx29_ 27 0 (ro_ + k_).toNat vx34_) := idf_aI hDx35_ (Or.inl (by decide))
      refine sm_T_inc (a := 3) (z := 1) (v := k_) (w := k_ + 1) rfl rfl (by omega) (by omega) (by omega) ?_
      refine sm_T_go 1 (c1 := (29, [some (.inr (.inr (some (1, 0)))), some (.inl ro_), some (.inl cd_), some (.inl (k_ + 1)), some (.inl vx13_), some (.inl vx25_)], [], sm_aI Sx29_ 27 0 (ro_ + k_).toNat vx34_)) rfl ?_
      refine sm_T_wk [some (.inr (.inr (some (1, 0)))), some (.inl ro_), some (.inl cd_), some (.inl (k_ + 1)), none, none] (by exact ⟨rfl, rfl, rfl, rfl, trivial⟩) ?_
      refine ih_ ro_ cd_ (k_ + 1) (sm_aI Sx29_ 27 0 (ro_ + k_).toNat vx34_) hIx37_ hFx38_ ⟨?_, ?_, ?_, ?_, ?_, trivial⟩ ?_
      · (try simp only [rd_eq, rd_ne, rf_eq, rf_nk, rf_nt, rd_fa, rd_af, rd_fl, rd_al, rd_lf, rd_la, rd_leq, rd_lne, rd_fr, rd_ar, ne_eq, Nat.reduceEqDiff, not_false_eq_true]); omega
      · refine ⟨P3_.2, d_ ++ [P3_.1], r_, s_, e1_ ++ [r0_], e2_ ++ [s0_], cgl_st e100_.1, ?_, ?_, ?_, ?_, ?_, ?_, ?_, fun z_ => ?_, ?_, ?_⟩
        · simp only [List.length_append, List.length_cons, List.length_nil]; push_cast; omega
        · simp only [List.length_append, List.length_cons, List.length_nil]; push_cast; omega
        · simp only [List.length_append, List.length_cons, List.length_nil]; push_cast; omega
        · simp only [List.length_cons] at z3_; omega
        · simp only [List.length_cons] at z4_; push_cast at z4_; omega
        · rw [z5_, List.append_assoc]; rfl
        · rw [z5b, List.append_assoc]; rfl
        · have q1_ := z6_ (by omega)
          refine ⟨q1_.1, ?_, ?_, ?_⟩
          · exact rwv_ap (q_ := (ro_ + k_).toNat) q1_.2.1 (by omega) (fun j_ => by rw [g100_, e100_.2.1 z_])
          · exact rwv_cg q1_.2.2.1 (fun j_ hj_ => by rw [g100_, if_neg (by omega)])
          · exact rwv_cg q1_.2.2.2 (fun j_ hj_ => by rw [g100_, if_neg (by omega)])
        · omega
        · have q9_ := g_z2_c (op_ := fun G_ a_ b_ => g_c3 F_ G_ c_ a_ b_) (G_ := G1_) (a_ := r0_) (b_ := s0_) (x_ := r_) (y_ := s_) (d_ := d_); rw [hc3_] at q9_; rw [z8_]; exact q9_
      · intro j_ hj_
        rw [g100_, if_neg (by omega)]
        exact h2_ j_ hj_
      · intro j_
        rw [rd_ne (by decide), w100_]
        exact h3_ j_
      · exact hDx39_
      · omega
set_option maxHeartbeats 1500000 in
theorem vc_40 {sc_ : Nat × (Nat → Int)} (dd_ : Nat) (F_ : Nat) (G_ : pGr) (c_ : Int) (va_ : List Int) (ve_ : List Int) (l_ : gV) (S0_ : sm_S) (hI_ : gi S0_) (hd_ : S0_.2.1 1 0 1 = some dd_) (hg_ : cgl dd_ F_ G_ S0_) (ht_ : (S0_.1 1 0 6) = (l_.length : Int) + 3) (hV_ : svl (G_.length ≤ 1000) (S0_.2.2.1 27 0) (S0_.2.2.1 28 0) (ve_ :: va_ :: [c_] :: l_)) (hl_ : va_.length = ve_.length ∧ l_.length ≤ 509) : sm_T (mt_P sc_) 3 40 (0, [some (.inr (.inr (some (1, 0)))), none, none, none, none, none], [], S0_) (fun ro9_ => ∃ u_ S1_, ro9_ = (.inl u_, S1_, 0) ∧ vq_40 dd_ F_ G_ c_ va_ ve_ l_ S0_ u_ S1_) := by
  have hF_ : ai_fr (sx_W vw_40) S0_ S0_ := ai_fr_rf
  have hD_ : idf dd_ S0_ S0_ := idf_rf
  have v1_ := hV_.2.2.2.1
  have v2_ := hV_.2.2.2.2.1
  simp only [List.length_cons] at v1_
  have bx1_ : 0 ≤ S0_.1 1 0 6 ∧ S0_.1 1 0 6 ≤ 512 := hI_.1 1 0 6 rfl
  refine sm_T_go 4 (c1 := (6, [some (.inr (.inr (some (1, 0)))), none, none, none, none, none], [.inl 2, .inl (S0_.1 1 0 6), .inr (.inr (some (1, 0)))], S0_)) rfl ?_
  refine sm_T_bin (w := (S0_.1 1 0 6) - 2) rfl (bi_sub (by omega) (by omega) (by omega)) ?_
  have hIx2_ : gi (sm_pI S0_ 1 0 6 ((S0_.1 1 0 6) - 2)) := gi_pI hI_ (show 0 ≤ (S0_.1 1 0 6) - 2 ∧ (S0_.1 1 0 6) - 2 ≤ 512 from ⟨by omega, by omega⟩)
  have hFx3_ : ai_fr (sx_W vw_40) S0_ (sm_pI S0_ 1 0 6 ((S0_.1 1 0 6) - 2)) := ai_fr_tr hF_ (ai_fr_pI rfl)
  have hDx4_ : idf dd_ S0_ (sm_pI S0_ 1 0 6 ((S0_.1 1 0 6) - 2)) := idf_pI hD_ (Or.inl (by decide))
  refine sm_T_go 4 (c1 := (15, [some (.inr (.inr (some (1, 0)))), none, none, none, none, none], [.inl 1, .inl ((S0_.1 1 0 6) - 2)], sm_pI S0_ 1 0 6 ((S0_.1 1 0 6) - 2))) rfl ?_
  refine sm_T_bin (w := (S0_.1 1 0 6) - 3) rfl (bi_sub (by omega) (by omega) (by omega)) ?_
  refine sm_T_go 1 (c1 := (18, [some (.inr (.inr (some (1, 0)))), none, none, none, none, none], [.inl 8, .inl ((S0_.1 1 0 6) - 3)], sm_pI S0_ 1 0 6 ((S0_.1 1 0 6) - 2))) rfl ?_
  refine sm_T_bin (w := 8 * (S0_.1 1 0 6) - 24) rfl (bi_mul (by omega) (by omega) (by omega)) ?_
  refine sm_T_go 4 (c1 := (25, [some (.inr (.inr (some (1, 0)))), some (.inl (8 * (S0_.1 1 0 6) - 24)), none, none, none, none], [.inl (8 * (S0_.1 1 0 6) - 24), .inr (.inr (some (27, 0)))], sm_pI S0_ 1 0 6 ((S0_.1 1 0 6) - 2))) rfl ?_
  refine sm_T_iald (n := 4096) rfl rfl (by omega) (by omega) ?_
  have bx5_ : 0 ≤ S0_.2.2.1 27 0 (8 * (S0_.1 1 0 6) - 24).toNat ∧ S0_.2.2.1 27 0 (8 * (S0_.1 1 0 6) - 24).toNat ≤ 2025 := hI_.2 27 0 _
  refine sm_T_go 3 (c1 := (29, [some (.inr (.inr (some (1, 0)))), some (.inl (8 * (S0_.1 1 0 6) - 24)), some (.inl (S0_.2.2.1 27 0 (8 * (S0_.1 1 0 6) - 24).toNat)), some (.inl 0), none, none], [], sm_pI S0_ 1 0 6 ((S0_.1 1 0 6) - 2))) rfl ?_
  refine (vl_40 dd_ F_ G_ c_ va_ ve_ l_ S0_ hd_ hg_ ht_ hV_ hl_ _) (8 * (S0_.1 1 0 6) - 24) (S0_.2.2.1 27 0 (8 * (S0_.1 1 0 6) - 24).toNat) 0 (sm_pI S0_ 1 0 6 ((S0_.1 1 0 6) - 2)) hIx2_ hFx3_ ⟨?_, ?_, ?_, ?_, ?_, trivial⟩ (Nat.lt_succ_self _)
  · (try simp only [rd_eq, rd_ne, rf_eq, rf_nk, rf_nt, rd_fa, rd_af, rd_fl, rd_al, rd_lf, rd_la, rd_leq, rd_lne, rd_fr, rd_ar, ne_eq, Nat.reduceEqDiff, not_false_eq_true]); omega
  · refine ⟨G_, [], va_, ve_, [], [], cgl_fr (w_ := ([(1, 6)], [], [])) hg_ (ai_fr_pI rfl) rfl rfl rfl rfl rfl rfl rfl rfl, rfl, rfl, rfl, hl_.1, by omega, rfl, rfl, fun z_ => ⟨?_, ?_, ?_, ?_⟩, Nat.le_refl _, rfl⟩
    · exact (congrArg (S0_.2.2.1 27 0) (show _ = 8 * l_.length + 0 by omega)).trans (hV_.2.2.2.2.2.2.2.2.1 z_ 0 c_ rfl)
    · intro k9_ z9_ e9_; simp at e9_
    · have q_ := hV_.2.2.2.2.2.1 z_; exact q_
    · have q_ := hV_.2.2.1 z_; exact q_
  · (intro j_ hj_; rfl)
  · (intro j_; rfl)
  · exact hDx4_
