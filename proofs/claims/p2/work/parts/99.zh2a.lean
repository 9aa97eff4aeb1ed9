/-! the class: design; written by wip/p55/gen/vg -/

/-! the_ class: a_ text becomes a_ design -/
/-- a_ text that is_ a_ design -/
def dacc (b_ : Nat → Int) (n_ : Nat) : Prop := ∃ r_ z_, p_de b_ n_ = .inr r_ ∧ d_lm r_ = 0 ∧ d_gr r_ z_ ∧ z_.1.1.length ≤ 1000
theorem dacc_l {b_ : Nat → Int} {n_ : Nat} {e_ : Int × Nat} (h_ : p_de b_ n_ = .inl e_) : ¬ dacc b_ n_ := by
  rintro ⟨r_, z_, h1_, -⟩
  rw [h_] at h1_
  cases h1_
theorem dacc_r {b_ : Nat → Int} {n_ : Nat} {r_ : pD} (h_ : p_de b_ n_ = .inr r_) (hq_ : d_lm r_ ≠ 0 ∨ (d_lm r_ = 0 ∧ ∃ z_, d_gr r_ z_ ∧ 1000 < z_.1.1.length)) : ¬ dacc b_ n_ := by
  rintro ⟨r1_, z1_, h1_, h2_, h3_, h4_⟩
  rw [h_] at h1_
  cases h1_
  rcases hq_ with q_ | ⟨-, z_, q1_, q2_⟩
  · exact q_ h2_
  · unfold d_gr at q1_ h3_
    rw [q1_] at h3_
    cases h3_
    omega
/-! ChipFlow.design -/
def vw_213 : sx_Wl := ([(1, 3), (1, 6), (1, 8), (1, 9), (1, 13), (3, 0), (3, 1), (3, 2), (3, 3), (3, 4), (3, 5), (3, 6), (3, 7), (3, 8), (3, 9), (7, 2), (7, 3), (7, 14), (7, 16), (7, 17), (10, 1), (10, 2), (10, 3), (10, 4), (10, 5), (10, 6), (10, 7), (10, 8), (12, 10)], [26, 27, 28, 29, 30, 31, 32, 33, 42, 43, 44, 45, 46, 47, 74, 75, 76, 77, 78, 79, 80, 81, 82, 83, 84], [(1, 1), (7, 11)])
def vq_213 (b_ : Nat → Int) (n_ : Nat) (S0_ : sm_S) (u_ : Option sm_V) (S1_ : sm_S) : Prop := ∃ v_ : Int, u_ = some (.inl v_) ∧ gi S1_ ∧ ai_fr (sx_W vw_213) S0_ S1_ ∧ (∃ sl_ : Nat, sl_ < 6 ∧ S0_.1 3 sl_ 0 = 0 ∧ (∀ j_ : Nat, j_ < sl_ → S0_.1 3 j_ 0 = 1) ∧ (S1_.1 10 0 1) = 0 ∧ idf sl_ S0_ S1_ ∧ ((dacc b_ n_ ∧ S1_.1 3 sl_ 0 = 1 ∧ dOk sl_ S1_) ∨ (¬ dacc b_ n_ ∧ S1_.1 3 sl_ 0 = 0)))
def vx_213 (b_ : Nat → Int) (n_ : Nat) (S0_ : sm_S) (S1_ : sm_S) : Prop := gi S1_ ∧ ai_fr (sx_W vw_213) S0_ S1_ ∧ ((∀ j_ : Nat, j_ < 6 → S0_.1 3 j_ 0 = 1) ∧ S1_ = S0_)
set_option maxHeartbeats 2000000 in
theorem vc_213 {sc_ : Nat × (Nat → Int)} (b_ : Nat → Int) (n_ : Nat) (S0_ : sm_S) (hI_ : gi S0_) (hb_ : S0_.2.2.1 98 0 = b_) (hn_ : (S0_.1 10 0 1) = (n_ : Int)) (hn1_ : n_ ≤ 1280) : sm_T (mt_P sc_) 28 213 (0, [some (.inr (.inr (some (12, 0)))), none, none, none], [], S0_) (fun ro9_ => (∃ u_ S1_ k9_, ro9_ = (.inl u_, S1_, k9_) ∧ k9_ ≤ 1 ∧ vq_213 b_ n_ S0_ u_ S1_) ∨ ∃ S1_, ro9_ = (.inr 3, S1_, 1) ∧ vx_213 b_ n_ S0_ S1_) := by
  have hF_ : ai_fr (sx_W vw_213) S0_ S0_ := ai_fr_rf
  refine sm_T_go 1 (c1 := (1, [some (.inr (.inr (some (12, 0)))), none, none, none], [.inr (.inr (some (12, 0)))], S0_)) rfl ?_
  refine sm_T_cal (d1 := 0) (Q1 := vq_273  S0_) rfl rfl (by decide) (vc_273  S0_ hI_ ) (fun u_ Sx1_ px4_ => ?_)
  obtain ⟨rfl, vx6_, rfl, px4_⟩ := px4_
  obtain ⟨sl_, hsl_⟩ : ∃ sl_ : Nat, (vx6_ = -1 ∧ ∀ j_ : Nat, j_ < 6 → S0_.1 3 j_ 0 = 1) ∨ (vx6_ = (sl_ : Int) ∧ sl_ < 6 ∧ S0_.1 3 sl_ 0 = 0 ∧ ∀ j_ : Nat, j_ < sl_ → S0_.1 3 j_ 0 = 1) := by rcases px4_ with z_ | ⟨u_, z_⟩; exact ⟨0, Or.inl z_⟩; exact ⟨u_, Or.inr z_⟩
  clear px4_
  obtain ⟨sv_, hsv_⟩ : ∃ sv_, sv_ = vx6_ := ⟨_, rfl⟩
  rw [← hsv_] at hsl_
  refine sm_T_go 3 (c1 := (7, [some (.inr (.inr (some (12, 0)))), some (.inl vx6_), none, none], [.inl (-1), .inl vx6_], S0_)) rfl ?_
  refine sm_T_br (a := 0) (z := 7) rfl (fun cx7_ => ?_) (fun cx7_ => ?_)
  · have cx7_ : vx6_ = (-1) := of_decide_eq_true cx7_
    have ha0_ : ∀ j_ : Nat, j_ < 6 → S0_.1 3 j_ 0 = 1 := by rcases hsl_ with z_ | z_; exact z_.2; (exfalso; have := z_.1; omega)
    refine sm_T_go 1 (c1 := (15, [some (.inr (.inr (some (12, 0)))), some (.inl vx6_), none, none], [.inl 0], S0_)) rfl ?_
    refine sm_T_calg (d1_ := 0) (ex_ := 3) (Q1_ := vq_268 0 S0_) (Q2_ := vx_268 0 S0_) rfl rfl (by decide) (vc_268 0 S0_ hI_ ) rfl rfl (fun Sx8_ px11_ => ?_) (fun u_ Sx8_ px11_ => ?_)
    · obtain ⟨hIx9_, hFx10_, px11_⟩ := px11_
      refine Or.inr ⟨_, rfl, hIx9_, ai_fr_tr hF_ (fr_le hFx10_ rfl), ?_⟩
      obtain ⟨z1_, z2_⟩ := px11_
      first | (exact absurd z1_ (by decide)) | (exact ⟨ha0_, z2_⟩)
    obtain ⟨rfl, hIx9_, hFx10_, px11_⟩ := px11_
    have hFx12_ : ai_fr (sx_W vw_213) S0_ Sx8_ := ai_fr_tr hF_ (fr_le hFx10_ rfl)
    have e15_ := px11_
    obtain ⟨hs1_, hs2_, hs3_, hs4_⟩ : sv_ = (sl_ : Int) ∧ sl_ < 6 ∧ S0_.1 3 sl_ 0 = 0 ∧ ∀ j_ : Nat, j_ < sl_ → S0_.1 3 j_ 0 = 1 := by first | (exact absurd rfl e15_) | (rcases hsl_ with z_ | z_; (exact absurd z_.1 nv_); exact z_)
    clear hsl_
    have hb15_ := (fr_arr (t := 98) (i := 0) hFx10_ rfl).trans hb_
    have hn15_ := (hFx10_.1 10 0 1 rfl).trans hn_
    have d15_ : idf sl_ S0_ Sx8_ := idf_fr hFx10_ (by decide) (by decide)
    have u15_ : Sx8_.1 3 sl_ 0 = S0_.1 3 sl_ 0 := hFx10_.1 3 sl_ 0 rfl
    have hIx13_ : gi (sm_pI Sx8_ 12 0 10 0) := gi_pI hIx9_ (show 0 ≤ 0 ∧ 0 ≤ 23 from ⟨by omega, by omega⟩)
    have hFx14_ : ai_fr (sx_W vw_213) S0_ (sm_pI Sx8_ 12 0 10 0) := ai_fr_tr hFx12_ (ai_fr_pI rfl)
    refine sm_T_go 7 (c1 := (29, [some (.inr (.inr (some (12, 0)))), some (.inl vx6_), some (.inl vx6_), none], [.inr (.inr (some (7, 0)))], sm_pI Sx8_ 12 0 10 0)) rfl ?_
    refine sm_T_calh (d1_ := 7) (ex_ := 2) (Q1_ := vq_115 b_ n_ (sm_pI Sx8_ 12 0 10 0)) (Q2_ := vx_115 b_ n_ (sm_pI Sx8_ 12 0 10 0)) rfl rfl (by decide) (vc_115 b_ n_ (sm_pI Sx8_ 12 0 10 0) hIx13_ (by exact hb15_) (by exact hn15_) (by exact hn1_)) rfl rfl (Nat.le_of_ble_eq_true rfl) (fun Sx15_ px18_ => ?_) (fun u_ Sx15_ px18_ => ?_)
    · obtain ⟨hIx16_, hFx17_, px18_⟩ := px18_
      have hFx19_ : ai_fr (sx_W vw_213) S0_ Sx15_ := ai_fr_tr hFx14_ (fr_le hFx17_ rfl)
      obtain ⟨e9_, w1_, -⟩ := px18_
      have na_ := dacc_l w1_
      have dz_ : idf sl_ S0_ Sx15_ := idf_tr (idf_pI d15_ (Or.inl (by decide))) (idf_fr hFx17_ (by decide) (by decide))
      have uz_ : Sx15_.1 3 sl_ 0 = 0 := ((hFx17_.1 3 sl_ 0 rfl).trans (rf_nt (by decide))).trans (u15_.trans hs3_)
      refine sm_T_go 0 (c1 := (49, [some (.inr (.inr (some (12, 0)))), some (.inl vx6_), some (.inl vx6_), none], [], Sx15_)) rfl ?_
      have bx20_ : 0 ≤ Sx15_.1 10 0 6 ∧ Sx15_.1 10 0 6 ≤ 23 := hIx16_.1 10 0 6 rfl
      have hIx21_ : gi (sm_pI Sx15_ 12 0 10 (Sx15_.1 10 0 6)) := gi_pI hIx16_ (show 0 ≤ (Sx15_.1 10 0 6) ∧ (Sx15_.1 10 0 6) ≤ 23 from ⟨by omega, by omega⟩)
      have hFx22_ : ai_fr (sx_W vw_213) S0_ (sm_pI Sx15_ 12 0 10 (Sx15_.1 10 0 6)) := ai_fr_tr hFx19_ (ai_fr_pI rfl)
      have bx23_ : 0 ≤ Sx15_.1 10 0 7 ∧ Sx15_.1 10 0 7 ≤ 4095 := hIx16_.1 10 0 7 rfl
      refine sm_T_go 9 (c1 := (68, [some (.inr (.inr (some (12, 0)))), some (.inl vx6_), some (.inl vx6_), none], [.inl (Sx15_.1 10 0 7), .inl (-1)], sm_pI Sx15_ 12 0 10 (Sx15_.1 10 0 6))) rfl ?_
      refine sm_T_bin (w := -(Sx15_.1 10 0 7) - 1) rfl (bi_sub (by omega) (by omega) (by omega)) ?_
      have hIx24_ : gi (sm_pI (sm_pI Sx15_ 12 0 10 (Sx15_.1 10 0 6)) 10 0 1 0) := gi_pI hIx21_ (show 0 ≤ 0 ∧ 0 ≤ 1280 from ⟨by omega, by omega⟩)
      have hFx25_ : ai_fr (sx_W vw_213) S0_ (sm_pI (sm_pI Sx15_ 12 0 10 (Sx15_.1 10 0 6)) 10 0 1 0) := ai_fr_tr hFx22_ (ai_fr_pI rfl)
      refine sm_T_go 6 (c1 := (79, [some (.inr (.inr (some (12, 0)))), some (.inl vx6_), some (.inl (-(Sx15_.1 10 0 7) - 1)), none], [.inl (-(Sx15_.1 10 0 7) - 1)], sm_pI (sm_pI Sx15_ 12 0 10 (Sx15_.1 10 0 6)) 10 0 1 0)) rfl ?_
      refine sm_T_ri rfl (Or.inl ⟨_, _, _, rfl, Nat.le_of_ble_eq_true rfl, _, rfl, hIx24_, hFx25_, ?_⟩)
      first | (exact absurd rfl e15_) | (refine ⟨sl_, hs2_, hs3_, hs4_, rf_eq, idf_pI d42_ (Or.inl (by decide)), Or.inl ⟨ac_, (rf_nt (by decide)).trans x4_, ?_⟩⟩; obtain ⟨F9_, y1_, y2_, y3_, y4_, y5_⟩ := x5_; have fz_ : ai_fr (sx_W ([(10, 1)], [], [])) _ ((sm_pI (sm_pI Sx15_ 12 0 10 (Sx15_.1 10 0 6)) 10 0 1 0)) := ai_fr_pI rfl; refine ⟨F9_, dgr_fr y1_ fz_ rfl rfl rfl rfl rfl, drt_fr y2_ fz_ rfl rfl rfl rfl rfl, swp_fr y3_ fz_ rfl rfl rfl rfl, dtb_fr y4_ fz_ rfl rfl, ?_⟩; rw [fz_.1 3 sl_ 5 rfl, fz_.1 3 sl_ 6 rfl, fz_.1 3 sl_ 2 rfl]; exact y5_) | (refine ⟨sl_, hs2_, hs3_, hs4_, rf_eq, idf_pI (idf_pI dz_ (Or.inl (by decide))) (Or.inl (by decide)), Or.inr ⟨na_, ?_⟩⟩; exact (rf_nt (by decide)).trans ((rf_nt (by decide)).trans uz_))
    obtain ⟨rfl, hIx16_, hFx17_, px18_⟩ := px18_
    have hFx19_ : ai_fr (sx_W vw_213) S0_ Sx15_ := ai_fr_tr hFx14_ (fr_le hFx17_ rfl)
    obtain ⟨r9_, w1_, w2_, w3_, w4_⟩ := px18_
    have d29_ : idf sl_ S0_ Sx15_ := idf_tr (idf_pI d15_ (Or.inl (by decide))) (idf_fr hFx17_ (by decide) (by decide))
    have u29_ : Sx15_.1 3 sl_ 0 = 0 := ((hFx17_.1 3 sl_ 0 rfl).trans (rf_nt (by decide))).trans (u15_.trans hs3_)
    refine sm_T_go 5 (c1 := (41, [some (.inr (.inr (some (12, 0)))), some (.inl vx6_), some (.inl vx6_), none], [.inl vx6_, .inr (.inr (some (110, 0))), .inr (.inr (some (1, 0)))], Sx15_)) rfl ?_
    refine sm_T_aald (t0 := 4) (n := 6) rfl rfl (by omega) (by omega) ?_
    refine sm_T_calh (d1_ := 27) (ex_ := 2) (Q1_ := vq_31 b_ n_ r9_ (vx6_.toNat) Sx15_) (Q2_ := vx_31 b_ n_ r9_ (vx6_.toNat) Sx15_) rfl rfl (by decide) (vc_31 b_ n_ r9_ (vx6_.toNat) Sx15_ hIx16_ (by exact w1_) (by exact w2_) (by exact w3_) (by exact w4_) (by exact hn1_)) rfl rfl (Nat.le_of_ble_eq_true rfl) (fun Sx26_ px29_ => ?_) (fun u_ Sx26_ px29_ => ?_)
    · obtain ⟨hIx27_, hFx28_, px29_⟩ := px29_
      have hFx30_ : ai_fr (sx_W vw_213) S0_ Sx26_ := ai_fr_tr hFx19_ (fr_le hFx28_ rfl)
      obtain ⟨q1_, q2_, q3_⟩ := px29_
      rw [← hsv_, hs1_, Int.toNat_natCast] at q1_ q3_
      have na_ := dacc_r w1_ q2_
      have dz_ : idf sl_ S0_ Sx26_ := idf_tr d29_ q1_
      have uz_ : Sx26_.1 3 sl_ 0 = 0 := q3_.trans u29_
      refine sm_T_go 0 (c1 := (49, [some (.inr (.inr (some (12, 0)))), some (.inl vx6_), some (.inl vx6_), none], [], Sx26_)) rfl ?_
      have bx31_ : 0 ≤ Sx26_.1 10 0 6 ∧ Sx26_.1 10 0 6 ≤ 23 := hIx27_.1 10 0 6 rfl
      have hIx32_ : gi (sm_pI Sx26_ 12 0 10 (Sx26_.1 10 0 6)) := gi_pI hIx27_ (show 0 ≤ (Sx26_.1 10 0 6) ∧ (Sx26_.1 10 0 6) ≤ 23 from ⟨by omega, by omega⟩)
      have hFx33_ : ai_fr (sx_W vw_213) S0_ (sm_pI Sx26_ 12 0 10 (Sx26_.1 10 0 6)) := ai_fr_tr hFx30_ (ai_fr_pI rfl)
      have bx34_ : 0 ≤ Sx26_.1 10 0 7 ∧ Sx26_.1 10 0 7 ≤ 4095 := hIx27_.1 10 0 7 rfl
      refine sm_T_go 9 (c1 := (68, [some (.inr (.inr (some (12, 0)))), some (.inl vx6_), some (.inl vx6_), none], [.inl (Sx26_.1 10 0 7), .inl (-1)], sm_pI Sx26_ 12 0 10 (Sx26_.1 10 0 6))) rfl ?_
      refine sm_T_bin (w := -(Sx26_.1 10 0 7) - 1) rfl (bi_sub (by omega) (by omega) (by omega)) ?_
      have hIx35_ : gi (sm_pI (sm_pI Sx26_ 12 0 10 (Sx26_.1 10 0 6)) 10 0 1 0) := gi_pI hIx32_ (show 0 ≤ 0 ∧ 0 ≤ 1280 from ⟨by omega, by omega⟩)
      have hFx36_ : ai_fr (sx_W vw_213) S0_ (sm_pI (sm_pI Sx26_ 12 0 10 (Sx26_.1 10 0 6)) 10 0 1 0) := ai_fr_tr hFx33_ (ai_fr_pI rfl)
      refine sm_T_go 6 (c1 := (79, [some (.inr (.inr (some (12, 0)))), some (.inl vx6_), some (.inl (-(Sx26_.1 10 0 7) - 1)), none], [.inl (-(Sx26_.1 10 0 7) - 1)], sm_pI (sm_pI Sx26_ 12 0 10 (Sx26_.1 10 0 6)) 10 0 1 0)) rfl ?_
      refine sm_T_ri rfl (Or.inl ⟨_, _, _, rfl, Nat.le_of_ble_eq_true rfl, _, rfl, hIx35_, hFx36_, ?_⟩)
      first | (exact absurd rfl e15_) | (refine ⟨sl_, hs2_, hs3_, hs4_, rf_eq, idf_pI d42_ (Or.inl (by decide)), Or.inl ⟨ac_, (rf_nt (by decide)).trans x4_, ?_⟩⟩; obtain ⟨F9_, y1_, y2_, y3_, y4_, y5_⟩ := x5_; have fz_ : ai_fr (sx_W ([(10, 1)], [], [])) _ ((sm_pI (sm_pI Sx26_ 12 0 10 (Sx26_.1 10 0 6)) 10 0 1 0)) := ai_fr_pI rfl; refine ⟨F9_, dgr_fr y1_ fz_ rfl rfl rfl rfl rfl, drt_fr y2_ fz_ rfl rfl rfl rfl rfl, swp_fr y3_ fz_ rfl rfl rfl rfl, dtb_fr y4_ fz_ rfl rfl, ?_⟩; rw [fz_.1 3 sl_ 5 rfl, fz_.1 3 sl_ 6 rfl, fz_.1 3 sl_ 2 rfl]; exact y5_) | (refine ⟨sl_, hs2_, hs3_, hs4_, rf_eq, idf_pI (idf_pI dz_ (Or.inl (by decide))) (Or.inl (by decide)), Or.inr ⟨na_, ?_⟩⟩; exact (rf_nt (by decide)).trans ((rf_nt (by decide)).trans uz_))
    obtain ⟨rfl, hIx27_, hFx28_, px29_⟩ := px29_
    have hFx30_ : ai_fr (sx_W vw_213) S0_ Sx26_ := ai_fr_tr hFx19_ (fr_le hFx28_ rfl)
    obtain ⟨dx37_, px29_⟩ := px29_
    have e42_ := px29_
    have k42_ := dx37_
    rw [← hsv_, hs1_, Int.toNat_natCast] at e42_ k42_
    have d42_ : idf sl_ S0_ Sx26_ := idf_tr d29_ k42_
    obtain ⟨x1_, ⟨z9_, x2_, x3_⟩, x4_, x5_⟩ := e42_
    have ac_ : dacc b_ n_ := ⟨r9_, z9_, w1_, x1_, x2_, x3_⟩
    have hIx38_ : gi (sm_pI Sx26_ 10 0 1 0) := gi_pI hIx27_ (show 0 ≤ 0 ∧ 0 ≤ 1280 from ⟨by omega, by omega⟩)
    have hFx39_ : ai_fr (sx_W vw_213) S0_ (sm_pI Sx26_ 10 0 1 0) := ai_fr_tr hFx30_ (ai_fr_pI rfl)
    refine sm_T_go 6 (c1 := (79, [some (.inr (.inr (some (12, 0)))), some (.inl vx6_), some (.inl vx6_), none], [.inl vx6_], sm_pI Sx26_ 10 0 1 0)) rfl ?_
    refine sm_T_ri rfl (Or.inl ⟨_, _, _, rfl, Nat.le_of_ble_eq_true rfl, _, rfl, hIx38_, hFx39_, ?_⟩)
    first | (exact absurd rfl e15_) | (refine ⟨sl_, hs2_, hs3_, hs4_, rf_eq, idf_pI d42_ (Or.inl (by decide)), Or.inl ⟨ac_, (rf_nt (by decide)).trans x4_, ?_⟩⟩; obtain ⟨F9_, y1_, y2_, y3_, y4_, y5_⟩ := x5_; have fz_ : ai_fr (sx_W ([(10, 1)], [], [])) _ ((sm_pI Sx26_ 10 0 1 0)) := ai_fr_pI rfl; refine ⟨F9_, dgr_fr y1_ fz_ rfl rfl rfl rfl rfl, drt_fr y2_ fz_ rfl rfl rfl rfl rfl, swp_fr y3_ fz_ rfl rfl rfl rfl, dtb_fr y4_ fz_ rfl rfl, ?_⟩; rw [fz_.1 3 sl_ 5 rfl, fz_.1 3 sl_ 6 rfl, fz_.1 3 sl_ 2 rfl]; exact y5_) | (refine ⟨sl_, hs2_, hs3_, hs4_, rf_eq, idf_pI (idf_pI dz_ (Or.inl (by decide))) (Or.inl (by decide)), Or.inr ⟨na_, ?_⟩⟩; exact (rf_nt (by decide)).trans ((rf_nt (by decide)).trans uz_))
  · have cx7_ : ¬ (vx6_ = (-1)) := of_decide_eq_false cx7_
    have nv_ := cx7_
    rw [← hsv_] at nv_
    refine sm_T_go 2 (c1 := (15, [some (.inr (.inr (some (12, 0)))), some (.inl vx6_), none, none], [.inl 1], S0_)) rfl ?_
    refine sm_T_calg (d1_ := 0) (ex_ := 3) (Q1_ := vq_268 1 S0_) (Q2_ := vx_268 1 S0_) rfl rfl (by decide) (vc_268 1 S0_ hI_ ) rfl rfl (fun Sx40_ px43_ => ?_) (fun u_ Sx40_ px43_ => ?_)
    · obtain ⟨hIx41_, hFx42_, px43_⟩ := px43_
      refine Or.inr ⟨_, rfl, hIx41_, ai_fr_tr hF_ (fr_le hFx42_ rfl), ?_⟩
      obtain ⟨z1_, z2_⟩ := px43_
      first | (exact absurd z1_ (by decide)) | (exact ⟨ha0_, z2_⟩)
    obtain ⟨rfl, hIx41_, hFx42_, px43_⟩ := px43_
    have hFx44_ : ai_fr (sx_W vw_213) S0_ Sx40_ := ai_fr_tr hF_ (fr_le hFx42_ rfl)
    have e15_ := px43_
    obtain ⟨hs1_, hs2_, hs3_, hs4_⟩ : sv_ = (sl_ : Int) ∧ sl_ < 6 ∧ S0_.1 3 sl_ 0 = 0 ∧ ∀ j_ : Nat, j_ < sl_ → S0_.1 3 j_ 0 = 1 := by first | (exact absurd rfl e15_) | (rcases hsl_ with z_ | z_; (exact absurd z_.1 nv_); exact z_)
    clear hsl_
    have hb15_ := (fr_arr (t := 98) (i := 0) hFx42_ rfl).trans hb_
    have hn15_ := (hFx42_.1 10 0 1 rfl).trans hn_
    have d15_ : idf sl_ S0_ Sx40_ := idf_fr hFx42_ (by decide) (by decide)
    have u15_ : Sx40_.1 3 sl_ 0 = S0_.1 3 sl_ 0 := hFx42_.1 3 sl_ 0 rfl
    have hIx45_ : gi (sm_pI Sx40_ 12 0 10 0) := gi_pI hIx41_ (show 0 ≤ 0 ∧ 0 ≤ 23 from ⟨by omega, by omega⟩)
    have hFx46_ : ai_fr (sx_W vw_213) S0_ (sm_pI Sx40_ 12 0 10 0) := ai_fr_tr hFx44_ (ai_fr_pI rfl)
    refine sm_T_go 7 (c1 := (29, [some (.inr (.inr (some (12, 0)))), some (.inl vx6_), some (.inl vx6_), none], [.inr (.inr (some (7, 0)))], sm_pI Sx40_ 12 0 10 0)) rfl ?_
    refine sm_T_calh (d1_ := 7) (ex_ := 2) (Q1_ := vq_115 b_ n_ (sm_pI Sx40_ 12 0 10 0)) (Q2_ := vx_115 b_ n_ (sm_pI Sx40_ 12 0 10 0)) rfl rfl (by decide) (vc_115 b_ n_ (sm_pI Sx40_ 12 0 10 0) hIx45_ (by exact hb15_) (by exact hn15_) (by exact hn1_)) rfl rfl (Nat.le_of_ble_eq_true rfl) (fun Sx47_ px50_ => ?_) (fun u_ Sx47_ px50_ => ?_)
    · obtain ⟨hIx48_, hFx49_, px50_⟩ := px50_
      have hFx51_ : ai_fr (sx_W vw_213) S0_ Sx47_ := ai_fr_tr hFx46_ (fr_le hFx49_ rfl)
      obtain ⟨e9_, w1_, -⟩ := px50_
      have na_ := dacc_l w1_
      have dz_ : idf sl_ S0_ Sx47_ := idf_tr (idf_pI d15_ (Or.inl (by decide))) (idf_fr hFx49_ (by decide) (by decide))
      have uz_ : Sx47_.1 3 sl_ 0 = 0 := ((hFx49_.1 3 sl_ 0 rfl).trans (rf_nt (by decide))).trans (u15_.trans hs3_)
      refine sm_T_go 0 (c1 := (49, [some (.inr (.inr (some (12, 0)))), some (.inl vx6_), some (.inl vx6_), none], [], Sx47_)) rfl ?_
      have bx52_ : 0 ≤ Sx47_.1 10 0 6 ∧ Sx47_.1 10 0 6 ≤ 23 := hIx48_.1 10 0 6 rfl
      have hIx53_ : gi (sm_pI Sx47_ 12 0 10 (Sx47_.1 10 0 6)) := gi_pI hIx48_ (show 0 ≤ (Sx47_.1 10 0 6) ∧ (Sx47_.1 10 0 6) ≤ 23 from ⟨by omega, by omega⟩)
      have hFx54_ : ai_fr (sx_W vw_213) S0_ (sm_pI Sx47_ 12 0 10 (Sx47_.1 10 0 6)) := ai_fr_tr hFx51_ (ai_fr_pI rfl)
      have bx55_ : 0 ≤ Sx47_.1 10 0 7 ∧ Sx47_.1 10 0 7 ≤ 4095 := hIx48_.1 10 0 7 rfl
      refine sm_T_go 9 (c1 := (68, [some (.inr (.inr (some (12, 0)))), some (.inl vx6_), some (.inl vx6_), none], [.inl (Sx47_.1 10 0 7), .inl (-1)], sm_pI Sx47_ 12 0 10 (Sx47_.1 10 0 6))) rfl ?_
      refine sm_T_bin (w := -(Sx47_.1 10 0 7) - 1) rfl (bi_sub (by omega) (by omega) (by omega)) ?_
      have hIx56_ : gi (sm_pI (sm_pI Sx47_ 12 0 10 (Sx47_.1 10 0 6)) 10 0 1 0) := gi_pI hIx53_ (show 0 ≤ 0 ∧ 0 ≤ 1280 from ⟨by omega, by omega⟩)
      have hFx57_ : ai_fr (sx_W vw_213) S0_ (sm_pI (sm_pI Sx47_ 12 0 10 (Sx47_.1 10 0 6)) 10 0 1 0) := ai_fr_tr hFx54_ (ai_fr_pI rfl)
      refine sm_T_go 6 (c1 := (79, [some (.inr (.inr (some (12, 0)))), some (.inl vx6_), some (.inl (-(Sx47_.1 10 0 7) - 1)), none], [.inl (-(Sx47_.1 10 0 7) - 1)], sm_pI (sm_pI Sx47_ 12 0 10 (Sx47_.1 10 0 6)) 10 0 1 0)) rfl ?_
      refine sm_T_ri rfl (Or.inl ⟨_, _, _, rfl, Nat.le_of_ble_eq_true rfl, _, rfl, hIx56_, hFx57_, ?_⟩)
      first | (exact absurd rfl e15_) | (refine ⟨sl_, hs2_, hs3_, hs4_, rf_eq, idf_pI d42_ (Or.inl (by decide)), Or.inl ⟨ac_, (rf_nt (by decide)).trans x4_, ?_⟩⟩; obtain ⟨F9_, y1_, y2_, y3_, y4_, y5_⟩ := x5_; have fz_ : ai_fr (sx_W ([(10, 1)], [], [])) _ ((sm_pI (sm_pI Sx47_ 12 0 10 (Sx47_.1 10 0 6)) 10 0 1 0)) := ai_fr_pI rfl; refine ⟨F9_, dgr_fr y1_ fz_ rfl rfl rfl rfl rfl, drt_fr y2_ fz_ rfl rfl rfl rfl rfl, swp_fr y3_ fz_ rfl rfl rfl rfl, dtb_fr y4_ fz_ rfl rfl, ?_⟩; rw [fz_.1 3 sl_ 5 rfl, fz_.1 3 sl_ 6 rfl, fz_.1 3 sl_ 2 rfl]; exact y5_) | (refine ⟨sl_, hs2_, hs3_, hs4_, rf_eq, idf_pI (idf_pI dz_ (Or.inl (by decide))) (Or.inl (by decide)), Or.inr ⟨na_, ?_⟩⟩; exact (rf_nt (by decide)).trans ((rf_nt (by decide)).trans uz_))
    obtain ⟨rfl, hIx48_, hFx49_, px50_⟩ := px50_
    have hFx51_ : ai_fr (sx_W vw_213) S0_ Sx47_ := ai_fr_tr hFx46_ (fr_le hFx49_ rfl)
    obtain ⟨r9_, w1_, w2_, w3_, w4_⟩ := px50_
    have d29_ : idf sl_ S0_ Sx47_ := idf_tr (idf_pI d15_ (Or.inl (by decide))) (idf_fr hFx49_ (by decide) (by decide))
    have u29_ : Sx47_.1 3 sl_ 0 = 0 := ((hFx49_.1 3 sl_ 0 rfl).trans (rf_nt (by decide))).trans (u15_.trans hs3_)
    refine sm_T_go 5 (c1 := (41, [some (.inr (.inr (some (12, 0)))), some (.inl vx6_), some (.inl vx6_), none], [.inl vx6_, .inr (.inr (some (110, 0))), .inr (.inr (some (1, 0)))], Sx47_)) rfl ?_
    refine sm_T_aald (t0 := 4) (n := 6) rfl rfl (by omega) (by omega) ?_
    refine sm_T_calh (d1_ := 27) (ex_ := 2) (Q1_ := vq_31 b_ n_ r9_ (vx6_.toNat) Sx47_) (Q2_ := vx_31 b_ n_ r9_ (vx6_.toNat) Sx47_) rfl rfl (by decide) (vc_31 b_ n_ r9_ (vx6_.toNat) Sx47_ hIx48_ (by exact w1_) (by exact w2_) (by exact w3_) (by exact w4_) (by exact hn1_)) rfl rfl (Nat.le_of_ble_eq_true rfl) (fun Sx58_ px61_ => ?_) (fun u_ Sx58_ px61_ => ?_)
    · obtain ⟨hIx59_, hFx60_, px61_⟩ := px61_
      have hFx62_ : ai_fr (sx_W vw_213) S0_ Sx58_ := ai_fr_tr hFx51_ (fr_le hFx60_ rfl)
      obtain ⟨q1_, q2_, q3_⟩ := px61_
      rw [← hsv_, hs1_, Int.toNat_natCast] at q1_ q3_
      have na_ := dacc_r w1_ q2_
      have dz_ : idf sl_ S0_ Sx58_ := idf_tr d29_ q1_
      have uz_ : Sx58_.1 3 sl_ 0 = 0 := q3_.trans u29_
      refine sm_T_go 0 (c1 := (49, [some (.inr (.inr (some (12, 0)))), some (.inl vx6_), some (.inl vx6_), none], [], Sx58_)) rfl ?_
      have bx63_ : 0 ≤ Sx58_.1 10 0 6 ∧ Sx58_.1 10 0 6 ≤ 23 := hIx59_.1 10 0 6 rfl
      have hIx64_ : gi (sm_pI Sx58_ 12 0 10 (Sx58_.1 10 0 6)) := gi_pI hIx59_ (show 0 ≤ (Sx58_.1 10 0 6) ∧ (Sx58_.1 10 0 6) ≤ 23 from ⟨by omega, by omega⟩)
      have hFx65_ : ai_fr (sx_W vw_213) S0_ (sm_pI Sx58_ 12 0 10 (Sx58_.1 10 0 6)) := ai_fr_tr hFx62_ (ai_fr_pI rfl)
      have bx66_ : 0 ≤ Sx58_.1 10 0 7 ∧ Sx58_.1 10 0 7 ≤ 4095 := hIx59_.1 10 0 7 rfl
      refine sm_T_go 9 (c1 := (68, [some (.inr (.inr (some (12, 0)))), some (.inl vx6_), some (.inl vx6_), none], [.inl (Sx58_.1 10 0 7), .inl (-1)], sm_pI Sx58_ 12 0 10 (Sx58_.1 10 0 6))) rfl ?_
      refine sm_T_bin (w := -(Sx58_.1 10 0 7) - 1) rfl (bi_sub (by omega) (by omega) (by omega)) ?_
      have hIx67_ : gi (sm_pI (sm_pI Sx58_ 12 0 10 (Sx58_.1 10 0 6)) 10 0 1 0) := gi_pI hIx64_ (show 0 ≤ 0 ∧ 0 ≤ 1280 from ⟨by omega, by omega⟩)
      have hFx68_ : ai_fr (sx_W vw_213) S0_ (sm_pI (sm_pI Sx58_ 12 0 10 (Sx58_.1 10 0 6)) 10 0 1 0) := ai_fr_tr hFx65_ (ai_fr_pI rfl)
      refine sm_T_go 6 (c1 := (79, [some (.inr (.inr (some (12, 0)))), some (.inl vx6_), some (.inl (-(Sx58_.1 10 0 7) - 1)), none], [.inl (-(Sx58_.1 10 0 7) - 1)], sm_pI (sm_pI Sx58_ 12 0 10 (Sx58_.1 10 0 6)) 10 0 1 0)) rfl ?_
      refine sm_T_ri rfl (Or.inl ⟨_, _, _, rfl, Nat.le_of_ble_eq_true rfl, _, rfl, hIx67_, hFx68_, ?_⟩)
      first | (exact absurd rfl e15_) | (refine ⟨sl_, hs2_, hs3_, hs4_, rf_eq, idf_pI d42_ (Or.inl (by decide)), Or.inl ⟨ac_, (rf_nt (by decide)).trans x4_, ?_⟩⟩; obtain ⟨F9_, y1_, y2_, y3_, y4_, y5_⟩ := x5_; have fz_ : ai_fr (sx_W ([(10, 1)], [], [])) _ ((sm_pI (sm_pI Sx58_ 12 0 10 (Sx58_.1 10 0 6)) 10 0 1 0)) := ai_fr_pI rfl; refine ⟨F9_, dgr_fr y1_ fz_ rfl rfl rfl rfl rfl, drt_fr y2_ fz_ rfl rfl rfl rfl rfl, swp_fr y3_ fz_ rfl rfl rfl rfl, dtb_fr y4_ fz_ rfl rfl, ?_⟩; rw [fz_.1 3 sl_ 5 rfl, fz_.1 3 sl_ 6 rfl, fz_.1 3 sl_ 2 rfl]; exact y5_) | (refine ⟨sl_, hs2_, hs3_, hs4_, rf_eq, idf_pI (idf_pI dz_ (Or.inl (by decide))) (Or.inl (by decide)), Or.inr ⟨na_, ?_⟩⟩; exact (rf_nt (by decide)).trans ((rf_nt (by decide)).trans uz_))
    obtain ⟨rfl, hIx59_, hFx60_, px61_⟩ := px61_
    have hFx62_ : ai_fr (sx_W vw_213) S0_ Sx58_ := ai_fr_tr hFx51_ (fr_le hFx60_ rfl)
    obtain ⟨dx69_, px61_⟩ := px61_
    have e42_ := px61_
    have k42_ := dx69_
    rw [← hsv_, hs1_, Int.toNat_natCast] at e42_ k42_
    have d42_ : idf sl_ S0_ Sx58_ := idf_tr d29_ k42_
    obtain ⟨x1_, ⟨z9_, x2_, x3_⟩, x4_, x5_⟩ := e42_
    have ac_ : dacc b_ n_ := ⟨r9_, z9_, w1_, x1_, x2_, x3_⟩
    have hIx70_ : gi (sm_pI Sx58_ 10 0 1 0) := gi_pI hIx59_ (show 0 ≤ 0 ∧ 0 ≤ 1280 from ⟨by omega, by omega⟩)
    have hFx71_ : ai_fr (sx_W vw_213) S0_ (sm_pI Sx58_ 10 0 1 0) := ai_fr_tr hFx62_ (ai_fr_pI rfl)
    refine sm_T_go 6 (c1 := (79, [some (.inr (.inr (some (12, 0)))), some (.inl vx6_), some (.inl vx6_), none], [.inl vx6_], sm_pI Sx58_ 10 0 1 0)) rfl ?_
    refine sm_T_ri rfl (Or.inl ⟨_, _, _, rfl, Nat.le_of_ble_eq_true rfl, _, rfl, hIx70_, hFx71_, ?_⟩)
    first | (exact absurd rfl e15_) | (refine ⟨sl_, hs2_, hs3_, hs4_, rf_eq, idf_pI d42_ (Or.inl (by decide)), Or.inl ⟨ac_, (rf_nt (by decide)).trans x4_, ?_⟩⟩; obtain ⟨F9_, y1_, y2_, y3_, y4_, y5_⟩ := x5_; have fz_ : ai_fr (sx_W ([(10, 1)], [], [])) _ ((sm_pI Sx58_ 10 0 1 0)) := ai_fr_pI rfl; refine ⟨F9_, dgr_fr y1_ fz_ rfl rfl rfl rfl rfl, drt_fr y2_ fz_ rfl rfl rfl rfl rfl, swp_fr y3_ fz_ rfl rfl rfl rfl, dtb_fr y4_ fz_ rfl rfl, ?_⟩; rw [fz_.1 3 sl_ 5 rfl, fz_.1 3 sl_ 6 rfl, fz_.1 3 sl_ 2 rfl]; exact y5_) | (refine ⟨sl_, hs2_, hs3_, hs4_, rf_eq, idf_pI (idf_pI dz_ (Or.inl (by decide))) (Or.inl (by decide)), Or.inr ⟨na_, ?_⟩⟩; exact (rf_nt (by decide)).trans ((rf_nt (by decide)).trans uz_))
