/-! Reader.readLibrary -/
def vw_131 : sx_Wl := ([(5, 0), (5, 1), (5, 2), (7, 2), (7, 14), (7, 16), (7, 17), (10, 2), (10, 3), (10, 4), (10, 5), (10, 6), (10, 7), (10, 8)], [55, 56, 57, 58, 74, 77, 78, 82, 83, 84], [(7, 11)])
def vq_131 (b_ : Nat → Int) (n_ : Nat) (ii_ : Nat) (S0_ : sm_S) (u_ : Option sm_V) (S1_ : sm_S) : Prop := u_ = none ∧ gi S1_ ∧ ai_fr (sx_W vw_131) S0_ S1_ ∧ (∃ r_, (p_li b_ n_) = .inr r_ ∧ ∀ i_, S1_.1 5 i_ 0 = if i_ = ii_ then 1 else S0_.1 5 i_ 0)
def vx_131 (b_ : Nat → Int) (n_ : Nat) (ii_ : Nat) (S0_ : sm_S) (S1_ : sm_S) : Prop := gi S1_ ∧ ai_fr (sx_W vw_131) S0_ S1_ ∧ (∃ e_, (p_li b_ n_) = .inl e_ ∧ ter S1_ e_ ∧ ∀ i_, S1_.1 5 i_ 0 = S0_.1 5 i_ 0)
set_option maxHeartbeats 2000000 in
set_option maxRecDepth 20000 in
theorem vl_131 {sc_ : Nat × (Nat → Int)} (b_ : Nat → Int) (n_ : Nat) (ii_ : Nat) (S0_ : sm_S) (hb_ : S0_.2.2.1 98 0 = b_) (hn_ : (S0_.1 10 0 1) = (n_ : Int)) (hn1_ : n_ ≤ 1280) : ∀ nn_ : Nat, (∀ (g_ : Int) (S_ : sm_S), gi S_ → ai_fr (sx_W vw_131) S0_ S_ → ((0 ≤ g_ ∧ g_ ≤ 12) ∧ (∀ i_, S_.1 5 i_ 0 = S0_.1 5 i_ 0) ∧ (S_.1 5 ii_ 1 = g_) ∧ (S_.2.1 7 0 11 = some ii_) ∧ (∃ f1_ L1_ p1_, ct b_ n_ p1_ S_ ∧ nmr b_ n_ 0 g_.toNat f1_ S_ ∧ ((g_ = 0 ∨ lx_kd b_ n_ p1_ ≠ 0) → (p_li b_ n_) = p_lb b_ n_ (13 - g_.toNat) g_.toNat f1_ L1_ p1_) ∧ (g_ ≠ 0 → lx_kd b_ n_ p1_ = 0 → (p_li b_ n_) = .inr (g_.toNat, L1_))) ∧ True) → ((10 * (20 - g_) + 5).toNat) < nn_ → sm_T (mt_P sc_) 5 131 (26, [some (.inr (.inr (some (7, 0)))), some (.inr (.inr (some (5, ii_)))), some (.inl g_), none, none, none, none, none], [], S_) (fun r_ => (∃ u_ S1_, r_ = (.inl u_, S1_, 0) ∧ vq_131 b_ n_ ii_ S0_ u_ S1_) ∨ ∃ S1_, r_ = (.inr 2, S1_, 1) ∧ vx_131 b_ n_ ii_ S0_ S1_)) ∧ (∀ (g_ : Int) (S_ : sm_S), gi S_ → ai_fr (sx_W vw_131) S0_ S_ → ((0 ≤ g_ ∧ g_ ≤ 12) ∧ (∀ i_, S_.1 5 i_ 0 = S0_.1 5 i_ 0) ∧ (S_.1 5 ii_ 1 = g_) ∧ (S_.2.1 7 0 11 = some ii_) ∧ (∃ f1_ L1_ p1_, ct b_ n_ p1_ S_ ∧ nmr b_ n_ 0 g_.toNat f1_ S_ ∧ (p_li b_ n_) = p_lb b_ n_ (13 - g_.toNat) g_.toNat f1_ L1_ p1_) ∧ True) → ((10 * (20 - g_) + 3).toNat) < nn_ → sm_T (mt_P sc_) 5 131 (49, [some (.inr (.inr (some (7, 0)))), some (.inr (.inr (some (5, ii_)))), some (.inl g_), none, none, none, none, none], [], S_) (fun r_ => (∃ u_ S1_, r_ = (.inl u_, S1_, 0) ∧ vq_131 b_ n_ ii_ S0_ u_ S1_) ∨ ∃ S1_, r_ = (.inr 2, S1_, 1) ∧ vx_131 b_ n_ ii_ S0_ S1_)) ∧ (∀ (g_ : Int) (fr_ : Int) (tb_ : Int) (ar_ : Int) (dl_ : Int) (S_ : sm_S), gi S_ → ai_fr (sx_W vw_131) S0_ S_ → ((0 ≤ g_ ∧ g_ ≤ 11) ∧ (∀ i_, S_.1 5 i_ 0 = S0_.1 5 i_ 0) ∧ (S_.1 5 ii_ 1 = g_) ∧ (S_.2.1 7 0 11 = some ii_) ∧ ((0 ≤ tb_ ∧ tb_ ≤ 255) ∧ (0 ≤ ar_ ∧ ar_ ≤ 1000) ∧ (0 ≤ dl_ ∧ dl_ ≤ 100)) ∧ (∃ (f1_ : Nat → Nat) (L2_ : pL) (rc_ rn_ K6_ : Nat), ct b_ n_ rn_ S_ ∧ nmr b_ n_ 0 g_.toNat f1_ S_ ∧ S_.2.2.1 77 0 (1 : Int).toNat = (K6_ : Int) ∧ K6_ ≤ 3 ∧ nmp b_ n_ rc_ ∧ fr_ = (16 * rc_ + lx_sz b_ n_ rc_ : Nat) ∧ (p_li b_ n_) = (if lx_kd b_ n_ rn_ = 0 then .inr (g_.toNat + 1, L2_) else p_lb b_ n_ (12 - g_.toNat) (g_.toNat + 1) (n_up f1_ g_.toNat rc_) L2_ rn_)) ∧ True) → ((10 * (20 - g_) + 1).toNat) < nn_ → sm_T (mt_P sc_) 5 131 (155, [some (.inr (.inr (some (7, 0)))), some (.inr (.inr (some (5, ii_)))), some (.inl g_), some (.inl fr_), none, some (.inl tb_), some (.inl ar_), some (.inl dl_)], [], S_) (fun r_ => (∃ u_ S1_, r_ = (.inl u_, S1_, 0) ∧ vq_131 b_ n_ ii_ S0_ u_ S1_) ∨ ∃ S1_, r_ = (.inr 2, S1_, 1) ∧ vx_131 b_ n_ ii_ S0_ S1_)) := by
  intro nn_
  induction nn_ with
  | zero => exact ⟨fun _ _ _ _ _ h_ => absurd h_ (Nat.not_lt_zero _), fun _ _ _ _ _ h_ => absurd h_ (Nat.not_lt_zero _), fun _ _ _ _ _ _ _ _ _ h_ => absurd h_ (Nat.not_lt_zero _)⟩
  | succ nn_ ih_ =>
    refine ⟨?_, ?_, ?_⟩
    · rintro g_ S_ hI_ hF_ ⟨h0_, us26_, ct26_, lb26_, h1_, -⟩ hm_
      obtain ⟨f1_, L1_, p1_, y1_, y2_, hP1_, hP2_⟩ := h1_
      have kd1_ := y1_.2.2.2.2.2.2.2.1
      refine sm_T_go 2 (c1 := (29, [some (.inr (.inr (some (7, 0)))), some (.inr (.inr (some (5, ii_)))), some (.inl g_), none, none, none, none, none], [.inl 12, .inl g_], S_)) rfl ?_
      refine sm_T_br (a := 4) (z := 170) rfl (fun cx1_ => ?_) (fun cx1_ => ?_)
      · have cx1_ : 12 < g_ := of_decide_eq_true cx1_
        exfalso; omega
      · have cx1_ : ¬ (12 < g_) := of_decide_eq_false cx1_
        have bx2_ : 0 ≤ S_.1 5 ii_ 1 ∧ S_.1 5 ii_ 1 ≤ 12 := hI_.1 5 ii_ 1 rfl
        refine sm_T_go 2 (c1 := (36, [some (.inr (.inr (some (7, 0)))), some (.inr (.inr (some (5, ii_)))), some (.inl g_), none, none, none, none, none], [.inl (S_.1 5 ii_ 1)], S_)) rfl ?_
        refine sm_T_b0 (a := 0) (z := 13) rfl (fun cx3_ => ?_) (fun cx3_ => ?_)
        · have cx3_ : (S_.1 5 ii_ 1) = 0 := of_decide_eq_true cx3_
          have hP_ := hP1_ (Or.inl (by omega))
          refine sm_T_go 0 (c1 := (49, [some (.inr (.inr (some (7, 0)))), some (.inr (.inr (some (5, ii_)))), some (.inl g_), none, none, none, none, none], [], S_)) rfl ?_
          refine ih_.2.1 g_ S_ hI_ hF_ ⟨?_, ?_, ?_, ?_, ?_, trivial⟩ ?_
          · omega
          · exact us26_
          · exact ct26_
          · exact lb26_
          · exact ⟨f1_, L1_, p1_, y1_, y2_, hP_⟩
          · omega
        · have cx3_ : ¬ ((S_.1 5 ii_ 1) = 0) := of_decide_eq_false cx3_
          have bx4_ : (-128) ≤ S_.1 10 0 2 ∧ S_.1 10 0 2 ≤ 257 := hI_.1 10 0 2 rfl
          refine sm_T_go 3 (c1 := (46, [some (.inr (.inr (some (7, 0)))), some (.inr (.inr (some (5, ii_)))), some (.inl g_), none, none, none, none, none], [.inl (S_.1 10 0 2)], S_)) rfl ?_
          refine sm_T_b0 (a := 0) (z := 153) rfl (fun cx5_ => ?_) (fun cx5_ => ?_)
          · have cx5_ : (S_.1 10 0 2) = 0 := of_decide_eq_true cx5_
            have hP_ := hP2_ (by omega) (by omega)
            refine sm_T_go 1 (c1 := (200, [some (.inr (.inr (some (7, 0)))), some (.inr (.inr (some (5, ii_)))), some (.inl g_), none, none, none, none, none], [.inr (.inr (some (5, ii_)))], S_)) rfl ?_
            refine sm_T_cal (d1 := 0) (Q1 := vq_89 ii_ S_) rfl rfl (by decide) (vc_89 ii_ S_ hI_ ) (fun u_ Sx6_ px9_ => ?_)
            obtain ⟨rfl, hIx7_, hFx8_, px9_⟩ := px9_
            have hFx10_ : ai_fr (sx_W vw_131) S0_ Sx6_ := ai_fr_tr hF_ (fr_le hFx8_ rfl)
            have ex11_ : Sx6_.1 10 0 2 = S_.1 10 0 2 := hFx8_.1 10 0 2 rfl
            have ex12_ : Sx6_.1 5 ii_ 1 = S_.1 5 ii_ 1 := hFx8_.1 5 ii_ 1 rfl
            have us200_ : ∀ i_, Sx6_.1 5 i_ 0 = S0_.1 5 i_ 0 := fun i_ => (hFx8_.1 5 i_ 0 rfl).trans (us26_ i_)
            have hIx13_ : gi (sm_pI Sx6_ 5 ii_ 0 1) := gi_pI hIx7_ (show 0 ≤ 1 ∧ 1 ≤ 1 from ⟨by omega, by omega⟩)
            have hFx14_ : ai_fr (sx_W vw_131) S0_ (sm_pI Sx6_ 5 ii_ 0 1) := ai_fr_tr hFx10_ (ai_fr_pI rfl)
            refine sm_T_go 3 (c1 := (208, [some (.inr (.inr (some (7, 0)))), some (.inr (.inr (some (5, ii_)))), some (.inl g_), none, none, none, none, none], [], sm_pI Sx6_ 5 ii_ 0 1)) rfl ?_
            refine sm_T_rv rfl (Or.inl ⟨_, _, rfl, rfl, hIx13_, hFx14_, ?_⟩)
            refine ⟨_, hP_, fun i_ => ?_⟩
            rw [rd_ff]
            by_cases z_ : i_ = ii_
            · rw [if_pos ⟨rfl, z_, rfl⟩, if_pos z_]
            · rw [if_neg (fun q_ => z_ q_.2.1), if_neg z_]; exact us200_ i_
          · have cx5_ : ¬ ((S_.1 10 0 2) = 0) := of_decide_eq_false cx5_
            have hP_ := hP1_ (Or.inr (by omega))
            refine sm_T_go 0 (c1 := (49, [some (.inr (.inr (some (7, 0)))), some (.inr (.inr (some (5, ii_)))), some (.inl g_), none, none, none, none, none], [], S_)) rfl ?_
            refine ih_.2.1 g_ S_ hI_ hF_ ⟨?_, ?_, ?_, ?_, ?_, trivial⟩ ?_
            · omega
            · exact us26_
            · exact ct26_
            · exact lb26_
            · exact ⟨f1_, L1_, p1_, y1_, y2_, hP_⟩
            · omega
    · rintro g_ S_ hI_ hF_ ⟨h0_, us49_, ct49_, lb49_, h1_, -⟩ hm_
      obtain ⟨f1_, L1_, p1_, y1_, y2_, hP_⟩ := h1_
      obtain ⟨kk_, hkk_⟩ : ∃ kk_, kk_ = (k_lb b_ n_ (12 - g_.toNat) g_.toNat f1_ L1_) := ⟨_, rfl⟩
      have Q0_ : (p_li b_ n_) = e01 b_ n_ kk_ g_.toNat f1_ p1_ := by rw [hP_, show 13 - g_.toNat = (12 - g_.toNat) + 1 by omega, lb_k, hkk_]
      clear hP_
      refine sm_T_go 3 (c1 := (55, [some (.inr (.inr (some (7, 0)))), some (.inr (.inr (some (5, ii_)))), some (.inl g_), none, none, none, none, none], [.inl 9, .inr (.inr (some (10, 0)))], S_)) rfl ?_
      refine sm_T_calx (d1 := 2) (Q1 := vq_188 9 b_ n_ p1_ S_) (Q2 := vx_188 9 b_ n_ p1_ S_) rfl rfl (by decide) (vc_188 9 b_ n_ p1_ S_ hI_ (by exact y1_)) rfl (fun Sx1_ px4_ => ?_) (fun u_ Sx1_ px4_ => ?_)
      · obtain ⟨hIx2_, hFx3_, px4_⟩ := px4_
        refine Or.inr ⟨_, rfl, hIx2_, ai_fr_tr hF_ (fr_le hFx3_ rfl), ?_⟩
        obtain ⟨e9_, w1_, w2_⟩ := px4_
        refine ⟨e9_, ?_, w2_, fun i_ => (hFx3_.1 5 i_ 0 rfl).trans (us49_ i_)⟩
        rw [Q0_]; unfold e01; rw [pb_l w1_]
      obtain ⟨rfl, hIx2_, hFx3_, px4_⟩ := px4_
      have hFx5_ : ai_fr (sx_W vw_131) S0_ Sx1_ := ai_fr_tr hF_ (fr_le hFx3_ rfl)
      obtain ⟨r55_, a55_, c55_⟩ := px4_
      have k55_ := p_nd_ok (by decide) y1_.2.2.2.1 a55_
      have us55_ : ∀ i_, Sx1_.1 5 i_ 0 = S0_.1 5 i_ 0 := fun i_ => (hFx3_.1 5 i_ 0 rfl).trans (us49_ i_)
      have ct55_ := (hFx3_.1 5 ii_ 1 rfl).trans ct49_
      have lb55_ := (hFx3_.2.1 7 0 11 rfl).trans lb49_
      have Q1_ : (p_li b_ n_) = e02 b_ n_ kk_ g_.toNat f1_ r55_ := by rw [Q0_]; unfold e01; rw [pb_r a55_]
      have n55_ := nmr_fr y2_ hFx3_ rfl rfl
      refine sm_T_go 3 (c1 := (62, [some (.inr (.inr (some (7, 0)))), some (.inr (.inr (some (5, ii_)))), some (.inl g_), none, none, none, none, none], [.inl 12, .inl 0, .inr (.inr (some (7, 0)))], Sx1_)) rfl ?_
      refine sm_T_calx (d1 := 2) (Q1 := vq_120 0 12 b_ n_ r55_ 0 g_.toNat f1_ Sx1_) (Q2 := vx_120 0 12 b_ n_ r55_ 0 g_.toNat f1_ Sx1_) rfl rfl (by decide) (vc_120 0 12 b_ n_ r55_ 0 g_.toNat f1_ Sx1_ hIx2_ (by exact c55_) (by rfl) (by exact n55_)) rfl (fun Sx6_ px9_ => ?_) (fun u_ Sx6_ px9_ => ?_)
      · obtain ⟨hIx7_, hFx8_, px9_⟩ := px9_
        refine Or.inr ⟨_, rfl, hIx7_, ai_fr_tr hFx5_ (fr_le hFx8_ rfl), ?_⟩
        obtain ⟨e9_, w1_, w2_⟩ := px9_
        refine ⟨e9_, ?_, w2_, fun i_ => (hFx8_.1 5 i_ 0 rfl).trans (us55_ i_)⟩
        rw [Q1_]; unfold e02; rw [pb_l w1_]
      obtain ⟨vx11_, rfl, hIx7_, hFx8_, px9_⟩ := px9_
      have hFx10_ : ai_fr (sx_W vw_131) S0_ Sx6_ := ai_fr_tr hFx5_ (fr_le hFx8_ rfl)
      obtain ⟨nv_, nk_, r62_, a62_, c62_⟩ := px9_
      have nn62_ := nn_lt c55_.2.2.2.1 a62_
      have gl_ : g_ ≤ 11 := by have := nn62_.1; omega
      have n62_ := nmr_fr n55_ hFx8_ rfl rfl
      have us62_ : ∀ i_, Sx6_.1 5 i_ 0 = S0_.1 5 i_ 0 := fun i_ => (hFx8_.1 5 i_ 0 rfl).trans (us55_ i_)
      have ct62_ := (hFx8_.1 5 ii_ 1 rfl).trans ct55_
      have lb62_ := (hFx8_.2.1 7 0 11 rfl).trans lb55_
      have Q2_ : (p_li b_ n_) = e03 b_ n_ kk_ r55_ r62_ := by rw [Q1_]; unfold e02; rw [pb_r a62_]
      refine sm_T_go 4 (c1 := (72, [some (.inr (.inr (some (7, 0)))), some (.inr (.inr (some (5, ii_)))), some (.inl g_), some (.inl vx11_), none, none, none, none], [.inl 40, .inr (.inr (some (10, 0)))], Sx6_)) rfl ?_
      refine sm_T_calx (d1 := 2) (Q1 := vq_188 40 b_ n_ r62_ Sx6_) (Q2 := vx_188 40 b_ n_ r62_ Sx6_) rfl rfl (by decide) (vc_188 40 b_ n_ r62_ Sx6_ hIx7_ (by exact c62_)) rfl (fun Sx12_ px15_ => ?_) (fun u_ Sx12_ px15_ => ?_)
      · obtain ⟨hIx13_, hFx14_, px15_⟩ := px15_
        refine Or.inr ⟨_, rfl, hIx13_, ai_fr_tr hFx10_ (fr_le hFx14_ rfl), ?_⟩
        obtain ⟨e9_, w1_, w2_⟩ := px15_
        refine ⟨e9_, ?_, w2_, fun i_ => (hFx14_.1 5 i_ 0 rfl).trans (us62_ i_)⟩
        rw [Q2_]; unfold e03; rw [pb_l w1_]
      obtain ⟨rfl, hIx13_, hFx14_, px15_⟩ := px15_
      have hFx16_ : ai_fr (sx_W vw_131) S0_ Sx12_ := ai_fr_tr hFx10_ (fr_le hFx14_ rfl)
      obtain ⟨r72_, a72_, c72_⟩ := px15_
      have k72_ := p_nd_ok (by decide) c62_.2.2.2.1 a72_
      have us72_ : ∀ i_, Sx12_.1 5 i_ 0 = S0_.1 5 i_ 0 := fun i_ => (hFx14_.1 5 i_ 0 rfl).trans (us62_ i_)
      have ct72_ := (hFx14_.1 5 ii_ 1 rfl).trans ct62_
      have lb72_ := (hFx14_.2.1 7 0 11 rfl).trans lb62_
      have Q3_ : (p_li b_ n_) = e04 b_ n_ kk_ r55_ r72_ := by rw [Q2_]; unfold e03; rw [pb_r a72_]
      have n72_ := nmr_fr n62_ hFx14_ rfl rfl
      refine sm_T_go 1 (c1 := (76, [some (.inr (.inr (some (7, 0)))), some (.inr (.inr (some (5, ii_)))), some (.inl g_), some (.inl vx11_), none, none, none, none], [.inr (.inr (some (7, 0)))], Sx12_)) rfl ?_
      refine sm_T_calx (d1 := 3) (Q1 := vq_132 b_ n_ r72_ g_.toNat f1_ Sx12_) (Q2 := vx_132 b_ n_ r72_ g_.toNat f1_ Sx12_) rfl rfl (by decide) (vc_132 b_ n_ r72_ g_.toNat f1_ Sx12_ hIx13_ (by exact c72_) (by exact ⟨n72_, by omega⟩)) rfl (fun Sx17_ px20_ => ?_) (fun u_ Sx17_ px20_ => ?_)
      · obtain ⟨hIx18_, hFx19_, px20_⟩ := px20_
        refine Or.inr ⟨_, rfl, hIx18_, ai_fr_tr hFx16_ (fr_le hFx19_ rfl), ?_⟩
        obtain ⟨e9_, w1_, w2_⟩ := px20_
        refine ⟨e9_, ?_, w2_, fun i_ => (hFx19_.1 5 i_ 0 rfl).trans (us72_ i_)⟩
        rw [Q3_]; exact ci_e2 w1_
      obtain ⟨rfl, hIx18_, hFx19_, px20_⟩ := px20_
      have hFx21_ : ai_fr (sx_W vw_131) S0_ Sx17_ := ai_fr_tr hFx16_ (fr_le hFx19_ rfl)
      obtain ⟨K6_, f6_, q76_, r76_, a76_, b76_, c76_, n76_, m76_, K6b, lt76_⟩ := px20_
      have us76_ : ∀ i_, Sx17_.1 5 i_ 0 = S0_.1 5 i_ 0 := fun i_ => (hFx19_.1 5 i_ 0 rfl).trans (us72_ i_)
      have ct76_ := (hFx19_.1 5 ii_ 1 rfl).trans ct72_
      have lb76_ := (hFx19_.2.1 7 0 11 rfl).trans lb72_
      have Q4_ : (p_li b_ n_) = e05 b_ n_ kk_ r55_ (K6_, f6_, q76_) := by rw [Q3_]; unfold e04; rw [pb_r a76_]
      have Q5_ : (p_li b_ n_) = e06 b_ n_ kk_ r55_ (K6_, f6_, q76_) r76_ := by rw [Q4_]; unfold e05; rw [pb_r b76_]
      refine sm_T_go 3 (c1 := (85, [some (.inr (.inr (some (7, 0)))), some (.inr (.inr (some (5, ii_)))), some (.inl g_), some (.inl vx11_), none, none, none, none], [.inl 61, .inr (.inr (some (10, 0)))], Sx17_)) rfl ?_
      refine sm_T_calx (d1 := 2) (Q1 := vq_188 61 b_ n_ r76_ Sx17_) (Q2 := vx_188 61 b_ n_ r76_ Sx17_) rfl rfl (by decide) (vc_188 61 b_ n_ r76_ Sx17_ hIx18_ (by exact c76_)) rfl (fun Sx22_ px25_ => ?_) (fun u_ Sx22_ px25_ => ?_)
      · obtain ⟨hIx23_, hFx24_, px25_⟩ := px25_
        refine Or.inr ⟨_, rfl, hIx23_, ai_fr_tr hFx21_ (fr_le hFx24_ rfl), ?_⟩
        obtain ⟨e9_, w1_, w2_⟩ := px25_
        refine ⟨e9_, ?_, w2_, fun i_ => (hFx24_.1 5 i_ 0 rfl).trans (us76_ i_)⟩
        rw [Q5_]; unfold e06; rw [pb_l w1_]
      obtain ⟨rfl, hIx23_, hFx24_, px25_⟩ := px25_
      have hFx26_ : ai_fr (sx_W vw_131) S0_ Sx22_ := ai_fr_tr hFx21_ (fr_le hFx24_ rfl)
      obtain ⟨r85_, a85_, c85_⟩ := px25_
      have k85_ := p_nd_ok (by decide) c76_.2.2.2.1 a85_
      have us85_ : ∀ i_, Sx22_.1 5 i_ 0 = S0_.1 5 i_ 0 := fun i_ => (hFx24_.1 5 i_ 0 rfl).trans (us76_ i_)
      have ct85_ := (hFx24_.1 5 ii_ 1 rfl).trans ct76_
      have lb85_ := (hFx24_.2.1 7 0 11 rfl).trans lb76_
      have Q6_ : (p_li b_ n_) = e07 b_ n_ kk_ r55_ (K6_, f6_, q76_) r85_ := by rw [Q5_]; unfold e06; rw [pb_r a85_]
      have n85_ := nmr_fr n76_ hFx24_ rfl rfl
      have m85_ := nmr_fr m76_ hFx24_ rfl rfl
      have ts_ := pw_tb K6b.2
      have cnK_ : Sx22_.2.2.1 77 0 (1 : Int).toNat = (K6_ : Int) := n85_.1
      have sh1_ : i_shl 1 (Sx22_.2.2.1 77 0 (1 : Int).toNat) = i_shl 1 (K6_ : Int) := by rw [cnK_]
      have sh2_ : i_shl 1 (i_shl 1 (Sx22_.2.2.1 77 0 (1 : Int).toNat)) = 2 ^ (2 ^ K6_) := by rw [sh1_]; exact ts_.1
      have tsb_ := ts_.2
      refine sm_T_go 4 (c1 := (94, [some (.inr (.inr (some (7, 0)))), some (.inr (.inr (some (5, ii_)))), some (.inl g_), some (.inl vx11_), none, none, none, none], [.inl 1, .inr (.inr (some (77, 0))), .inl 1], Sx22_)) rfl ?_
      refine sm_T_iald (n := 17) rfl rfl (by omega) (by omega) ?_
      have bx27_ : 0 ≤ Sx22_.2.2.1 77 0 (1 : Int).toNat ∧ Sx22_.2.2.1 77 0 (1 : Int).toNat ≤ 40 := hIx23_.2 77 0 _
      refine sm_T_bin (w := (i_shl 1 (Sx22_.2.2.1 77 0 (1 : Int).toNat))) rfl rfl ?_
      refine sm_T_go 2 (c1 := (99, [some (.inr (.inr (some (7, 0)))), some (.inr (.inr (some (5, ii_)))), some (.inl g_), some (.inl vx11_), some (.inl (i_shl 1 (Sx22_.2.2.1 77 0 (1 : Int).toNat))), none, none, none], [.inr (.inr (some (7, 0)))], Sx22_)) rfl ?_
      refine sm_T_calx (d1 := 4) (Q1 := vq_134 b_ n_ true (fun _ => 0, fun _ => 0, fun _ => 0, fun _ => 0, fun _ => 0) 0 K6_ f6_ (p_ex b_ n_ true (p_pl b_ n_ K6_ f6_) [] r85_) [] r85_ Sx22_) (Q2 := vx_134 b_ n_ true (fun _ => 0, fun _ => 0, fun _ => 0, fun _ => 0, fun _ => 0) 0 K6_ f6_ (p_ex b_ n_ true (p_pl b_ n_ K6_ f6_) [] r85_) [] r85_ Sx22_) rfl rfl (by decide) (vc_134 b_ n_ true (fun _ => 0, fun _ => 0, fun _ => 0, fun _ => 0, fun _ => 0) 0 K6_ f6_ (p_ex b_ n_ true (p_pl b_ n_ K6_ f6_) [] r85_) [] r85_ Sx22_ hIx23_ (by exact c85_) (by exact ⟨fun z_ => (by rw [lb85_] at z_; cases z_), fun z_ => (by cases z_)⟩) (by exact fun z_ => absurd z_ (by decide)) (by exact Nat.zero_le _) (by exact fun z_ => absurd z_ (by decide)) (by exact fun _ => ⟨n85_, K6b.2⟩) (by exact p_ex_x hn1_ pl_ok c85_.2.2.2.1 c85_.2.2.2.2.1 (Nat.zero_le _))) rfl (fun Sx28_ px31_ => ?_) (fun u_ Sx28_ px31_ => ?_)
      · obtain ⟨hIx29_, hFx30_, px31_⟩ := px31_
        refine Or.inr ⟨_, rfl, hIx29_, ai_fr_tr hFx26_ (fr_le hFx30_ rfl), ?_⟩
        obtain ⟨e9_, w1_, w2_⟩ := px31_
        refine ⟨e9_, ?_, w2_, fun i_ => (hFx30_.1 5 i_ 0 rfl).trans (us85_ i_)⟩
        rw [Q6_]; unfold e07; rw [pb_l w1_]
      obtain ⟨vx33_, rfl, hIx29_, hFx30_, px31_⟩ := px31_
      have hFx32_ : ai_fr (sx_W vw_131) S0_ Sx28_ := ai_fr_tr hFx26_ (fr_le hFx30_ rfl)
      obtain ⟨x99_, w99_, a99_, g99_, v99_, vb99_, c99_, lt99_, cd99_, l99_⟩ := px31_
      clear cd99_
      have n99_ := nmr_fr n85_ hFx30_ rfl rfl
      have m99_ := nmr_fr m85_ hFx30_ rfl rfl
      have tb99_ := i_and_m (x_ := vx33_) (y_ := 2 ^ (2 ^ K6_) - 1) (by omega) (by omega)
      have us99_ : ∀ i_, Sx28_.1 5 i_ 0 = S0_.1 5 i_ 0 := fun i_ => (hFx30_.1 5 i_ 0 rfl).trans (us85_ i_)
      have ct99_ := (hFx30_.1 5 ii_ 1 rfl).trans ct85_
      have lb99_ := (hFx30_.2.1 7 0 11 rfl).trans lb85_
      have Q7_ : (p_li b_ n_) = e08 b_ n_ kk_ r55_ (K6_, f6_, q76_) x99_ := by rw [Q6_]; unfold e07; rw [pb_r a99_]
      refine sm_T_go 2 (c1 := (105, [some (.inr (.inr (some (7, 0)))), some (.inr (.inr (some (5, ii_)))), some (.inl g_), some (.inl vx11_), some (.inl (i_shl 1 (Sx22_.2.2.1 77 0 (1 : Int).toNat))), none, none, none], [.inl (i_shl 1 (Sx22_.2.2.1 77 0 (1 : Int).toNat)), .inl 1, .inl vx33_], Sx28_)) rfl ?_
      refine sm_T_bin (w := (i_shl 1 (i_shl 1 (Sx22_.2.2.1 77 0 (1 : Int).toNat)))) rfl rfl ?_
      refine sm_T_go 1 (c1 := (107, [some (.inr (.inr (some (7, 0)))), some (.inr (.inr (some (5, ii_)))), some (.inl g_), some (.inl vx11_), some (.inl (i_shl 1 (Sx22_.2.2.1 77 0 (1 : Int).toNat))), none, none, none], [.inl 1, .inl (i_shl 1 (i_shl 1 (Sx22_.2.2.1 77 0 (1 : Int).toNat))), .inl vx33_], Sx28_)) rfl ?_
      refine sm_T_bin (w := (i_shl 1 (i_shl 1 (Sx22_.2.2.1 77 0 (1 : Int).toNat))) - 1) rfl (bi_sub (by omega) (by omega) (by omega)) ?_
      refine sm_T_bin (w := (i_and vx33_ ((i_shl 1 (i_shl 1 (Sx22_.2.2.1 77 0 (1 : Int).toNat))) - 1))) rfl rfl ?_
      refine sm_T_go 4 (c1 := (117, [some (.inr (.inr (some (7, 0)))), some (.inr (.inr (some (5, ii_)))), some (.inl g_), some (.inl vx11_), some (.inl (i_shl 1 (Sx22_.2.2.1 77 0 (1 : Int).toNat))), some (.inl (i_and vx33_ ((i_shl 1 (i_shl 1 (Sx22_.2.2.1 77 0 (1 : Int).toNat))) - 1))), none, none], [.inl 44, .inr (.inr (some (10, 0)))], Sx28_)) rfl ?_
      refine sm_T_calx (d1 := 2) (Q1 := vq_188 44 b_ n_ x99_.1 Sx28_) (Q2 := vx_188 44 b_ n_ x99_.1 Sx28_) rfl rfl (by decide) (vc_188 44 b_ n_ x99_.1 Sx28_ hIx29_ (by exact c99_)) rfl (fun Sx34_ px37_ => ?_) (fun u_ Sx34_ px37_ => ?_)
      · obtain ⟨hIx35_, hFx36_, px37_⟩ := px37_
        refine Or.inr ⟨_, rfl, hIx35_, ai_fr_tr hFx32_ (fr_le hFx36_ rfl), ?_⟩
        obtain ⟨e9_, w1_, w2_⟩ := px37_
        refine ⟨e9_, ?_, w2_, fun i_ => (hFx36_.1 5 i_ 0 rfl).trans (us99_ i_)⟩
        rw [Q7_]; unfold e08; rw [pb_l w1_]
      obtain ⟨rfl, hIx35_, hFx36_, px37_⟩ := px37_
      have hFx38_ : ai_fr (sx_W vw_131) S0_ Sx34_ := ai_fr_tr hFx32_ (fr_le hFx36_ rfl)
      obtain ⟨r117_, a117_, c117_⟩ := px37_
      have k117_ := p_nd_ok (by decide) c99_.2.2.2.1 a117_
      have us117_ : ∀ i_, Sx34_.1 5 i_ 0 = S0_.1 5 i_ 0 := fun i_ => (hFx36_.1 5 i_ 0 rfl).trans (us99_ i_)
      have ct117_ := (hFx36_.1 5 ii_ 1 rfl).trans ct99_
      have lb117_ := (hFx36_.2.1 7 0 11 rfl).trans lb99_
      have Q8_ : (p_li b_ n_) = e09 b_ n_ kk_ r55_ (K6_, f6_, q76_) (p_tb K6_ (h_tp x99_.2.1)) r117_ := by rw [Q7_]; unfold e08; rw [pb_r a117_]
      have n117_ := nmr_fr n99_ hFx36_ rfl rfl
      have m117_ := nmr_fr m99_ hFx36_ rfl rfl
      refine sm_T_go 2 (c1 := (124, [some (.inr (.inr (some (7, 0)))), some (.inr (.inr (some (5, ii_)))), some (.inl g_), some (.inl vx11_), some (.inl (i_shl 1 (Sx22_.2.2.1 77 0 (1 : Int).toNat))), some (.inl (i_and vx33_ ((i_shl 1 (i_shl 1 (Sx22_.2.2.1 77 0 (1 : Int).toNat))) - 1))), none, none], [.inl 1000, .inr (.inr (some (7, 0)))], Sx34_)) rfl ?_
      refine sm_T_calx (d1 := 2) (Q1 := vq_133 1000 b_ n_ r117_ Sx34_) (Q2 := vx_133 1000 b_ n_ r117_ Sx34_) rfl rfl (by decide) (vc_133 1000 b_ n_ r117_ Sx34_ hIx35_ (by exact c117_)) rfl (fun Sx39_ px42_ => ?_) (fun u_ Sx39_ px42_ => ?_)
      · obtain ⟨hIx40_, hFx41_, px42_⟩ := px42_
        refine Or.inr ⟨_, rfl, hIx40_, ai_fr_tr hFx38_ (fr_le hFx41_ rfl), ?_⟩
        obtain ⟨e9_, w1_, w2_⟩ := px42_
        refine ⟨e9_, ?_, w2_, fun i_ => (hFx41_.1 5 i_ 0 rfl).trans (us117_ i_)⟩
        rw [Q8_]; unfold e09; rw [pb_l w1_]
      obtain ⟨vx44_, rfl, hIx40_, hFx41_, px42_⟩ := px42_
      have hFx43_ : ai_fr (sx_W vw_131) S0_ Sx39_ := ai_fr_tr hFx38_ (fr_le hFx41_ rfl)
      obtain ⟨r124_, a124_, c124_, lt124_, vb124_⟩ := px42_
      have n124_ := nmr_fr n117_ hFx41_ rfl rfl
      have m124_ := nmr_fr m117_ hFx41_ rfl rfl
      obtain ⟨vv124_, hvv124_⟩ : ∃ v_, v_ = vx44_ := ⟨_, rfl⟩
      rw [← hvv124_] at a124_
      have us124_ : ∀ i_, Sx39_.1 5 i_ 0 = S0_.1 5 i_ 0 := fun i_ => (hFx41_.1 5 i_ 0 rfl).trans (us117_ i_)
      have ct124_ := (hFx41_.1 5 ii_ 1 rfl).trans ct117_
      have lb124_ := (hFx41_.2.1 7 0 11 rfl).trans lb117_
      have Q9_ : (p_li b_ n_) = e10 b_ n_ kk_ r55_ (K6_, f6_, q76_) (p_tb K6_ (h_tp x99_.2.1)) (r124_, vv124_) := by rw [Q8_]; unfold e09; rw [pb_r a124_]
      refine sm_T_go 4 (c1 := (135, [some (.inr (.inr (some (7, 0)))), some (.inr (.inr (some (5, ii_)))), some (.inl g_), some (.inl vx11_), some (.inl (i_shl 1 (Sx22_.2.2.1 77 0 (1 : Int).toNat))), some (.inl (i_and vx33_ ((i_shl 1 (i_shl 1 (Sx22_.2.2.1 77 0 (1 : Int).toNat))) - 1))), some (.inl vx44_), none], [.inl 44, .inr (.inr (some (10, 0)))], Sx39_)) rfl ?_
      refine sm_T_calx (d1 := 2) (Q1 := vq_188 44 b_ n_ r124_ Sx39_) (Q2 := vx_188 44 b_ n_ r124_ Sx39_) rfl rfl (by decide) (vc_188 44 b_ n_ r124_ Sx39_ hIx40_ (by exact c124_)) rfl (fun Sx45_ px48_ => ?_) (fun u_ Sx45_ px48_ => ?_)
      · obtain ⟨hIx46_, hFx47_, px48_⟩ := px48_
        refine Or.inr ⟨_, rfl, hIx46_, ai_fr_tr hFx43_ (fr_le hFx47_ rfl), ?_⟩
        obtain ⟨e9_, w1_, w2_⟩ := px48_
        refine ⟨e9_, ?_, w2_, fun i_ => (hFx47_.1 5 i_ 0 rfl).trans (us124_ i_)⟩
        rw [Q9_]; unfold e10; rw [pb_l w1_]
      obtain ⟨rfl, hIx46_, hFx47_, px48_⟩ := px48_
      have hFx49_ : ai_fr (sx_W vw_131) S0_ Sx45_ := ai_fr_tr hFx43_ (fr_le hFx47_ rfl)
      obtain ⟨r135_, a135_, c135_⟩ := px48_
      have k135_ := p_nd_ok (by decide) c124_.2.2.2.1 a135_
      have us135_ : ∀ i_, Sx45_.1 5 i_ 0 = S0_.1 5 i_ 0 := fun i_ => (hFx47_.1 5 i_ 0 rfl).trans (us124_ i_)
      have ct135_ := (hFx47_.1 5 ii_ 1 rfl).trans ct124_
      have lb135_ := (hFx47_.2.1 7 0 11 rfl).trans lb124_
      have Qa_ : (p_li b_ n_) = e11 b_ n_ kk_ r55_ (K6_, f6_, q76_) (p_tb K6_ (h_tp x99_.2.1)) vv124_ r135_ := by rw [Q9_]; unfold e10; rw [pb_r a135_]
      have n135_ := nmr_fr n124_ hFx47_ rfl rfl
      have m135_ := nmr_fr m124_ hFx47_ rfl rfl
      refine sm_T_go 2 (c1 := (141, [some (.inr (.inr (some (7, 0)))), some (.inr (.inr (some (5, ii_)))), some (.inl g_), some (.inl vx11_), some (.inl (i_shl 1 (Sx22_.2.2.1 77 0 (1 : Int).toNat))), some (.inl (i_and vx33_ ((i_shl 1 (i_shl 1 (Sx22_.2.2.1 77 0 (1 : Int).toNat))) - 1))), some (.inl vx44_), none], [.inl 100, .inr (.inr (some (7, 0)))], Sx45_)) rfl ?_
      refine sm_T_calx (d1 := 2) (Q1 := vq_133 100 b_ n_ r135_ Sx45_) (Q2 := vx_133 100 b_ n_ r135_ Sx45_) rfl rfl (by decide) (vc_133 100 b_ n_ r135_ Sx45_ hIx46_ (by exact c135_)) rfl (fun Sx50_ px53_ => ?_) (fun u_ Sx50_ px53_ => ?_)
      · obtain ⟨hIx51_, hFx52_, px53_⟩ := px53_
        refine Or.inr ⟨_, rfl, hIx51_, ai_fr_tr hFx49_ (fr_le hFx52_ rfl), ?_⟩
        obtain ⟨e9_, w1_, w2_⟩ := px53_
        refine ⟨e9_, ?_, w2_, fun i_ => (hFx52_.1 5 i_ 0 rfl).trans (us135_ i_)⟩
        rw [Qa_]; unfold e11; rw [pb_l w1_]
      obtain ⟨vx55_, rfl, hIx51_, hFx52_, px53_⟩ := px53_
      have hFx54_ : ai_fr (sx_W vw_131) S0_ Sx50_ := ai_fr_tr hFx49_ (fr_le hFx52_ rfl)
      obtain ⟨r141_, a141_, c141_, lt141_, vb141_⟩ := px53_
      have n141_ := nmr_fr n135_ hFx52_ rfl rfl
      have m141_ := nmr_fr m135_ hFx52_ rfl rfl
      obtain ⟨vv141_, hvv141_⟩ : ∃ v_, v_ = vx55_ := ⟨_, rfl⟩
      rw [← hvv141_] at a141_
      have us141_ : ∀ i_, Sx50_.1 5 i_ 0 = S0_.1 5 i_ 0 := fun i_ => (hFx52_.1 5 i_ 0 rfl).trans (us135_ i_)
      have ct141_ := (hFx52_.1 5 ii_ 1 rfl).trans ct135_
      have lb141_ := (hFx52_.2.1 7 0 11 rfl).trans lb135_
      have Qb_ : (p_li b_ n_) = e12 b_ n_ kk_ r55_ (K6_, f6_, q76_) (p_tb K6_ (h_tp x99_.2.1)) vv124_ (r141_, vv141_) := by rw [Qa_]; unfold e11; rw [pb_r a141_]
      refine sm_T_go 4 (c1 := (152, [some (.inr (.inr (some (7, 0)))), some (.inr (.inr (some (5, ii_)))), some (.inl g_), some (.inl vx11_), some (.inl (i_shl 1 (Sx22_.2.2.1 77 0 (1 : Int).toNat))), some (.inl (i_and vx33_ ((i_shl 1 (i_shl 1 (Sx22_.2.2.1 77 0 (1 : Int).toNat))) - 1))), some (.inl vx44_), some (.inl vx55_)], [.inl 59, .inr (.inr (some (10, 0)))], Sx50_)) rfl ?_
      refine sm_T_calx (d1 := 2) (Q1 := vq_188 59 b_ n_ r141_ Sx50_) (Q2 := vx_188 59 b_ n_ r141_ Sx50_) rfl rfl (by decide) (vc_188 59 b_ n_ r141_ Sx50_ hIx51_ (by exact c141_)) rfl (fun Sx56_ px59_ => ?_) (fun u_ Sx56_ px59_ => ?_)
      · obtain ⟨hIx57_, hFx58_, px59_⟩ := px59_
        refine Or.inr ⟨_, rfl, hIx57_, ai_fr_tr hFx54_ (fr_le hFx58_ rfl), ?_⟩
        obtain ⟨e9_, w1_, w2_⟩ := px59_
        refine ⟨e9_, ?_, w2_, fun i_ => (hFx58_.1 5 i_ 0 rfl).trans (us141_ i_)⟩
        rw [Qb_]; unfold e12; rw [pb_l w1_]
      obtain ⟨rfl, hIx57_, hFx58_, px59_⟩ := px59_
      have hFx60_ : ai_fr (sx_W vw_131) S0_ Sx56_ := ai_fr_tr hFx54_ (fr_le hFx58_ rfl)
      obtain ⟨r152_, a152_, c152_⟩ := px59_
      have k152_ := p_nd_ok (by decide) c141_.2.2.2.1 a152_
      have us152_ : ∀ i_, Sx56_.1 5 i_ 0 = S0_.1 5 i_ 0 := fun i_ => (hFx58_.1 5 i_ 0 rfl).trans (us141_ i_)
      have ct152_ := (hFx58_.1 5 ii_ 1 rfl).trans ct141_
      have lb152_ := (hFx58_.2.1 7 0 11 rfl).trans lb141_
      have Qc_ : (p_li b_ n_) = kk_ (r55_, K6_, p_tb K6_ (h_tp x99_.2.1), vv124_, vv141_, r152_) := by rw [Qb_]; unfold e12; rw [pb_r a152_]
      have n152_ := nmr_fr n141_ hFx58_ rfl rfl
      have m152_ := nmr_fr m141_ hFx58_ rfl rfl
      have cn1 : Sx56_.2.2.1 77 0 (1 : Int).toNat = (K6_ : Int) := n152_.1
      have P9_ : (p_li b_ n_) = (if lx_kd b_ n_ r152_ = 0 then .inr (g_.toNat + 1, l_up L1_ g_.toNat (r55_, K6_, p_tb K6_ (h_tp x99_.2.1), vv124_, vv141_, r152_)) else p_lb b_ n_ (12 - g_.toNat) (g_.toNat + 1) (n_up f1_ g_.toNat r55_) (l_up L1_ g_.toNat (r55_, K6_, p_tb K6_ (h_tp x99_.2.1), vv124_, vv141_, r152_)) r152_) := by rw [Qc_, hkk_]; rfl
      refine sm_T_go 0 (c1 := (155, [some (.inr (.inr (some (7, 0)))), some (.inr (.inr (some (5, ii_)))), some (.inl g_), some (.inl vx11_), some (.inl (i_shl 1 (Sx22_.2.2.1 77 0 (1 : Int).toNat))), some (.inl (i_and vx33_ ((i_shl 1 (i_shl 1 (Sx22_.2.2.1 77 0 (1 : Int).toNat))) - 1))), some (.inl vx44_), some (.inl vx55_)], [], Sx56_)) rfl ?_
      refine sm_T_wk [some (.inr (.inr (some (7, 0)))), some (.inr (.inr (some (5, ii_)))), some (.inl g_), some (.inl vx11_), none, some (.inl (i_and vx33_ ((i_shl 1 (i_shl 1 (Sx22_.2.2.1 77 0 (1 : Int).toNat))) - 1))), some (.inl vx44_), some (.inl vx55_)] (by exact ⟨rfl, rfl, rfl, rfl, rfl, rfl, rfl, trivial⟩) ?_
      refine ih_.2.2 g_ vx11_ (i_and vx33_ ((i_shl 1 (i_shl 1 (Sx22_.2.2.1 77 0 (1 : Int).toNat))) - 1)) vx44_ vx55_ Sx56_ hIx57_ hFx60_ ⟨?_, ?_, ?_, ?_, ?_, ?_, trivial⟩ ?_
      · exact ⟨h0_.1, gl_⟩
      · exact us152_
      · exact ct152_
      · exact lb152_
      · exact ⟨by rw [sh2_]; exact tb99_, ⟨Int.le_trans (by decide) vb124_.1, vb124_.2⟩, ⟨Int.le_trans (by decide) vb141_.1, vb141_.2⟩⟩
      · exact ⟨f1_, l_up L1_ g_.toNat (r55_, K6_, p_tb K6_ (h_tp x99_.2.1), vv124_, vv141_, r152_), r55_, r152_, K6_, c152_, m152_, cn1, K6b.2, nn62_.2.1, nv_, P9_⟩
      · exact ms49 h0_.2 hm_
    · rintro g_ fr_ tb_ ar_ dl_ S_ hI_ hF_ ⟨h0_, us155_, ct155_, lb155_, tbb_, h1_, -⟩ hm_
      obtain ⟨f1_, L2_, rc_, rn_, K6_, y1_, y2_, K6a, K6b, nmc_, nv_, hP_⟩ := h1_
      have cn0_ : S_.2.2.1 77 0 (0 : Int).toNat = g_ := by have z_ : S_.2.2.1 77 0 0 = (g_.toNat : Int) := y2_.1; show S_.2.2.1 77 0 0 = g_; omega
      have szc_ := nmp_sz nmc_
      have bx1_ : 0 ≤ S_.1 5 ii_ 1 ∧ S_.1 5 ii_ 1 ≤ 12 := hI_.1 5 ii_ 1 rfl
      refine sm_T_go 5 (c1 := (164, [some (.inr (.inr (some (7, 0)))), some (.inr (.inr (some (5, ii_)))), some (.inl g_), some (.inl fr_), none, some (.inl tb_), some (.inl ar_), some (.inl dl_)], [.inl (S_.1 5 ii_ 1), .inl 0, .inr (.inr (some (78, 0)))], S_)) rfl ?_
      refine sm_T_bin (w := (S_.1 5 ii_ 1)) rfl (bi_add (by omega) (by omega) (by omega)) ?_
      refine sm_T_go 1 (c1 := (166, [some (.inr (.inr (some (7, 0)))), some (.inr (.inr (some (5, ii_)))), some (.inl g_), some (.inl fr_), none, some (.inl tb_), some (.inl ar_), some (.inl dl_)], [.inl fr_, .inl (S_.1 5 ii_ 1), .inr (.inr (some (78, 0)))], S_)) rfl ?_
      refine sm_T_iast (n := 640) rfl rfl (by omega) (by omega) ?_
      have hIx2_ : gi (sm_aI S_ 78 0 (S_.1 5 ii_ 1).toNat fr_) := gi_aI hI_ (show 0 ≤ fr_ ∧ fr_ ≤ 65535 from ⟨by omega, by omega⟩)
      have hFx3_ : ai_fr (sx_W vw_131) S0_ (sm_aI S_ 78 0 (S_.1 5 ii_ 1).toNat fr_) := ai_fr_tr hF_ (ai_fr_aI rfl)
      refine sm_T_go 4 (c1 := (173, [some (.inr (.inr (some (7, 0)))), some (.inr (.inr (some (5, ii_)))), some (.inl g_), some (.inl fr_), none, some (.inl tb_), some (.inl ar_), some (.inl dl_)], [.inl 0, .inr (.inr (some (77, 0))), .inl 0, .inr (.inr (some (77, 0)))], sm_aI S_ 78 0 (S_.1 5 ii_ 1).toNat fr_)) rfl ?_
      refine sm_T_iald (n := 17) rfl rfl (by omega) (by omega) ?_
      have bx4_ : 0 ≤ S_.2.2.1 77 0 (0 : Int).toNat ∧ S_.2.2.1 77 0 (0 : Int).toNat ≤ 40 := hI_.2 77 0 _
      refine sm_T_go 1 (c1 := (175, [some (.inr (.inr (some (7, 0)))), some (.inr (.inr (some (5, ii_)))), some (.inl g_), some (.inl fr_), none, some (.inl tb_), some (.inl ar_), some (.inl dl_)], [.inl 1, .inl (S_.2.2.1 77 0 (0 : Int).toNat), .inl 0, .inr (.inr (some (77, 0)))], sm_aI S_ 78 0 (S_.1 5 ii_ 1).toNat fr_)) rfl ?_
      refine sm_T_bin (w := (S_.2.2.1 77 0 (0 : Int).toNat) + 1) rfl (bi_add (by omega) (by omega) (by omega)) ?_
      refine sm_T_iast (n := 17) rfl rfl (by omega) (by omega) ?_
      have hIx5_ : gi (sm_aI (sm_aI S_ 78 0 (S_.1 5 ii_ 1).toNat fr_) 77 0 (0 : Int).toNat ((S_.2.2.1 77 0 (0 : Int).toNat) + 1)) := gi_aI hIx2_ (show 0 ≤ (S_.2.2.1 77 0 (0 : Int).toNat) + 1 ∧ (S_.2.2.1 77 0 (0 : Int).toNat) + 1 ≤ 40 from ⟨by omega, by omega⟩)
      have hFx6_ : ai_fr (sx_W vw_131) S0_ (sm_aI (sm_aI S_ 78 0 (S_.1 5 ii_ 1).toNat fr_) 77 0 (0 : Int).toNat ((S_.2.2.1 77 0 (0 : Int).toNat) + 1)) := ai_fr_tr hFx3_ (ai_fr_aI rfl)
      refine sm_T_go 4 (c1 := (183, [some (.inr (.inr (some (7, 0)))), some (.inr (.inr (some (5, ii_)))), some (.inl g_), some (.inl fr_), none, some (.inl tb_), some (.inl ar_), some (.inl dl_)], [.inl 1, .inr (.inr (some (77, 0))), .inr (.inr (some (5, ii_)))], sm_aI (sm_aI S_ 78 0 (S_.1 5 ii_ 1).toNat fr_) 77 0 (0 : Int).toNat ((S_.2.2.1 77 0 (0 : Int).toNat) + 1))) rfl ?_
      refine sm_T_iald (n := 17) rfl rfl (by omega) (by omega) ?_
      have bx7_ : 0 ≤ (sm_aI (sm_aI S_ 78 0 (S_.1 5 ii_ 1).toNat fr_) 77 0 (0 : Int).toNat ((S_.2.2.1 77 0 (0 : Int).toNat) + 1)).2.2.1 77 0 (1 : Int).toNat ∧ (sm_aI (sm_aI S_ 78 0 (S_.1 5 ii_ 1).toNat fr_) 77 0 (0 : Int).toNat ((S_.2.2.1 77 0 (0 : Int).toNat) + 1)).2.2.1 77 0 (1 : Int).toNat ≤ 40 := hIx5_.2 77 0 _
      refine sm_T_go 3 (c1 := (190, [some (.inr (.inr (some (7, 0)))), some (.inr (.inr (some (5, ii_)))), some (.inl g_), some (.inl fr_), none, some (.inl tb_), some (.inl ar_), some (.inl dl_)], [.inl dl_, .inl ar_, .inl tb_, .inl ((sm_aI (sm_aI S_ 78 0 (S_.1 5 ii_ 1).toNat fr_) 77 0 (0 : Int).toNat ((S_.2.2.1 77 0 (0 : Int).toNat) + 1)).2.2.1 77 0 (1 : Int).toNat), .inr (.inr (some (5, ii_)))], sm_aI (sm_aI S_ 78 0 (S_.1 5 ii_ 1).toNat fr_) 77 0 (0 : Int).toNat ((S_.2.2.1 77 0 (0 : Int).toNat) + 1))) rfl ?_
      refine sm_T_cal (d1 := 0) (Q1 := vq_88 ((sm_aI (sm_aI S_ 78 0 (S_.1 5 ii_ 1).toNat fr_) 77 0 (0 : Int).toNat ((S_.2.2.1 77 0 (0 : Int).toNat) + 1)).2.2.1 77 0 (1 : Int).toNat) tb_ ar_ dl_ ii_ (sm_aI (sm_aI S_ 78 0 (S_.1 5 ii_ 1).toNat fr_) 77 0 (0 : Int).toNat ((S_.2.2.1 77 0 (0 : Int).toNat) + 1))) rfl rfl (by decide) (vc_88 ((sm_aI (sm_aI S_ 78 0 (S_.1 5 ii_ 1).toNat fr_) 77 0 (0 : Int).toNat ((S_.2.2.1 77 0 (0 : Int).toNat) + 1)).2.2.1 77 0 (1 : Int).toNat) tb_ ar_ dl_ ii_ (sm_aI (sm_aI S_ 78 0 (S_.1 5 ii_ 1).toNat fr_) 77 0 (0 : Int).toNat ((S_.2.2.1 77 0 (0 : Int).toNat) + 1)) hIx5_ (by (rw [rd_eq, if_neg (by decide), rd_ne (by decide)]; exact ⟨by rw [K6a]; omega, by rw [K6a]; omega⟩)) (by exact tbb_.1) (by exact tbb_.2.1) (by exact tbb_.2.2) (by (show S_.1 5 ii_ 1 < 12; omega))) (fun u_ Sx8_ px11_ => ?_)
      obtain ⟨rfl, hIx9_, hFx10_, px11_⟩ := px11_
      have hFx12_ : ai_fr (sx_W vw_131) S0_ Sx8_ := ai_fr_tr hFx6_ (fr_le hFx10_ rfl)
      have e190_ := px11_
      have F190_ := hFx10_
      refine sm_T_inc (a := 2) (z := 1) (v := g_) (w := g_ + 1) rfl rfl (by omega) (by omega) (by omega) ?_
      refine sm_T_go 1 (c1 := (26, [some (.inr (.inr (some (7, 0)))), some (.inr (.inr (some (5, ii_)))), some (.inl (g_ + 1)), some (.inl fr_), none, some (.inl tb_), some (.inl ar_), some (.inl dl_)], [], Sx8_)) rfl ?_
      refine sm_T_wk [some (.inr (.inr (some (7, 0)))), some (.inr (.inr (some (5, ii_)))), some (.inl (g_ + 1)), none, none, none, none, none] (by exact ⟨rfl, rfl, rfl, trivial⟩) ?_
      refine ih_.1 (g_ + 1) Sx8_ hIx9_ hFx12_ ⟨?_, ?_, ?_, ?_, ?_, trivial⟩ ?_
      · omega
      · intro i_
        rw [F190_.1 5 i_ 0 rfl]
        exact us155_ i_
      · rw [e190_]
        show S_.1 5 ii_ 1 + 1 = g_ + 1
        omega
      · rw [F190_.2.1 7 0 11 rfl]
        exact lb155_
      · refine ⟨n_up f1_ g_.toNat rc_, L2_, rn_, ct_fr (ct_fr (w_ := ([], [77, 78], [])) y1_ (ai_fr_tr (ai_fr_aI rfl) (ai_fr_aI rfl)) rfl rfl rfl rfl rfl rfl rfl) F190_ rfl rfl rfl rfl rfl rfl rfl, ?_, fun z_ => ?_, fun z1_ z2_ => ?_⟩
        · rw [show (g_ + 1).toNat = g_.toNat + 1 by omega]; exact nmr_fr (nmr_up (p_ := rc_) y2_ nmc_ (by omega) (by rw [rd_eq, if_pos (show (0 : Nat) = (0 : Int).toNat from rfl)]; omega) (fun j_ => by rw [rd_ne (by decide), rd_eq]; by_cases z_ : j_ = 40 * 0 + g_.toNat; (rw [if_pos (by omega), if_pos z_]; exact nv_); (rw [if_neg (by omega), if_neg z_]))) F190_ rfl rfl
        · rw [hP_, if_neg (by omega), show 13 - (g_ + 1).toNat = 12 - g_.toNat by omega, show (g_ + 1).toNat = g_.toNat + 1 by omega]
        · rw [hP_, if_pos z2_, show (g_ + 1).toNat = g_.toNat + 1 by omega]
      · omega
set_option maxHeartbeats 2000000 in
set_option maxRecDepth 20000 in
theorem vc_131 {sc_ : Nat × (Nat → Int)} (b_ : Nat → Int) (n_ : Nat) (ii_ : Nat) (S0_ : sm_S) (hI_ : gi S0_) (hb_ : S0_.2.2.1 98 0 = b_) (hn_ : (S0_.1 10 0 1) = (n_ : Int)) (hn1_ : n_ ≤ 1280) : sm_T (mt_P sc_) 5 131 (0, [some (.inr (.inr (some (7, 0)))), some (.inr (.inr (some (5, ii_)))), none, none, none, none, none, none], [], S0_) (fun r_ => (∃ u_ S1_, r_ = (.inl u_, S1_, 0) ∧ vq_131 b_ n_ ii_ S0_ u_ S1_) ∨ ∃ S1_, r_ = (.inr 2, S1_, 1) ∧ vx_131 b_ n_ ii_ S0_ S1_) := by
  have hF_ : ai_fr (sx_W vw_131) S0_ S0_ := ai_fr_rf
  have hIx1_ : gi (sm_pR S0_ 7 0 11 (some ii_)) := gi_pR hI_
  have hFx2_ : ai_fr (sx_W vw_131) S0_ (sm_pR S0_ 7 0 11 (some ii_)) := ai_fr_tr hF_ (ai_fr_pR rfl)
  have hIx3_ : gi (sm_pI (sm_pR S0_ 7 0 11 (some ii_)) 5 ii_ 1 0) := gi_pI hIx1_ (show 0 ≤ 0 ∧ 0 ≤ 12 from ⟨by omega, by omega⟩)
  have hFx4_ : ai_fr (sx_W vw_131) S0_ (sm_pI (sm_pR S0_ 7 0 11 (some ii_)) 5 ii_ 1 0) := ai_fr_tr hFx2_ (ai_fr_pI rfl)
  refine sm_T_go 10 (c1 := (16, [some (.inr (.inr (some (7, 0)))), some (.inr (.inr (some (5, ii_)))), none, none, none, none, none, none], [.inl 0, .inl 0, .inr (.inr (some (77, 0)))], sm_pI (sm_pR S0_ 7 0 11 (some ii_)) 5 ii_ 1 0)) rfl ?_
  refine sm_T_iast (n := 17) rfl rfl (by omega) (by omega) ?_
  have hIx5_ : gi (sm_aI (sm_pI (sm_pR S0_ 7 0 11 (some ii_)) 5 ii_ 1 0) 77 0 (0 : Int).toNat 0) := gi_aI hIx3_ (show 0 ≤ 0 ∧ 0 ≤ 40 from ⟨by omega, by omega⟩)
  have hFx6_ : ai_fr (sx_W vw_131) S0_ (sm_aI (sm_pI (sm_pR S0_ 7 0 11 (some ii_)) 5 ii_ 1 0) 77 0 (0 : Int).toNat 0) := ai_fr_tr hFx4_ (ai_fr_aI rfl)
  refine sm_T_go 2 (c1 := (21, [some (.inr (.inr (some (7, 0)))), some (.inr (.inr (some (5, ii_)))), none, none, none, none, none, none], [.inr (.inr (some (10, 0)))], sm_aI (sm_pI (sm_pR S0_ 7 0 11 (some ii_)) 5 ii_ 1 0) 77 0 (0 : Int).toNat 0)) rfl ?_
  refine sm_T_calx (d1 := 2) (Q1 := vq_186 b_ n_ (sm_aI (sm_pI (sm_pR S0_ 7 0 11 (some ii_)) 5 ii_ 1 0) 77 0 (0 : Int).toNat 0)) (Q2 := vx_186 b_ n_ (sm_aI (sm_pI (sm_pR S0_ 7 0 11 (some ii_)) 5 ii_ 1 0) 77 0 (0 : Int).toNat 0)) rfl rfl (by decide) (vc_186 b_ n_ (sm_aI (sm_pI (sm_pR S0_ 7 0 11 (some ii_)) 5 ii_ 1 0) 77 0 (0 : Int).toNat 0) hIx5_ (by exact hb_) (by exact hn_) (by exact hn1_)) rfl (fun Sx7_ px10_ => ?_) (fun u_ Sx7_ px10_ => ?_)
  · obtain ⟨hIx8_, hFx9_, px10_⟩ := px10_
    refine Or.inr ⟨_, rfl, hIx8_, ai_fr_tr hFx6_ (fr_le hFx9_ rfl), ?_⟩
    refine ⟨(1, lx_k b_ n_ 0), ?_, px10_.2, fun i_ => (hFx9_.1 5 i_ 0 rfl).trans (rf_nk (by decide))⟩
    unfold p_li; rw [if_pos px10_.1]
  obtain ⟨rfl, hIx8_, hFx9_, px10_⟩ := px10_
  have hFx11_ : ai_fr (sx_W vw_131) S0_ Sx7_ := ai_fr_tr hFx6_ (fr_le hFx9_ rfl)
  have c21_ := px10_
  have us21_ : ∀ i_, Sx7_.1 5 i_ 0 = S0_.1 5 i_ 0 := fun i_ => (hFx9_.1 5 i_ 0 rfl).trans (rf_nk (by decide))
  have ct21_ : Sx7_.1 5 ii_ 1 = 0 := (hFx9_.1 5 ii_ 1 rfl).trans rf_eq
  have lb21_ : Sx7_.2.1 7 0 11 = some ii_ := (hFx9_.2.1 7 0 11 rfl).trans (show (sm_pR S0_ 7 0 11 (some ii_)).2.1 7 0 11 = some ii_ from sm_up_eq rfl)
  have F21_ := hFx9_
  refine sm_T_go 2 (c1 := (26, [some (.inr (.inr (some (7, 0)))), some (.inr (.inr (some (5, ii_)))), some (.inl 0), none, none, none, none, none], [], Sx7_)) rfl ?_
  refine (vl_131 b_ n_ ii_ S0_ hb_ hn_ hn1_ _).1 0 Sx7_ hIx8_ hFx11_ ⟨?_, ?_, ?_, ?_, ?_, trivial⟩ (Nat.lt_succ_self _)
  · omega
  · exact us21_
  · exact ct21_
  · exact lb21_
  · refine ⟨f_0, fun _ => (0, 0, 0, 0), lx_k b_ n_ 0, c21_, ⟨?_, by decide, by decide, fun s_ hs_ => absurd hs_ (Nat.not_lt_zero _)⟩, fun _ => ?_, fun z_ => absurd rfl z_⟩
    · rw [fr_arr F21_ rfl, rd_eq, if_pos (show (0 : Nat) = (0 : Int).toNat from rfl)]; rfl
    · unfold p_li; rw [if_neg c21_.2.2.2.2.1]; rfl
