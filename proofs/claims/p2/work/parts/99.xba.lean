/-! the class reader: next values; written by wip/p55/gen/vg -/

/-! more lemmas -/
theorem dr_dr {b_ : Nat → Int} {n_ M_ k_ i_ : Nat} {A_ : pA} {N_ : Nat → Nat} {c_ : List Int} {S_ : sm_S} (h_ : dr b_ n_ A_ N_ M_ c_ S_) (hk_ : A_.2.2.1 k_ = 3) (hi_ : i_ = k_) : dr b_ n_ (a_dr A_ k_) N_ M_ c_ (sm_aI S_ 79 0 i_ 4) := by
  have f_ : ai_fr (sx_W ([], [79], [])) S_ (sm_aI S_ 79 0 i_ 4) := ai_fr_aI rfl
  refine ⟨⟨h_.1.1, a_dr_ok h_.1.2.1 hk_, fun m_ hm_ => ?_⟩, nr_fr h_.2.1 f_ rfl, cr_fr h_.2.2 f_ rfl rfl rfl⟩
  have y_ := h_.1.2.2 m_ hm_
  unfold er1 at y_ ⊢
  rw [fr_arr (t := 77) f_ rfl, fr_arr (t := 78) f_ rfl, fr_arr (t := 80) f_ rfl, fr_arr (t := 81) f_ rfl]
  refine ⟨y_.1, fun s_ hs_ => ?_⟩
  have z_ := y_.2 s_ hs_
  refine ⟨z_.1, ?_, z_.2.2.1, z_.2.2.2⟩
  rw [rd_eq]
  show (if 40 * m_ + s_ = i_ then (4 : Int) else _) = if 40 * m_ + s_ = k_ then 4 else A_.2.2.1 (40 * m_ + s_)
  rw [hi_]
  split
  · rfl
  · exact z_.2.1
theorem ct_aI {b_ : Nat → Int} {n_ p_ i_ : Nat} {z_ : Int} {S_ : sm_S} (h_ : ct b_ n_ p_ S_) : ct b_ n_ p_ (sm_aI S_ 79 0 i_ z_) := by
  have f_ : ai_fr (sx_W ([], [79], [])) S_ (sm_aI S_ 79 0 i_ z_) := ai_fr_aI rfl
  exact ct_fr h_ f_ rfl rfl rfl rfl rfl rfl rfl
theorem ar_s {b_ : Nat → Int} {n_ M_ m_ s_ pl_ f_ p_ : Nat} {A_ : pA} {i_ : Int} {c_ : List Int} : p_ar b_ n_ A_ M_ m_ s_ pl_ (f_ + 1) i_ c_ p_ = pb (p_xd b_ n_ A_ M_ c_ p_) fun x_ => if i_ ≠ -1 ∧ h_tp x_.2.1 ≠ A_.2.2.2.1 (40 * m_ + i_.toNat) then .inl (13, p_) else if lx_kd b_ n_ x_.1 = 44 then (if p_a2 A_ m_ i_ = -1 then .inl (14, pl_) else pb (p_ad b_ n_ x_.1) fun q_ => p_ar b_ n_ A_ M_ m_ s_ pl_ f_ (p_a2 A_ m_ i_) (p_a1 A_ m_ s_ i_ x_.2.2) q_) else p_ae b_ n_ pl_ (decide (i_ = -1 ∨ p_a2 A_ m_ i_ ≠ -1)) (p_a1 A_ m_ s_ i_ x_.2.2) x_.1 := rfl
theorem p_ni_b {A_ : pA} {m_ k_ : Nat} : p_ni A_ m_ k_ = -1 ∨ ∃ s_ : Nat, p_ni A_ m_ k_ = (s_ : Int) ∧ s_ < A_.1 m_ := by
  have h_ := p_fd_b (f_ := fun s_ => decide (k_ ≤ s_) && decide (A_.2.2.1 (40 * m_ + s_) = 0)) (A_.1 m_)
  have e_ : p_ni A_ m_ k_ = p_fd (fun s_ => decide (k_ ≤ s_) && decide (A_.2.2.1 (40 * m_ + s_) = 0)) (A_.1 m_) := rfl
  by_cases g_ : p_ni A_ m_ k_ = -1
  · exact Or.inl g_
  · exact Or.inr ⟨(p_ni A_ m_ k_).toNat, by omega, by omega⟩
/-! Reader.readNext -/
def vw_127 : sx_Wl := ([(7, 2), (7, 14), (7, 16), (7, 17), (10, 2), (10, 3), (10, 4), (10, 5), (10, 6), (10, 7), (10, 8)], [74, 79, 82, 83, 84], [])
def vq_127 (b_ : Nat → Int) (n_ : Nat) (A_ : pA) (N_ : Nat → Nat) (M_ : Nat) (c_ : List Int) (p_ : Nat) (S0_ : sm_S) (u_ : Option sm_V) (S1_ : sm_S) : Prop := u_ = none ∧ gi S1_ ∧ ai_fr (sx_W vw_127) S0_ S1_ ∧ (∃ r_, p_ne b_ n_ A_ M_ c_ p_ = .inr r_ ∧ ct b_ n_ r_.2.2 S1_ ∧ dr b_ n_ r_.1 N_ M_ r_.2.1 S1_ ∧ r_.2.1.length ≤ 3 * r_.2.2 ∧ p_ < r_.2.2)
def vx_127 (b_ : Nat → Int) (n_ : Nat) (A_ : pA) (N_ : Nat → Nat) (M_ : Nat) (c_ : List Int) (p_ : Nat) (S0_ : sm_S) (S1_ : sm_S) : Prop := gi S1_ ∧ ai_fr (sx_W vw_127) S0_ S1_ ∧ (∃ e_, p_ne b_ n_ A_ M_ c_ p_ = .inl e_ ∧ ter S1_ e_)
set_option maxHeartbeats 400000 in
theorem vc_127 {sc_ : Nat × (Nat → Int)} (b_ : Nat → Int) (n_ : Nat) (A_ : pA) (N_ : Nat → Nat) (M_ : Nat) (c_ : List Int) (p_ : Nat) (S0_ : sm_S) (hI_ : gi S0_) (hc_ : ct b_ n_ p_ S0_) (hd_ : dr b_ n_ A_ N_ M_ c_ S0_) (hl_ : c_.length ≤ 3 * p_) (hk0_ : lx_kd b_ n_ p_ ≠ 0) (hk_ : lx_kd b_ n_ p_ = 1) : sm_T (mt_P sc_) 5 127 (0, [some (.inr (.inr (some (7, 0)))), none, none, none], [], S0_) (fun r_ => (∃ u_ S1_, r_ = (.inl u_, S1_, 0) ∧ vq_127 b_ n_ A_ N_ M_ c_ p_ S0_ u_ S1_) ∨ ∃ S1_, r_ = (.inr 2, S1_, 1) ∧ vx_127 b_ n_ A_ N_ M_ c_ p_ S0_ S1_) := by
  have hF_ : ai_fr (sx_W vw_127) S0_ S0_ := ai_fr_rf
  have st0_ := hc_.2.2.2.2.2.1
  have kd0_ := hc_.2.2.2.2.2.2.2.1
  have hp0_ := hc_.2.2.2.1
  have hn1_ := hc_.2.2.1
  have hM1_ := hd_.1.2.1.1
  have hA1_ := (hd_.1.2.1.2 M_ (Nat.le_refl _)).1
  have bx1_ : 0 ≤ S0_.1 7 0 3 ∧ S0_.1 7 0 3 ≤ 16 := hI_.1 7 0 3 rfl
  refine sm_T_go 5 (c1 := (9, [some (.inr (.inr (some (7, 0)))), none, none, none], [.inr (.inr (some (10, 0))), .inl (S0_.1 7 0 3), .inr (.inr (some (7, 0)))], S0_)) rfl ?_
  refine sm_T_cal (d1 := 0) (Q1 := vq_189 b_ n_ p_ S0_) rfl rfl (by decide) (vc_189 b_ n_ p_ S0_ hI_ (by exact hc_) (by exact hk_)) (fun u_ Sx2_ px5_ => ?_)
  obtain ⟨rfl, vx7_, rfl, px5_⟩ := px5_
  have e9_ := px5_
  refine sm_T_cal (d1 := 1) (Q1 := vq_119 (S0_.1 7 0 3) vx7_ b_ n_ M_ (A_.1 M_) (fun s_ => A_.2.1 (40 * M_ + s_)) p_ S0_) rfl rfl (by decide) (vc_119 (S0_.1 7 0 3) vx7_ b_ n_ M_ (A_.1 M_) (fun s_ => A_.2.1 (40 * M_ + s_)) p_ S0_ hI_ (by exact hc_.1) (by exact hn1_) (by exact hd_.1.1) (by exact er_nmr hd_.1 (Nat.le_refl _)) (by exact e9_) (by exact ⟨hc_.2.2.2.1, hk_⟩)) (fun u_ Sx8_ px11_ => ?_)
  obtain ⟨rfl, vx13_, rfl, px11_⟩ := px11_
  have e20_ : vx13_ = p_fn b_ n_ A_ M_ p_ := px11_
  have hM_ := hd_.1.1
  have hfb_ := p_fd_b (f_ := fun s_ => nm_q b_ n_ (A_.2.1 (40 * M_ + s_)) p_) (A_.1 M_)
  have hf0_ : p_fn b_ n_ A_ M_ p_ = p_fd (fun s_ => nm_q b_ n_ (A_.2.1 (40 * M_ + s_)) p_) (A_.1 M_) := rfl
  have hix_ : ∀ s_ : Nat, vx13_ = (s_ : Int) → (40 * (S0_.1 7 0 3) + vx13_).toNat = 40 * M_ + s_ := by intro s_ z_; omega
  refine sm_T_go 4 (c1 := (22, [some (.inr (.inr (some (7, 0)))), some (.inl vx13_), none, none], [.inl 40, .inl (S0_.1 7 0 3)], S0_)) rfl ?_
  refine sm_T_bin (w := 40 * (S0_.1 7 0 3)) rfl (bi_mul (by omega) (by omega) (by omega)) ?_
  refine sm_T_go 1 (c1 := (24, [some (.inr (.inr (some (7, 0)))), some (.inl vx13_), none, none], [.inl vx13_, .inl (40 * (S0_.1 7 0 3))], S0_)) rfl ?_
  refine sm_T_bin (w := 40 * (S0_.1 7 0 3) + vx13_) rfl (bi_add (by omega) (by omega) (by omega)) ?_
  refine sm_T_go 3 (c1 := (28, [some (.inr (.inr (some (7, 0)))), some (.inl vx13_), some (.inl (40 * (S0_.1 7 0 3) + vx13_)), none], [.inl (-1), .inl vx13_], S0_)) rfl ?_
  refine sm_T_br (a := 0) (z := 13) rfl (fun cx14_ => ?_) (fun cx14_ => ?_)
  · have cx14_ : vx13_ = (-1) := of_decide_eq_true cx14_
    have bx15_ : 0 ≤ S0_.1 10 0 3 ∧ S0_.1 10 0 3 ≤ 1280 := hI_.1 10 0 3 rfl
    refine sm_T_go 6 (c1 := (54, [some (.inr (.inr (some (7, 0)))), some (.inl vx13_), some (.inl (40 * (S0_.1 7 0 3) + vx13_)), none], [.inl (S0_.1 10 0 3), .inl 11, .inr (.inr (some (10, 0)))], S0_)) rfl ?_
    refine sm_T_calx (d1 := 0) (Q1 := vq_187 11 (S0_.1 10 0 3) S0_) (Q2 := vx_187 11 (S0_.1 10 0 3) S0_) rfl rfl (by decide) (vc_187 11 (S0_.1 10 0 3) S0_ hI_ (by decide) (by omega)) rfl (fun Sx16_ px19_ => ?_) (fun u_ Sx16_ px19_ => ?_)
    · obtain ⟨hIx17_, hFx18_, px19_⟩ := px19_
      refine Or.inr ⟨_, rfl, hIx17_, ai_fr_tr hF_ (fr_le hFx18_ rfl), ?_⟩
      refine ⟨(11, p_), ?_, px19_.1, px19_.2.trans st0_⟩
      unfold p_ne; first | (rw [if_pos (Or.inl (by omega))]) | (rw [if_pos (Or.inr (by rw [q3_, ← t0_.1]; assumption))])
    · exact (px19_.2.2.2).elim
  · have cx14_ : ¬ (vx13_ = (-1)) := of_decide_eq_false cx14_
    obtain ⟨s9_, q1_, q2_, q3_, -⟩ := p_fn_b (b_ := b_) (n_ := n_) (A_ := A_) (m_ := M_) (p_ := p_) (by omega)
    have hiy_ := hix_ s9_ (e20_.trans q1_)
    have t0_ := er_at hd_.1 q2_ hiy_
    refine sm_T_go 3 (c1 := (36, [some (.inr (.inr (some (7, 0)))), some (.inl vx13_), some (.inl (40 * (S0_.1 7 0 3) + vx13_)), none], [.inl (40 * (S0_.1 7 0 3) + vx13_), .inr (.inr (some (79, 0)))], S0_)) rfl ?_
    refine sm_T_iald (n := 640) rfl rfl (by omega) (by omega) ?_
    have bx21_ : 0 ≤ S0_.2.2.1 79 0 (40 * (S0_.1 7 0 3) + vx13_).toNat ∧ S0_.2.2.1 79 0 (40 * (S0_.1 7 0 3) + vx13_).toNat ≤ 5 := hI_.2 79 0 _
    refine sm_T_go 1 (c1 := (38, [some (.inr (.inr (some (7, 0)))), some (.inl vx13_), some (.inl (40 * (S0_.1 7 0 3) + vx13_)), none], [.inl 3, .inl (S0_.2.2.1 79 0 (40 * (S0_.1 7 0 3) + vx13_).toNat)], S0_)) rfl ?_
    refine sm_T_br (a := 0) (z := 19) rfl (fun cx22_ => ?_) (fun cx22_ => ?_)
    · have cx22_ : (S0_.2.2.1 79 0 (40 * (S0_.1 7 0 3) + vx13_).toNat) = 3 := of_decide_eq_true cx22_
      have h3_ : A_.2.2.1 (40 * M_ + s9_) = 3 := by omega
      have hng_ : ¬ (p_fn b_ n_ A_ M_ p_ = -1 ∨ A_.2.2.1 (40 * M_ + (p_fn b_ n_ A_ M_ p_).toNat) ≠ 3) := by rintro (z_ | z_); omega; (rw [q3_] at z_; exact z_ h3_)
      refine sm_T_go 2 (c1 := (61, [some (.inr (.inr (some (7, 0)))), some (.inl vx13_), some (.inl (40 * (S0_.1 7 0 3) + vx13_)), none], [.inr (.inr (some (10, 0)))], S0_)) rfl ?_
      refine sm_T_calx (d1 := 1) (Q1 := vq_191 b_ n_ (lx_en b_ n_ p_) S0_) (Q2 := vx_191 b_ n_ (lx_en b_ n_ p_) S0_) rfl rfl (by decide) (vc_191 b_ n_ (lx_en b_ n_ p_) S0_ hI_ (by exact hc_.1) (by exact hc_.2.1) (by exact hc_.2.2.1) (by exact hc_.2.2.2.2.2.2.1) (by exact (lx_en_le (b := b_) hc_.2.2.2.1).2)) rfl (fun Sx23_ px26_ => ?_) (fun u_ Sx23_ px26_ => ?_)
      · obtain ⟨hIx24_, hFx25_, px26_⟩ := px26_
        refine Or.inr ⟨_, rfl, hIx24_, ai_fr_tr hF_ (fr_le hFx25_ rfl), ?_⟩
        refine ⟨(1, (lx_nx b_ n_ p_)), ?_, px26_.2⟩
        unfold p_ne; rw [if_neg hng_, pb_l (p_ad_x px26_.1)]
      obtain ⟨rfl, hIx24_, hFx25_, px26_⟩ := px26_
      have hFx27_ : ai_fr (sx_W vw_127) S0_ Sx23_ := ai_fr_tr hF_ (fr_le hFx25_ rfl)
      have ex28_ : Sx23_.1 7 0 3 = S0_.1 7 0 3 := hFx25_.1 7 0 3 rfl
      have c1_ : ct b_ n_ (lx_nx b_ n_ p_) _ := px26_
      have a1_ := p_ad_c px26_
      have d1_ := dr_fr hd_ hFx25_ rfl rfl rfl rfl rfl rfl rfl rfl rfl rfl
      have k1_ := p_ad_ok hc_.2.2.2.1 (by omega) a1_
      have st1_ := c1_.2.2.2.2.2.1
      have kd1_ := c1_.2.2.2.2.2.2.2.1
      have hp1_ := c1_.2.2.2.1
      have bx29_ : 0 ≤ Sx23_.1 10 0 3 ∧ Sx23_.1 10 0 3 ≤ 1280 := hIx24_.1 10 0 3 rfl
      refine sm_T_go 7 (c1 := (79, [some (.inr (.inr (some (7, 0)))), some (.inl vx13_), some (.inl (40 * (S0_.1 7 0 3) + vx13_)), some (.inl (Sx23_.1 10 0 3))], [.inl 256, .inr (.inr (some (10, 0)))], Sx23_)) rfl ?_
      refine sm_T_calx (d1 := 2) (Q1 := vq_188 256 b_ n_ (lx_nx b_ n_ p_) Sx23_) (Q2 := vx_188 256 b_ n_ (lx_nx b_ n_ p_) Sx23_) rfl rfl (by decide) (vc_188 256 b_ n_ (lx_nx b_ n_ p_) Sx23_ hIx24_ (by exact c1_)) rfl (fun Sx30_ px33_ => ?_) (fun u_ Sx30_ px33_ => ?_)
      · obtain ⟨hIx31_, hFx32_, px33_⟩ := px33_
        refine Or.inr ⟨_, rfl, hIx31_, ai_fr_tr hFx27_ (fr_le hFx32_ rfl), ?_⟩
        obtain ⟨e_, w1_, w2_⟩ := px33_
        refine ⟨e_, ?_, w2_⟩
        unfold p_ne; rw [if_neg hng_, pb_r a1_, pb_l w1_]
      obtain ⟨rfl, hIx31_, hFx32_, px33_⟩ := px33_
      have hFx34_ : ai_fr (sx_W vw_127) S0_ Sx30_ := ai_fr_tr hFx27_ (fr_le hFx32_ rfl)
      obtain ⟨r2_, a2_, c2_⟩ := px33_
      have k2_ := p_nd_ok (by decide) c1_.2.2.2.1 a2_
      have d2_ := dr_fr d1_ hFx32_ rfl rfl rfl rfl rfl rfl rfl rfl rfl rfl
      have st2_ := c2_.2.2.2.2.2.1
      have kd2_ := c2_.2.2.2.2.2.2.2.1
      have hp2_ := c2_.2.2.2.1
      refine sm_T_go 1 (c1 := (83, [some (.inr (.inr (some (7, 0)))), some (.inl vx13_), some (.inl (40 * (S0_.1 7 0 3) + vx13_)), some (.inl (Sx23_.1 10 0 3))], [.inr (.inr (some (7, 0)))], Sx30_)) rfl ?_
      refine sm_T_calx (d1 := 4) (Q1 := vq_134 b_ n_ false A_ M_ 0 (fun _ => 0) (p_xd b_ n_ A_ M_ c_ r2_) c_ r2_ Sx30_) (Q2 := vx_134 b_ n_ false A_ M_ 0 (fun _ => 0) (p_xd b_ n_ A_ M_ c_ r2_) c_ r2_ Sx30_) rfl rfl (by decide) (vc_134 b_ n_ false A_ M_ 0 (fun _ => 0) (p_xd b_ n_ A_ M_ c_ r2_) c_ r2_ Sx30_ hIx31_ (by exact c2_) (by exact ⟨fun _ => rfl, fun _ => d2_.2.2.1⟩) (by exact fun _ => d2_.2.2.2) (by omega) (by exact fun _ => d2_.1) (by exact fun z_ => absurd z_ (by decide)) (by exact p_ex_x hn1_ (pd_ok d2_.1.2.1) c2_.2.2.2.1 c2_.2.2.2.2.1 (by omega))) rfl (fun Sx35_ px38_ => ?_) (fun u_ Sx35_ px38_ => ?_)
      · obtain ⟨hIx36_, hFx37_, px38_⟩ := px38_
        refine Or.inr ⟨_, rfl, hIx36_, ai_fr_tr hFx34_ (fr_le hFx37_ rfl), ?_⟩
        obtain ⟨e_, w1_, w2_⟩ := px38_
        refine ⟨e_, ?_, w2_⟩
        unfold p_ne; rw [if_neg hng_, pb_r a1_, pb_r a2_, pb_l w1_]
      obtain ⟨vx40_, rfl, hIx36_, hFx37_, px38_⟩ := px38_
      have hFx39_ : ai_fr (sx_W vw_127) S0_ Sx35_ := ai_fr_tr hFx34_ (fr_le hFx37_ rfl)
      obtain ⟨x3_, w3_, a3_, g3_, v3_, vb3_, c3_, lt3_, cd3_, l3_⟩ := px38_
      have d3_ : dr b_ n_ A_ N_ M_ x3_.2.2 Sx35_ := ⟨er_fr d2_.1 hFx37_ rfl rfl rfl rfl rfl rfl, nr_fr d2_.2.1 hFx37_ rfl, (hFx37_.2.1 7 0 11 rfl).trans d2_.2.2.1, cd3_ rfl⟩
      have t3_ : h_tp x3_.2.1 = vx40_ := by rw [g3_, v3_]; rfl
      obtain ⟨o3_, g3x, xs3_⟩ := xs_ex hIx36_ d3_.2.2.1 d3_.2.2.2.1 d3_.2.2.2.2
      have m3_ : Sx35_.2.2.1 77 0 (Sx35_.1 7 0 3).toNat = (A_.1 M_ : Int) := by rw [d3_.1.1, Int.toNat_natCast]; exact (d3_.1.2.2 M_ (Nat.le_refl _)).1
      have st3_ := c3_.2.2.2.2.2.1
      have kd3_ := c3_.2.2.2.2.2.2.2.1
      have hp3_ := c3_.2.2.2.1
      have t3a := er_at d3_.1 q2_ hiy_
      refine sm_T_go 3 (c1 := (91, [some (.inr (.inr (some (7, 0)))), some (.inl vx13_), some (.inl (40 * (S0_.1 7 0 3) + vx13_)), some (.inl (Sx23_.1 10 0 3))], [.inl (40 * (S0_.1 7 0 3) + vx13_), .inr (.inr (some (80, 0))), .inl vx40_], Sx35_)) rfl ?_
      refine sm_T_iald (n := 640) rfl rfl (by omega) (by omega) ?_
      have bx41_ : 0 ≤ Sx35_.2.2.1 80 0 (40 * (S0_.1 7 0 3) + vx13_).toNat ∧ Sx35_.2.2.1 80 0 (40 * (S0_.1 7 0 3) + vx13_).toNat ≤ 8 := hIx36_.2 80 0 _
      refine sm_T_br (a := 0) (z := 13) rfl (fun cx42_ => ?_) (fun cx42_ => ?_)
      · have cx42_ : vx40_ = (Sx35_.2.2.1 80 0 (40 * (S0_.1 7 0 3) + vx13_).toNat) := of_decide_eq_true cx42_
        refine sm_T_go 4 (c1 := (110, [some (.inr (.inr (some (7, 0)))), some (.inl vx13_), some (.inl (40 * (S0_.1 7 0 3) + vx13_)), some (.inl (Sx23_.1 10 0 3))], [.inl 0, .inl vx13_, .inl 14, .inr (.inr (some (7, 0)))], Sx35_)) rfl ?_
        refine sm_T_cal (d1 := 0) (Q1 := vq_140 14 vx13_ 0 o3_ g3x x3_.2.2 Sx35_) rfl rfl (by decide) (vc_140 14 vx13_ 0 o3_ g3x x3_.2.2 Sx35_ hIx36_ (by exact xs3_) (by decide) (by omega) (by first | decide | omega) (by omega)) (fun u_ Sx43_ px46_ => ?_)
        obtain ⟨rfl, hIx44_, hFx45_, px46_⟩ := px46_
        have hFx47_ : ai_fr (sx_W vw_127) S0_ Sx43_ := ai_fr_tr hFx39_ (fr_le hFx45_ rfl)
        have z4_ := px46_
        rw [e20_] at z4_
        have d4_ : dr b_ n_ A_ N_ M_ (cw 14 (p_fn b_ n_ A_ M_ p_) 0 :: x3_.2.2) Sx43_ := ⟨er_fr d3_.1 hFx45_ rfl rfl rfl rfl rfl rfl, nr_fr d3_.2.1 hFx45_ rfl, (hFx45_.2.1 7 0 11 rfl).trans d3_.2.2.1, z4_.2.2.2.2.2.2 rfl⟩
        have c4_ := ct_fr c3_ hFx45_ rfl rfl rfl rfl rfl rfl rfl
        have st4_ := c4_.2.2.2.2.2.1
        have kd4_ := c4_.2.2.2.2.2.2.2.1
        have hp4_ := c4_.2.2.2.1
        refine sm_T_go 4 (c1 := (119, [some (.inr (.inr (some (7, 0)))), some (.inl vx13_), some (.inl (40 * (S0_.1 7 0 3) + vx13_)), some (.inl (Sx23_.1 10 0 3))], [.inl 4, .inl (40 * (S0_.1 7 0 3) + vx13_), .inr (.inr (some (79, 0)))], Sx43_)) rfl ?_
        refine sm_T_iast (n := 640) rfl rfl (by omega) (by omega) ?_
        have hIx48_ : gi (sm_aI Sx43_ 79 0 (40 * (S0_.1 7 0 3) + vx13_).toNat 4) := gi_aI hIx44_ (show 0 ≤ 4 ∧ 4 ≤ 5 from ⟨by omega, by omega⟩)
        have hFx49_ : ai_fr (sx_W vw_127) S0_ (sm_aI Sx43_ 79 0 (40 * (S0_.1 7 0 3) + vx13_).toNat 4) := ai_fr_tr hFx47_ (ai_fr_aI rfl)
        refine sm_T_go 3 (c1 := (126, [some (.inr (.inr (some (7, 0)))), some (.inl vx13_), some (.inl (40 * (S0_.1 7 0 3) + vx13_)), some (.inl (Sx23_.1 10 0 3))], [.inl 59, .inr (.inr (some (10, 0)))], sm_aI Sx43_ 79 0 (40 * (S0_.1 7 0 3) + vx13_).toNat 4)) rfl ?_
        refine sm_T_calx (d1 := 2) (Q1 := vq_188 59 b_ n_ x3_.1 (sm_aI Sx43_ 79 0 (40 * (S0_.1 7 0 3) + vx13_).toNat 4)) (Q2 := vx_188 59 b_ n_ x3_.1 (sm_aI Sx43_ 79 0 (40 * (S0_.1 7 0 3) + vx13_).toNat 4)) rfl rfl (by decide) (vc_188 59 b_ n_ x3_.1 (sm_aI Sx43_ 79 0 (40 * (S0_.1 7 0 3) + vx13_).toNat 4) hIx48_ (by exact (ct_aI c4_))) rfl (fun Sx50_ px53_ => ?_) (fun u_ Sx50_ px53_ => ?_)
        · obtain ⟨hIx51_, hFx52_, px53_⟩ := px53_
          refine Or.inr ⟨_, rfl, hIx51_, ai_fr_tr hFx49_ (fr_le hFx52_ rfl), ?_⟩
          obtain ⟨e_, w1_, w2_⟩ := px53_
          refine ⟨e_, ?_, w2_⟩
          unfold p_ne; rw [if_neg hng_, pb_r a1_, pb_r a2_, pb_r a3_, if_pos (by rw [t3_, q3_, ← t3a.2.1]; assumption), pb_l w1_]
        obtain ⟨rfl, hIx51_, hFx52_, px53_⟩ := px53_
        have hFx54_ : ai_fr (sx_W vw_127) S0_ Sx50_ := ai_fr_tr hFx49_ (fr_le hFx52_ rfl)
        obtain ⟨r5_, a5_, c5_⟩ := px53_
        have k5_ := p_nd_ok (by decide) c4_.2.2.2.1 a5_
        have st5_ := c5_.2.2.2.2.2.1
        have kd5_ := c5_.2.2.2.2.2.2.2.1
        have hp5_ := c5_.2.2.2.1
        have d5_ := dr_fr (dr_dr d4_ h3_ hiy_) hFx52_ rfl rfl rfl rfl rfl rfl rfl rfl rfl rfl
        refine sm_T_rv rfl (Or.inl ⟨_, _, rfl, rfl, hIx51_, hFx54_, ?_⟩)
        rw [← q3_] at d5_
        exact ⟨_, by unfold p_ne; rw [if_neg hng_, pb_r a1_, pb_r a2_, pb_r a3_, if_pos (by rw [t3_, q3_, ← t3a.2.1]; assumption), pb_r a5_], c5_, d5_, by show x3_.2.2.length + 1 ≤ 3 * r5_; omega, by show p_ < r5_; omega⟩
      · have cx42_ : ¬ (vx40_ = (Sx35_.2.2.1 80 0 (40 * (S0_.1 7 0 3) + vx13_).toNat)) := of_decide_eq_false cx42_
        refine sm_T_go 4 (c1 := (102, [some (.inr (.inr (some (7, 0)))), some (.inl vx13_), some (.inl (40 * (S0_.1 7 0 3) + vx13_)), some (.inl (Sx23_.1 10 0 3))], [.inl (Sx23_.1 10 0 3), .inl 13, .inr (.inr (some (10, 0)))], Sx35_)) rfl ?_
        refine sm_T_calx (d1 := 0) (Q1 := vq_187 13 (Sx23_.1 10 0 3) Sx35_) (Q2 := vx_187 13 (Sx23_.1 10 0 3) Sx35_) rfl rfl (by decide) (vc_187 13 (Sx23_.1 10 0 3) Sx35_ hIx36_ (by decide) (by omega)) rfl (fun Sx55_ px58_ => ?_) (fun u_ Sx55_ px58_ => ?_)
        · obtain ⟨hIx56_, hFx57_, px58_⟩ := px58_
          refine Or.inr ⟨_, rfl, hIx56_, ai_fr_tr hFx39_ (fr_le hFx57_ rfl), ?_⟩
          refine ⟨(13, (lx_nx b_ n_ p_)), ?_, px58_.1, px58_.2.trans st1_⟩
          unfold p_ne; rw [if_neg hng_, pb_r a1_, pb_r a2_, pb_r a3_]; rw [if_neg (by rw [t3_, q3_, ← t3a.2.1]; assumption)]
        · exact (px58_.2.2.2).elim
    · have cx22_ : ¬ ((S0_.2.2.1 79 0 (40 * (S0_.1 7 0 3) + vx13_).toNat) = 3) := of_decide_eq_false cx22_
      have bx60_ : 0 ≤ S0_.1 10 0 3 ∧ S0_.1 10 0 3 ≤ 1280 := hI_.1 10 0 3 rfl
      refine sm_T_go 6 (c1 := (54, [some (.inr (.inr (some (7, 0)))), some (.inl vx13_), some (.inl (40 * (S0_.1 7 0 3) + vx13_)), none], [.inl (S0_.1 10 0 3), .inl 11, .inr (.inr (some (10, 0)))], S0_)) rfl ?_
      refine sm_T_calx (d1 := 0) (Q1 := vq_187 11 (S0_.1 10 0 3) S0_) (Q2 := vx_187 11 (S0_.1 10 0 3) S0_) rfl rfl (by decide) (vc_187 11 (S0_.1 10 0 3) S0_ hI_ (by decide) (by omega)) rfl (fun Sx61_ px64_ => ?_) (fun u_ Sx61_ px64_ => ?_)
      · obtain ⟨hIx62_, hFx63_, px64_⟩ := px64_
        refine Or.inr ⟨_, rfl, hIx62_, ai_fr_tr hF_ (fr_le hFx63_ rfl), ?_⟩
        refine ⟨(11, p_), ?_, px64_.1, px64_.2.trans st0_⟩
        unfold p_ne; first | (rw [if_pos (Or.inl (by omega))]) | (rw [if_pos (Or.inr (by rw [q3_, ← t0_.1]; assumption))])
      · exact (px64_.2.2.2).elim
