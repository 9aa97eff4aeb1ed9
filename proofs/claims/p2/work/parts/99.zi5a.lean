/-! the reference: design; written by wip/p55/gen/vg -/

/-! the_ reference: a_ text becomes a_ design -/
/-- the_ sums that both programs tell come to_ the_ same -/
theorem rT_lm {b_ : Nat → Int} {n_ T_ : Nat} {r_ : pD} {S_ : sm_S} (hn_ : n_ ≤ 1280) (hr_ : p_de b_ n_ = .inr r_) (h_ : rT b_ n_ T_ r_.1 r_.2.1 r_.2.2.1 S_) : p_lm (S_.2.2.1 135 0 (r_.2.2.1 - 1)) (S_.2.2.1 132 0 (r_.2.2.1 - 1)) (S_.2.2.1 134 0 (r_.2.2.1 - 1)) (S_.2.2.1 133 0 (r_.2.2.1 - 1)) = d_lm r_ ∧ S_.2.2.1 132 0 (d_tp r_) = (d_I r_ : Int) ∧ (d_lm r_ = 0 → S_.2.2.1 134 0 (d_tp r_) = (d_R r_ : Int)) := by
  obtain ⟨h1_, h2_⟩ := de_ch hn_ hr_
  obtain ⟨i1_, i2_, i3_, i4_, i5_⟩ := d_in hn_ hr_
  have hA_ : ∀ m_, m_ < r_.2.2.1 → a_ok b_ n_ r_.1 m_ := fun m_ hm_ => (h1_ m_ hm_).2
  have g_ := g_sum hA_
  have rs_ := h_.2.2.2.2.1
  have s_ := sat_eq (r1_ := S_.2.2.1 134 0) (i1_ := S_.2.2.1 135 0) (r2_ := gR r_.1 r_.2.2.1) (i2_ := gI r_.1 r_.2.2.1) hA_ (fun m_ hm_ => (rs_ m_ hm_).2.2.1) (fun m_ hm_ => (g_.2 m_ hm_).1) (fun m_ hm_ => (rs_ m_ hm_).2.2.2) (fun m_ hm_ => (g_.2 m_ hm_).2) (d_tp r_ + 1) (d_tp r_) (by omega) i3_
  have t_ := rs_ (d_tp r_) i3_
  have e_ : p_lm (S_.2.2.1 135 0 (d_tp r_)) (S_.2.2.1 132 0 (d_tp r_)) (S_.2.2.1 134 0 (d_tp r_)) (S_.2.2.1 133 0 (d_tp r_)) = d_lm r_ := by
    rw [s_.1.1, s_.2.1, t_.1, t_.2.1, lm_sat s_.2.2 s_.1.2 (by rw [← i1_]; omega)]
    rfl
  refine ⟨e_, by rw [t_.1, i1_], fun l0_ => ?_⟩
  have l_ := lm_0 l0_
  rw [s_.1.1, i2_]
  unfold mn
  rw [if_neg (by omega)]
theorem gmd_of {b_ : Nat → Int} {n_ T_ m_ : Nat} {r_ : pD} {S_ : sm_S} (hn_ : n_ ≤ 1280) (hr_ : p_de b_ n_ = .inr r_) (h_ : rT b_ n_ T_ r_.1 r_.2.1 r_.2.2.1 S_) (hm_ : m_ < r_.2.2.1) : gmd b_ n_ T_ r_.1 r_.2.1 (dC r_) m_ S_ := by
  obtain ⟨h1_, h2_⟩ := de_ch hn_ hr_
  obtain ⟨f_, A_, c0_, u_, ce_, l_, w1_, w2_, w3_, w4_, -⟩ := dC_r hn_ (h1_ m_ hm_).1
  obtain ⟨u'_, i_, y1_, y2_, y3_⟩ := h_.2.2.2.2.2.2 m_ hm_
  have e_ : u'_ = u_ := by
    unfold bod at w4_
    rw [y1_] at w4_
    cases w4_
    rfl
  exact ⟨f_, A_, c0_, u_, ce_, i_, w1_, w2_, w3_, by rw [← e_]; exact y2_, y3_⟩
def pD0 : pD := ((fun _ => 0, fun _ => 0, fun _ => 0, fun _ => 0, fun _ => 0), fun _ => 0, 0, fun _ => 0, [])
def gz0 : gQ × gE := (([], 0, 0), fun _ => [])
/-- what the_ reference knows when it_ has_ read a_ text -/
def rdy (b_ : Nat → Int) (n_ T_ : Nat) (r_ : pD) (z_ : gQ × gE) (S_ : sm_S) : Prop := p_de b_ n_ = .inr r_ ∧ d_lm r_ = 0 ∧ d_gr r_ z_ ∧ z_.1.2.1 = d_R r_ ∧ (∀ s_, s_ < r_.1.1 (d_tp r_) → r_.1.2.2.1 (40 * d_tp r_ + s_) ≠ 5 → ((z_.2 s_).length : Int) = r_.1.2.2.2.1 (40 * d_tp r_ + s_)) ∧ rT b_ n_ T_ r_.1 r_.2.1 r_.2.2.1 S_
/-! M_.design -/
def vw_363 : sx_Wl := ([(13, 0), (13, 2), (13, 3), (13, 9), (13, 10), (13, 11), (13, 12), (13, 25), (13, 26), (13, 27), (13, 28), (13, 29), (13, 32), (13, 33), (13, 34), (13, 37), (13, 38), (13, 52), (13, 53), (13, 79)], [119, 120, 121, 122, 123, 124, 125, 126, 127, 128, 129, 130, 131, 132, 133, 134, 135, 136, 137, 138, 139, 140, 141, 142, 143, 144, 145, 146, 147, 148, 149, 150, 151, 152, 153, 154, 155, 156, 157, 158, 159, 160, 161, 162, 163, 164, 165, 166, 167, 168, 169, 170, 171, 172, 173, 174, 175, 176], [])
def vq_363 (b_ : Nat → Int) (n_ : Nat) (S0_ : sm_S) (u_ : Option sm_V) (S1_ : sm_S) : Prop := ∃ v_ : Int, u_ = some (.inl v_) ∧ gi S1_ ∧ ai_fr (sx_W vw_363) S0_ S1_ ∧ (((S1_.1 13 0 0) = 1 ∧ (∀ j_ : Nat, j_ < 6 → S0_.2.2.1 153 0 j_ = 1) ∧ (S1_.1 13 0 2) = (S0_.1 13 0 2) ∧ rdf 6 S0_ S1_) ∨ ((S1_.1 13 0 0) = 0 ∧ ∃ sl_ : Nat, sl_ < 6 ∧ S0_.2.2.1 153 0 sl_ = 0 ∧ (∀ j_ : Nat, j_ < sl_ → S0_.2.2.1 153 0 j_ = 1) ∧ (S1_.1 13 0 2) = 0 ∧ rdf sl_ S0_ S1_ ∧ ((dacc b_ n_ ∧ S1_.2.2.1 153 0 sl_ = 1 ∧ dRk sl_ S1_) ∨ (¬ dacc b_ n_ ∧ S1_.2.2.1 153 0 sl_ = 0))))
set_option maxHeartbeats 3000000 in
set_option maxRecDepth 20000 in
theorem vc_363 {sc_ : Nat × (Nat → Int)} (b_ : Nat → Int) (n_ : Nat) (S0_ : sm_S) (hI_ : gi S0_) (hb_ : S0_.2.2.1 118 0 = b_) (hn_ : (S0_.1 13 0 2) = (n_ : Int)) (hn1_ : n_ ≤ 1280) : sm_T (mt_P sc_) 12 363 (0, [some (.inr (.inr (some (13, 0)))), none], [], S0_) (fun ro9_ => ∃ u_ S1_, ro9_ = (.inl u_, S1_, 0) ∧ vq_363 b_ n_ S0_ u_ S1_) := by
  have hF_ : ai_fr (sx_W vw_363) S0_ S0_ := ai_fr_rf
  refine sm_T_go 3 (c1 := (6, [some (.inr (.inr (some (13, 0)))), none], [.inl 6, .inr (.inr (some (153, 0)))], S0_)) rfl ?_
  refine sm_T_cal (d1 := 0) (Q1 := vq_362d 6 S0_) rfl rfl (by decide) (vc_362d 6 S0_ hI_ (by rfl)) (fun u_ Sx1_ px4_ => ?_)
  obtain ⟨rfl, vx6_, rfl, px4_⟩ := px4_
  obtain ⟨sl_, hsl_⟩ : ∃ sl_ : Nat, (vx6_ = -1 ∧ ∀ j_ : Nat, j_ < 6 → S0_.2.2.1 153 0 j_ = 1) ∨ (vx6_ = (sl_ : Int) ∧ sl_ < 6 ∧ S0_.2.2.1 153 0 sl_ = 0 ∧ ∀ j_ : Nat, j_ < sl_ → S0_.2.2.1 153 0 j_ = 1) := by rcases px4_ with z_ | ⟨u_, z_⟩; exact ⟨0, Or.inl z_⟩; exact ⟨u_, Or.inr z_⟩
  clear px4_
  obtain ⟨sv_, hsv_⟩ : ∃ sv_, sv_ = vx6_ := ⟨_, rfl⟩
  rw [← hsv_] at hsl_
  refine sm_T_go 4 (c1 := (13, [some (.inr (.inr (some (13, 0)))), some (.inl vx6_)], [.inl (-1), .inl vx6_, .inr (.inr (some (13, 0)))], S0_)) rfl ?_
  refine sm_T_br (a := 1) (z := 7) rfl (fun cx7_ => ?_) (fun cx7_ => ?_)
  · have cx7_ : vx6_ ≠ (-1) := of_decide_eq_true cx7_
    have nv_ := cx7_
    obtain ⟨hs1_, hs2_, hs3_, hs4_⟩ : sv_ = (sl_ : Int) ∧ sl_ < 6 ∧ S0_.2.2.1 153 0 sl_ = 0 ∧ ∀ j_ : Nat, j_ < sl_ → S0_.2.2.1 153 0 j_ = 1 := by rcases hsl_ with z_ | z_; (exfalso; have := z_.1; omega); exact z_
    clear hsl_
    have hIx8_ : gi (sm_pI S0_ 13 0 0 0) := gi_pI hI_ (show 0 ≤ 0 ∧ 0 ≤ 4 from ⟨by omega, by omega⟩)
    have hFx9_ : ai_fr (sx_W vw_363) S0_ (sm_pI S0_ 13 0 0 0) := ai_fr_tr hF_ (ai_fr_pI rfl)
    refine sm_T_go 6 (c1 := (34, [some (.inr (.inr (some (13, 0)))), some (.inl vx6_)], [.inr (.inr (some (13, 0)))], sm_pI S0_ 13 0 0 0)) rfl ?_
    refine sm_T_cal (d1 := 11) (Q1 := vq_340 b_ n_ (sm_pI S0_ 13 0 0 0)) rfl rfl (by decide) (vc_340 b_ n_ (sm_pI S0_ 13 0 0 0) hIx8_ (by exact hb_) (by exact (rf_nk (by decide)).trans hn_) (by exact hn1_)) (fun u_ Sx10_ px13_ => ?_)
    obtain ⟨rfl, hIx11_, hFx12_, px13_⟩ := px13_
    have hFx14_ : ai_fr (sx_W vw_363) S0_ Sx10_ := ai_fr_tr hFx9_ (fr_le hFx12_ rfl)
    obtain ⟨T_, tt_, hX_⟩ := px13_
    have rd34_ : rdf sl_ S0_ Sx10_ := rdf_tr (rdf_fr (w_ := ([(13, 0)], [], [])) (ai_fr_pI rfl) (by decide)) (rdf_fr hFx12_ (by decide))
    have th34_ : Sx10_.2.2.1 153 0 sl_ = 0 := (congrFun (fr_arr (t := 153) (i := 0) hFx12_ rfl) sl_).trans hs3_
    have cd34_ : Sx10_.1 13 0 0 = 0 := (hFx12_.1 13 0 0 rfl).trans rf_eq
    have hU_ : (¬ dacc b_ n_ ∧ Sx10_.1 13 0 10 ≠ 0) ∨ (Sx10_.1 13 0 10 = 0 ∧ ∃ r_ z_, rdy b_ n_ T_ r_ z_ Sx10_) := by (rcases hX_ with ⟨e9_, x1_, x2_⟩ | ⟨r9_, x1_, x2_, x3_, x4_, x5_⟩; (left; exact ⟨dacc_l x1_, fun z9_ => x2_.2.2 (x2_.1.symm.trans z9_)⟩); (have lm_ := rT_lm hn1_ x1_ x2_; rw [lm_.1] at x4_; by_cases l0_ : d_lm r9_ = 0; (right; obtain ⟨z9_, y1_, y2_, y3_⟩ := d_zz hn1_ x1_ l0_; exact ⟨x4_.trans l0_, r9_, z9_, x1_, l0_, y1_, y2_, y3_, x2_⟩); (left; exact ⟨dacc_r x1_ (Or.inl l0_), by rw [x4_]; exact l0_⟩)))
    clear hX_
    refine sm_T_go 1 (c1 := (38, [some (.inr (.inr (some (13, 0)))), some (.inl vx6_)], [.inr (.inr (some (13, 0)))], Sx10_)) rfl ?_
    refine sm_T_cal (d1 := 0) (Q1 := vq_292  Sx10_) rfl rfl (by decide) (vc_292  Sx10_ hIx11_ ) (fun u_ Sx15_ px18_ => ?_)
    obtain ⟨rfl, vx20_, rfl, px18_⟩ := px18_
    have e38_ := px18_
    refine sm_T_b0 (a := 0) (z := 7) rfl (fun cx21_ => ?_) (fun cx21_ => ?_)
    · have cx21_ : vx20_ = 0 := of_decide_eq_true cx21_
      have f0_ : ¬ dacc b_ n_ := by rcases hU_ with z9_ | z9_; exact z9_.1; (exfalso; have q9_ := z9_.1; rw [if_pos q9_] at e38_; omega)
      have fz_ : Sx10_.1 13 0 10 ≠ 0 := fun q9_ => by rw [if_pos q9_] at e38_; omega
      have nd9_ : ¬ dacc b_ n_ ∨ False := Or.inl f0_
      obtain ⟨r_, hr0_⟩ : ∃ r_ : pD, r_ = pD0 := ⟨_, rfl⟩
      obtain ⟨z_, hz0_⟩ : ∃ z_ : gQ × gE, z_ = gz0 := ⟨_, rfl⟩
      have rdX_ := rd34_
      have thX_ := th34_
      have cdX_ := cd34_
      have hIx22_ : gi (sm_pI Sx10_ 13 0 2 0) := gi_pI hIx11_ (show 0 ≤ 0 ∧ 0 ≤ 1280 from ⟨by omega, by omega⟩)
      have hFx23_ : ai_fr (sx_W vw_363) S0_ (sm_pI Sx10_ 13 0 2 0) := ai_fr_tr hFx14_ (ai_fr_pI rfl)
      have bx24_ : 0 ≤ Sx10_.1 13 0 10 ∧ Sx10_.1 13 0 10 ≤ 23 := hIx11_.1 13 0 10 rfl
      have hIx25_ : gi (sm_pI (sm_pI Sx10_ 13 0 2 0) 13 0 79 (Sx10_.1 13 0 10)) := gi_pI hIx22_ (show 0 ≤ (Sx10_.1 13 0 10) ∧ (Sx10_.1 13 0 10) ≤ 23 from ⟨by omega, by omega⟩)
      have hFx26_ : ai_fr (sx_W vw_363) S0_ (sm_pI (sm_pI Sx10_ 13 0 2 0) 13 0 79 (Sx10_.1 13 0 10)) := ai_fr_tr hFx23_ (ai_fr_pI rfl)
      refine sm_T_go 8 (c1 := (62, [some (.inr (.inr (some (13, 0)))), some (.inl vx6_)], [.inr (.inr (some (13, 0)))], sm_pI (sm_pI Sx10_ 13 0 2 0) 13 0 79 (Sx10_.1 13 0 10))) rfl ?_
      refine sm_T_cal (d1 := 0) (Q1 := vq_292  (sm_pI (sm_pI Sx10_ 13 0 2 0) 13 0 79 (Sx10_.1 13 0 10))) rfl rfl (by decide) (vc_292  (sm_pI (sm_pI Sx10_ 13 0 2 0) 13 0 79 (Sx10_.1 13 0 10)) hIx25_ ) (fun u_ Sx27_ px30_ => ?_)
      obtain ⟨rfl, vx32_, rfl, px30_⟩ := px30_
      have e62_ := px30_
      refine sm_T_b0 (a := 1) (z := 10) rfl (fun cx33_ => ?_) (fun cx33_ => ?_)
      · have cx33_ : vx32_ ≠ 0 := of_decide_eq_true cx33_
        have fr9_ : (sm_pI (sm_pI Sx10_ 13 0 2 0) 13 0 79 (Sx10_.1 13 0 10)).1 13 0 10 = 0 := by by_cases q9_ : (sm_pI (sm_pI Sx10_ 13 0 2 0) 13 0 79 (Sx10_.1 13 0 10)).1 13 0 10 = 0; exact q9_; (rw [if_neg q9_] at e62_; exfalso; omega)
        have KK_ : ((sm_pI (sm_pI Sx10_ 13 0 2 0) 13 0 79 (Sx10_.1 13 0 10)).1 13 0 12 = (d_tp r_ : Int) + 1 ∧ d_tp r_ ≤ 15) ∧ re1 b_ n_ T_ r_.1 (d_tp r_) (sm_pI (sm_pI Sx10_ 13 0 2 0) 13 0 79 (Sx10_.1 13 0 10)) ∧ a_ok b_ n_ r_.1 (d_tp r_) ∧ (1 ≤ su (t_in r_.1 1 (d_tp r_)) (r_.1.1 (d_tp r_)) ∧ su (t_in r_.1 1 (d_tp r_)) (r_.1.1 (d_tp r_)) ≤ 16) ∧ (∀ s9_, s9_ < 40 → rwv ((sm_pI (sm_pI Sx10_ 13 0 2 0) 13 0 79 (Sx10_.1 13 0 10)).2.2.1 144 0) (8 * s9_) (z_.2 s9_)) ∧ (∀ s9_, s9_ < r_.1.1 (d_tp r_) → r_.1.2.2.1 (40 * d_tp r_ + s9_) ≠ 5 → ((z_.2 s9_).length : Int) = r_.1.2.2.2.1 (40 * d_tp r_ + s9_)) ∧ (∀ s9_, lwl (1 + d_I r_ + d_R r_ + z_.1.1.length) (z_.2 s9_)) ∧ (sm_pI (sm_pI Sx10_ 13 0 2 0) 13 0 79 (Sx10_.1 13 0 10)).1 13 0 37 = ((1 + d_I r_ + d_R r_ + z_.1.1.length : Nat) : Int) ∧ rgr (1 + d_I r_ + d_R r_) (sm_pI (sm_pI Sx10_ 13 0 2 0) 13 0 79 (Sx10_.1 13 0 10)) ∧ rnS (sm_pI (sm_pI Sx10_ 13 0 2 0) 13 0 79 (Sx10_.1 13 0 10)) ∧ (sm_pI (sm_pI Sx10_ 13 0 2 0) 13 0 79 (Sx10_.1 13 0 10)).2.2.1 132 0 (d_tp r_) = (d_I r_ : Int) ∧ ((sm_pI (sm_pI Sx10_ 13 0 2 0) 13 0 79 (Sx10_.1 13 0 10)).1 13 0 53 = (d_R r_ : Int) ∧ d_R r_ ≤ 6) ∧ 1 + d_I r_ + d_R r_ ≤ 13 ∧ dacc b_ n_ := by first | exact absurd fr9_ fz_ | (have zk_ : z_.1.1.length ≤ 1000 := (by rcases nf9_ with z9_ | z9_; exact z9_; (exfalso; have w9_ : (23 : Int) = 0 := z9_.symm.trans fr9_; exact absurd w9_ (by decide))); obtain ⟨a1_, a2_, a3_, a4_, a5_⟩ := e45_.1 zk_; have fx : ai_fr (sx_W ([(13, 2), (13, 79)], [], [])) _ ((sm_pI (sm_pI Sx10_ 13 0 2 0) 13 0 79 (Sx10_.1 13 0 10))) := ai_fr_tr (ai_fr_pI rfl) (ai_fr_pI rfl); have aB_ := y6_.2.2.1 (d_tp r_) i3_; have ww_ := (exm_w 16 _ _ _ _ y3_).2.2 (by show 1 + d_I r_ + d_R r_ + z_.1.1.length ≤ 1023; omega) (by rw [y4_]; omega) ⟨by omega, fun k9_ x9_ w9_ q9_ => by simp at q9_⟩ (fun a9_ => ein_w aB_ (by omega) (Nat.le_refl _) a9_); exact ⟨⟨(fx.1 13 0 12 rfl).trans (by rw [mo45_]; omega), i4_⟩, re1_fr re45_ fx rfl rfl rfl rfl rfl rfl, aB_, by omega, a5_, y5_, ww_.2, (fx.1 13 0 37 rfl).trans (rgl_n a2_ (by omega)), rgr_fr (rgl_rgr a2_ ww_.1 zk_) fx rfl rfl rfl rfl, rnS_fr a3_ fx rfl rfl rfl rfl, i45_, ⟨(fx.1 13 0 53 rfl).trans (a4_.trans (by rw [y4_])), by omega⟩, by omega, ⟨r_, z_, y1_, y2_, y3_, zk_⟩⟩)
        obtain ⟨k1_, k2_, k3_, k4_, k5_, k6_, k7_, k8_, k9_, ka_, kb_, kc_, kd_, ke_⟩ := KK_
        refine sm_T_go 2 (c1 := (77, [some (.inr (.inr (some (13, 0)))), some (.inl vx6_)], [.inl vx6_, .inr (.inr (some (13, 0)))], sm_pI (sm_pI Sx10_ 13 0 2 0) 13 0 79 (Sx10_.1 13 0 10))) rfl ?_
        refine sm_T_cal (d1 := 2) (Q1 := vq_360 vx6_ b_ n_ T_ (d_tp r_) r_.1 z_.2 (1 + d_I r_ + d_R r_ + z_.1.1.length) (1 + d_I r_ + d_R r_) (d_I r_) (d_R r_) sl_ (sm_pI (sm_pI Sx10_ 13 0 2 0) 13 0 79 (Sx10_.1 13 0 10))) rfl rfl (by decide) (vc_360 vx6_ b_ n_ T_ (d_tp r_) r_.1 z_.2 (1 + d_I r_ + d_R r_ + z_.1.1.length) (1 + d_I r_ + d_R r_) (d_I r_) (d_R r_) sl_ (sm_pI (sm_pI Sx10_ 13 0 2 0) 13 0 79 (Sx10_.1 13 0 10)) hIx25_ (by (rw [← hsv_]; exact ⟨hs1_, by omega⟩)) (by exact k1_) (by exact k2_) (by exact k3_) (by exact k4_) (by exact k5_) (by exact k6_) (by exact k7_) (by exact k8_) (by exact k9_) (by exact ka_) (by exact kb_) (by exact kc_) (by exact ⟨rfl, kd_⟩)) (fun u_ Sx34_ px37_ => ?_)
        obtain ⟨rfl, hIx35_, hFx36_, px37_⟩ := px37_
        have hFx38_ : ai_fr (sx_W vw_363) S0_ Sx34_ := ai_fr_tr hFx26_ (fr_le hFx36_ rfl)
        obtain ⟨f1_, f2_, f3_⟩ := px37_
        have c77_ := hFx36_.1 13 0 0 rfl
        have s77_ := hFx36_.1 13 0 2 rfl
        have r77_ : rdf sl_ S0_ Sx34_ := rdf_tr rdX_ f1_
        refine sm_T_go 1 (c1 := (81, [some (.inr (.inr (some (13, 0)))), some (.inl vx6_)], [.inl vx6_], Sx34_)) rfl ?_
        refine sm_T_ri rfl ⟨_, _, rfl, _, rfl, hIx35_, hFx38_, ?_⟩
        right
        refine ⟨?_, sl_, hs2_, hs3_, hs4_, ?_, r77_, Or.inl ⟨ke_, f2_, f3_⟩⟩
        · exact c77_.trans ((rf_nk (by decide)).trans ((rf_nk (by decide)).trans cdX_))
        · exact s77_.trans ((rf_nk (by decide)).trans rf_eq)
      · have cx33_ : ¬ (vx32_ ≠ 0) := of_decide_eq_false cx33_
        have na9_ : ¬ dacc b_ n_ := by rcases nd9_ with z9_ | z9_; exact z9_; (exfalso; first | exact z9_ | (have q9_ : (sm_pI (sm_pI Sx10_ 13 0 2 0) 13 0 79 (Sx10_.1 13 0 10)).1 13 0 10 = 0 := z9_.1; rw [if_pos q9_] at e62_; omega))
        have bx39_ : 0 ≤ Sx10_.1 13 0 11 ∧ Sx10_.1 13 0 11 ≤ 4095 := hIx11_.1 13 0 11 rfl
        refine sm_T_go 3 (c1 := (73, [some (.inr (.inr (some (13, 0)))), some (.inl vx6_)], [.inl (Sx10_.1 13 0 11), .inl (-1)], sm_pI (sm_pI Sx10_ 13 0 2 0) 13 0 79 (Sx10_.1 13 0 10))) rfl ?_
        refine sm_T_bin (w := -(Sx10_.1 13 0 11) - 1) rfl (bi_sub (by omega) (by omega) (by omega)) ?_
        refine sm_T_ri rfl ⟨_, _, rfl, _, rfl, hIx25_, hFx26_, ?_⟩
        right
        refine ⟨?_, sl_, hs2_, hs3_, hs4_, ?_, ?_, Or.inr ⟨na9_, ?_⟩⟩
        · exact (rf_nk (by decide)).trans ((rf_nk (by decide)).trans cdX_)
        · exact (rf_nk (by decide)).trans rf_eq
        · exact rdX_
        · exact thX_
    · have cx21_ : ¬ (vx20_ = 0) := of_decide_eq_false cx21_
      have fz_ : Sx10_.1 13 0 10 = 0 := by by_cases q9_ : Sx10_.1 13 0 10 = 0; exact q9_; (rw [if_neg q9_] at e38_; exfalso; omega)
      obtain ⟨r_, z_, y1_, y2_, y3_, y4_, y5_, y6_⟩ : ∃ r_ z_, rdy b_ n_ T_ r_ z_ Sx10_ := by rcases hU_ with z9_ | z9_; (exfalso; exact z9_.2 fz_); exact z9_.2
      obtain ⟨i1_, i2_, i3_, i4_, i5_⟩ := d_in hn1_ y1_
      have lm_ := rT_lm hn1_ y1_ y6_
      have lm3_ := lm_.2.2 y2_
      have l9_ := lm_0 y2_
      have tp1_ : d_tp r_ + 1 = r_.2.2.1 := by unfold d_tp; omega
      have mo9_ := y6_.1
      clear hU_
      refine sm_T_go 1 (c1 := (45, [some (.inr (.inr (some (13, 0)))), some (.inl vx6_)], [.inr (.inr (some (13, 0)))], Sx10_)) rfl ?_
      refine sm_T_cal (d1 := 11) (Q1 := vq_349 b_ n_ T_ (1 + d_I r_ + d_R r_) (d_I r_) (d_R r_) (d_tp r_) r_.1 r_.2.1 (dC r_) z_ Sx10_) rfl rfl (by decide) (vc_349 b_ n_ T_ (1 + d_I r_ + d_R r_) (d_I r_) (d_R r_) (d_tp r_) r_.1 r_.2.1 (dC r_) z_ Sx10_ hIx11_ (by exact tt_) (by exact fz_) (by omega) (by exact fun m9_ h9_ => ⟨y6_.2.2.2.1 m9_ (by omega), y6_.2.2.1 m9_ (by omega)⟩) (by exact fun m9_ h9_ => gmd_of hn1_ y1_ y6_ (by omega)) (by exact lm_.2.1) (by exact lm3_) (by omega) (by exact i1_.symm) (by exact y3_) (by exact y4_)) (fun u_ Sx40_ px43_ => ?_)
      obtain ⟨rfl, hIx41_, hFx42_, px43_⟩ := px43_
      have hFx44_ : ai_fr (sx_W vw_363) S0_ Sx40_ := ai_fr_tr hFx14_ (fr_le hFx42_ rfl)
      have e45_ := px43_
      have rdX_ : rdf sl_ S0_ Sx40_ := rdf_tr rd34_ (rdf_fr hFx42_ (by decide))
      have thX_ : Sx40_.2.2.1 153 0 sl_ = 0 := (congrFun (fr_arr (t := 153) (i := 0) hFx42_ rfl) sl_).trans th34_
      have cdX_ : Sx40_.1 13 0 0 = 0 := (hFx42_.1 13 0 0 rfl).trans cd34_
      have re45_ := re1_fr (y6_.2.2.2.1 (d_tp r_) i3_) hFx42_ rfl rfl rfl rfl rfl rfl
      have mo45_ := (hFx42_.1 13 0 12 rfl).trans mo9_
      have i45_ : Sx40_.2.2.1 132 0 (d_tp r_) = (d_I r_ : Int) := (congrFun (fr_arr (t := 132) (i := 0) hFx42_ rfl) _).trans lm_.2.1
      have nd9_ : ¬ dacc b_ n_ ∨ (Sx40_.1 13 0 10 = 0 ∧ z_.1.1.length ≤ 1000) := by by_cases q9_ : z_.1.1.length ≤ 1000; exact Or.inr ⟨(e45_.1 q9_).1, q9_⟩; exact Or.inl (dacc_r y1_ (Or.inr ⟨y2_, z_, y3_, by omega⟩))
      have nf9_ : z_.1.1.length ≤ 1000 ∨ Sx40_.1 13 0 10 = 23 := by by_cases q9_ : z_.1.1.length ≤ 1000; exact Or.inl q9_; exact Or.inr (e45_.2 (by omega)).1
      have hIx45_ : gi (sm_pI Sx40_ 13 0 2 0) := gi_pI hIx41_ (show 0 ≤ 0 ∧ 0 ≤ 1280 from ⟨by omega, by omega⟩)
      have hFx46_ : ai_fr (sx_W vw_363) S0_ (sm_pI Sx40_ 13 0 2 0) := ai_fr_tr hFx44_ (ai_fr_pI rfl)
      have bx47_ : 0 ≤ Sx40_.1 13 0 10 ∧ Sx40_.1 13 0 10 ≤ 23 := hIx41_.1 13 0 10 rfl
      have hIx48_ : gi (sm_pI (sm_pI Sx40_ 13 0 2 0) 13 0 79 (Sx40_.1 13 0 10)) := gi_pI hIx45_ (show 0 ≤ (Sx40_.1 13 0 10) ∧ (Sx40_.1 13 0 10) ≤ 23 from ⟨by omega, by omega⟩)
      have hFx49_ : ai_fr (sx_W vw_363) S0_ (sm_pI (sm_pI Sx40_ 13 0 2 0) 13 0 79 (Sx40_.1 13 0 10)) := ai_fr_tr hFx46_ (ai_fr_pI rfl)
      refine sm_T_go 8 (c1 := (62, [some (.inr (.inr (some (13, 0)))), some (.inl vx6_)], [.inr (.inr (some (13, 0)))], sm_pI (sm_pI Sx40_ 13 0 2 0) 13 0 79 (Sx40_.1 13 0 10))) rfl ?_
      refine sm_T_cal (d1 := 0) (Q1 := vq_292  (sm_pI (sm_pI Sx40_ 13 0 2 0) 13 0 79 (Sx40_.1 13 0 10))) rfl rfl (by decide) (vc_292  (sm_pI (sm_pI Sx40_ 13 0 2 0) 13 0 79 (Sx40_.1 13 0 10)) hIx48_ ) (fun u_ Sx50_ px53_ => ?_)
      obtain ⟨rfl, vx55_, rfl, px53_⟩ := px53_
      have e62_ := px53_
      refine sm_T_b0 (a := 1) (z := 10) rfl (fun cx56_ => ?_) (fun cx56_ => ?_)
      · have cx56_ : vx55_ ≠ 0 := of_decide_eq_true cx56_
        have fr9_ : (sm_pI (sm_pI Sx40_ 13 0 2 0) 13 0 79 (Sx40_.1 13 0 10)).1 13 0 10 = 0 := by by_cases q9_ : (sm_pI (sm_pI Sx40_ 13 0 2 0) 13 0 79 (Sx40_.1 13 0 10)).1 13 0 10 = 0; exact q9_; (rw [if_neg q9_] at e62_; exfalso; omega)
        have KK_ : ((sm_pI (sm_pI Sx40_ 13 0 2 0) 13 0 79 (Sx40_.1 13 0 10)).1 13 0 12 = (d_tp r_ : Int) + 1 ∧ d_tp r_ ≤ 15) ∧ re1 b_ n_ T_ r_.1 (d_tp r_) (sm_pI (sm_pI Sx40_ 13 0 2 0) 13 0 79 (Sx40_.1 13 0 10)) ∧ a_ok b_ n_ r_.1 (d_tp r_) ∧ (1 ≤ su (t_in r_.1 1 (d_tp r_)) (r_.1.1 (d_tp r_)) ∧ su (t_in r_.1 1 (d_tp r_)) (r_.1.1 (d_tp r_)) ≤ 16) ∧ (∀ s9_, s9_ < 40 → rwv ((sm_pI (sm_pI Sx40_ 13 0 2 0) 13 0 79 (Sx40_.1 13 0 10)).2.2.1 144 0) (8 * s9_) (z_.2 s9_)) ∧ (∀ s9_, s9_ < r_.1.1 (d_tp r_) → r_.1.2.2.1 (40 * d_tp r_ + s9_) ≠ 5 → ((z_.2 s9_).length : Int) = r_.1.2.2.2.1 (40 * d_tp r_ + s9_)) ∧ (∀ s9_, lwl (1 + d_I r_ + d_R r_ + z_.1.1.length) (z_.2 s9_)) ∧ (sm_pI (sm_pI Sx40_ 13 0 2 0) 13 0 79 (Sx40_.1 13 0 10)).1 13 0 37 = ((1 + d_I r_ + d_R r_ + z_.1.1.length : Nat) : Int) ∧ rgr (1 + d_I r_ + d_R r_) (sm_pI (sm_pI Sx40_ 13 0 2 0) 13 0 79 (Sx40_.1 13 0 10)) ∧ rnS (sm_pI (sm_pI Sx40_ 13 0 2 0) 13 0 79 (Sx40_.1 13 0 10)) ∧ (sm_pI (sm_pI Sx40_ 13 0 2 0) 13 0 79 (Sx40_.1 13 0 10)).2.2.1 132 0 (d_tp r_) = (d_I r_ : Int) ∧ ((sm_pI (sm_pI Sx40_ 13 0 2 0) 13 0 79 (Sx40_.1 13 0 10)).1 13 0 53 = (d_R r_ : Int) ∧ d_R r_ ≤ 6) ∧ 1 + d_I r_ + d_R r_ ≤ 13 ∧ dacc b_ n_ := by first | exact absurd fr9_ fz_ | (have zk_ : z_.1.1.length ≤ 1000 := (by rcases nf9_ with z9_ | z9_; exact z9_; (exfalso; have w9_ : (23 : Int) = 0 := z9_.symm.trans fr9_; exact absurd w9_ (by decide))); obtain ⟨a1_, a2_, a3_, a4_, a5_⟩ := e45_.1 zk_; have fx : ai_fr (sx_W ([(13, 2), (13, 79)], [], [])) _ ((sm_pI (sm_pI Sx40_ 13 0 2 0) 13 0 79 (Sx40_.1 13 0 10))) := ai_fr_tr (ai_fr_pI rfl) (ai_fr_pI rfl); have aB_ := y6_.2.2.1 (d_tp r_) i3_; have ww_ := (exm_w 16 _ _ _ _ y3_).2.2 (by show 1 + d_I r_ + d_R r_ + z_.1.1.length ≤ 1023; omega) (by rw [y4_]; omega) ⟨by omega, fun k9_ x9_ w9_ q9_ => by simp at q9_⟩ (fun a9_ => ein_w aB_ (by omega) (Nat.le_refl _) a9_); exact ⟨⟨(fx.1 13 0 12 rfl).trans (by rw [mo45_]; omega), i4_⟩, re1_fr re45_ fx rfl rfl rfl rfl rfl rfl, aB_, by omega, a5_, y5_, ww_.2, (fx.1 13 0 37 rfl).trans (rgl_n a2_ (by omega)), rgr_fr (rgl_rgr a2_ ww_.1 zk_) fx rfl rfl rfl rfl, rnS_fr a3_ fx rfl rfl rfl rfl, i45_, ⟨(fx.1 13 0 53 rfl).trans (a4_.trans (by rw [y4_])), by omega⟩, by omega, ⟨r_, z_, y1_, y2_, y3_, zk_⟩⟩)
        obtain ⟨k1_, k2_, k3_, k4_, k5_, k6_, k7_, k8_, k9_, ka_, kb_, kc_, kd_, ke_⟩ := KK_
        refine sm_T_go 2 (c1 := (77, [some (.inr (.inr (some (13, 0)))), some (.inl vx6_)], [.inl vx6_, .inr (.inr (some (13, 0)))], sm_pI (sm_pI Sx40_ 13 0 2 0) 13 0 79 (Sx40_.1 13 0 10))) rfl ?_
        refine sm_T_cal (d1 := 2) (Q1 := vq_360 vx6_ b_ n_ T_ (d_tp r_) r_.1 z_.2 (1 + d_I r_ + d_R r_ + z_.1.1.length) (1 + d_I r_ + d_R r_) (d_I r_) (d_R r_) sl_ (sm_pI (sm_pI Sx40_ 13 0 2 0) 13 0 79 (Sx40_.1 13 0 10))) rfl rfl (by decide) (vc_360 vx6_ b_ n_ T_ (d_tp r_) r_.1 z_.2 (1 + d_I r_ + d_R r_ + z_.1.1.length) (1 + d_I r_ + d_R r_) (d_I r_) (d_R r_) sl_ (sm_pI (sm_pI Sx40_ 13 0 2 0) 13 0 79 (Sx40_.1 13 0 10)) hIx48_ (by (rw [← hsv_]; exact ⟨hs1_, by omega⟩)) (by exact k1_) (by exact k2_) (by exact k3_) (by exact k4_) (by exact k5_) (by exact k6_) (by exact k7_) (by exact k8_) (by exact k9_) (by exact ka_) (by exact kb_) (by exact kc_) (by exact ⟨rfl, kd_⟩)) (fun u_ Sx57_ px60_ => ?_)
        obtain ⟨rfl, hIx58_, hFx59_, px60_⟩ := px60_
        have hFx61_ : ai_fr (sx_W vw_363) S0_ Sx57_ := ai_fr_tr hFx49_ (fr_le hFx59_ rfl)
        obtain ⟨f1_, f2_, f3_⟩ := px60_
        have c77_ := hFx59_.1 13 0 0 rfl
        have s77_ := hFx59_.1 13 0 2 rfl
        have r77_ : rdf sl_ S0_ Sx57_ := rdf_tr rdX_ f1_
        refine sm_T_go 1 (c1 := (81, [some (.inr (.inr (some (13, 0)))), some (.inl vx6_)], [.inl vx6_], Sx57_)) rfl ?_
        refine sm_T_ri rfl ⟨_, _, rfl, _, rfl, hIx58_, hFx61_, ?_⟩
        right
        refine ⟨?_, sl_, hs2_, hs3_, hs4_, ?_, r77_, Or.inl ⟨ke_, f2_, f3_⟩⟩
        · exact c77_.trans ((rf_nk (by decide)).trans ((rf_nk (by decide)).trans cdX_))
        · exact s77_.trans ((rf_nk (by decide)).trans rf_eq)
      · have cx56_ : ¬ (vx55_ ≠ 0) := of_decide_eq_false cx56_
        have na9_ : ¬ dacc b_ n_ := by rcases nd9_ with z9_ | z9_; exact z9_; (exfalso; first | exact z9_ | (have q9_ : (sm_pI (sm_pI Sx40_ 13 0 2 0) 13 0 79 (Sx40_.1 13 0 10)).1 13 0 10 = 0 := z9_.1; rw [if_pos q9_] at e62_; omega))
        have bx62_ : 0 ≤ Sx40_.1 13 0 11 ∧ Sx40_.1 13 0 11 ≤ 4095 := hIx41_.1 13 0 11 rfl
        refine sm_T_go 3 (c1 := (73, [some (.inr (.inr (some (13, 0)))), some (.inl vx6_)], [.inl (Sx40_.1 13 0 11), .inl (-1)], sm_pI (sm_pI Sx40_ 13 0 2 0) 13 0 79 (Sx40_.1 13 0 10))) rfl ?_
        refine sm_T_bin (w := -(Sx40_.1 13 0 11) - 1) rfl (bi_sub (by omega) (by omega) (by omega)) ?_
        refine sm_T_ri rfl ⟨_, _, rfl, _, rfl, hIx48_, hFx49_, ?_⟩
        right
        refine ⟨?_, sl_, hs2_, hs3_, hs4_, ?_, ?_, Or.inr ⟨na9_, ?_⟩⟩
        · exact (rf_nk (by decide)).trans ((rf_nk (by decide)).trans cdX_)
        · exact (rf_nk (by decide)).trans rf_eq
        · exact rdX_
        · exact thX_
  · have cx7_ : ¬ (vx6_ ≠ (-1)) := of_decide_eq_false cx7_
    have ha0_ : ∀ j_ : Nat, j_ < 6 → S0_.2.2.1 153 0 j_ = 1 := by rcases hsl_ with z_ | z_; exact z_.2; (exfalso; have := z_.1; omega)
    have hIx63_ : gi (sm_pI S0_ 13 0 0 1) := gi_pI hI_ (show 0 ≤ 1 ∧ 1 ≤ 4 from ⟨by omega, by omega⟩)
    have hFx64_ : ai_fr (sx_W vw_363) S0_ (sm_pI S0_ 13 0 0 1) := ai_fr_tr hF_ (ai_fr_pI rfl)
    refine sm_T_go 7 (c1 := (32, [some (.inr (.inr (some (13, 0)))), some (.inl vx6_)], [.inl 0], sm_pI S0_ 13 0 0 1)) rfl ?_
    refine sm_T_ri rfl ⟨_, _, rfl, _, rfl, hIx63_, hFx64_, ?_⟩
    left
    refine ⟨rf_eq, ha0_, ?_, ?_⟩
    · exact rf_nk (by decide)
    · exact rdf_fr (w_ := ([(13, 0)], [], [])) (ai_fr_pI rfl) (by decide)
