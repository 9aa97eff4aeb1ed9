/-! the reference: items, second pass; written by wip/p55/gen/vg -/

/-! items, second pass -/
theorem up_B {E_ : gE} {K_ N_ : Nat} {v_ : List Int} (hE_ : ∀ s_, N_ ≤ s_ → E_ s_ = []) (hK_ : K_ < N_) : ∀ s_, N_ ≤ s_ → (up1 E_ K_ v_) s_ = [] := by
  intro s_ hs_
  unfold up1
  rw [if_neg (by omega)]
  exact hE_ s_ hs_
theorem it_K {b_ : Nat → Int} {n_ M_ p_ : Nat} {A_ : pA} {N_ : Nat → Nat} {c_ : List Int} {rr_ : pT} (hit_ : p_it b_ n_ A_ N_ M_ c_ p_ = some (.inr rr_)) (hk_ : lx_kd b_ n_ p_ ≠ 1) : rr_.1.1 M_ = A_.1 M_ + 1 := by
  unfold p_it at hit_
  by_cases k4_ : lx_kd b_ n_ p_ = 4
  · rw [if_pos k4_] at hit_
    obtain ⟨q_, r1_, u_, y_, h1_, h2_, h3_, h4_, h5_⟩ := in_r (Option.some.inj hit_)
    rw [h5_]
    exact te_f.1
  · rw [if_neg k4_] at hit_
    by_cases k5_ : lx_kd b_ n_ p_ = 5
    · rw [if_pos k5_] at hit_
      obtain ⟨q_, r1_, u_, v_, x_, y_, h1_, h2_, h3_, h4_, h5_, h6_, h7_, h8_⟩ := va_r (Option.some.inj hit_)
      rw [h8_]
      exact te_f.1
    · rw [if_neg k5_] at hit_
      by_cases k6_ : lx_kd b_ n_ p_ = 6
      · rw [if_pos k6_] at hit_
        obtain ⟨q_, r1_, u_, v_, x_, y_, h1_, h2_, h3_, h4_, h5_, h6_, h7_, h8_⟩ := va_r (Option.some.inj hit_)
        rw [h8_]
        exact te_f.1
      · rw [if_neg k6_] at hit_
        by_cases k7_ : lx_kd b_ n_ p_ = 7
        · rw [if_pos k7_] at hit_
          obtain ⟨q_, r1_, u_, z_, y_, h1_, h2_, h3_, h4_, h5_, h6_⟩ := re_r (Option.some.inj hit_)
          rw [h6_]
          exact te_f.1
        · rw [if_neg k7_] at hit_
          by_cases k8_ : lx_kd b_ n_ p_ = 8
          · rw [if_pos k8_] at hit_
            obtain ⟨q_, r1_, d_, u_, v_, x_, y_, h1_, h2_, h3_, h4_, h5_, h6_, h7_, h8_, h9_, h10_⟩ := us_r (Option.some.inj hit_)
            rw [h10_]
            exact te_f.1
          · rw [if_neg k8_, if_neg hk_] at hit_
            cases hit_
def pN (b_ : Nat → Int) (n_ T_ F_ I_ : Nat) (B_ : pA) (M_ fr_ K_ fc_ : Nat) (q1_ : gQ) (E1_ : gE) (O_ O1_ : gO) (V1_ : gV) (y_ : Nat) (S0_ S1_ : sm_S) : Prop := rg b_ n_ T_ (.inr y_) S1_ ∧ rgl F_ q1_.1 S1_ ∧ rev fr_ K_ E1_ O1_ (q1_.1.length ≤ 1001) S1_ ∧ S1_.1 13 0 53 = (q1_.2.1 : Int) ∧ (∀ s_, s_ < 40 → (E1_ s_).length ≤ 8) ∧ (S1_.1 13 0 28 = S0_.1 13 0 28 ∧ S1_.1 13 0 29 = S0_.1 13 0 29) ∧ (S1_.2.2.1 146 0 = S0_.2.2.1 146 0 ∧ S1_.2.2.1 147 0 = S0_.2.2.1 147 0 ∧ S1_.2.2.1 148 0 = S0_.2.2.1 148 0) ∧ (∀ j_, S1_.2.2.1 149 0 j_ = if j_ = fr_ then (K_ : Int) else S0_.2.2.1 149 0 j_) ∧ (∀ j_, j_ < 8 * (40 * fr_) → S1_.2.2.1 144 0 j_ = S0_.2.2.1 144 0 j_) ∧ tst B_ I_ M_ K_ E1_ O1_ ∧ q1_.2.2 = fc_ ∧ O1_ = O_ ∧ V1_ = [] ∧ ∀ s_, B_.1 M_ ≤ s_ → E1_ s_ = []
def p8 (b_ : Nat → Int) (n_ T_ F_ I_ : Nat) (B_ : pA) (X_ : Nat → gQ → gE → Option (gQ × gE)) (M_ fr_ K_ : Nat) (q0_ : gQ) (E_ : gE) (O_ : gO) (kk_ : List Int) (K1_ y_ : Nat) (S0_ S1_ : sm_S) : Prop := ∃ (d_ : Nat) (k8_ : List Int) (G_ : pGr) (o_ : Nat → List Int) (i9_ : Nat), kk_ = cw 17 (K_ : Int) (d_ : Int) :: k8_ ∧ d_ < M_ ∧ K_ < B_.1 M_ ∧ K1_ = K_ + 1 ∧ B_.2.2.1 (40 * M_ + K_) = 5 ∧ B_.2.2.2.2 (40 * M_ + K_) = (d_ : Int) ∧ ev F_ I_ B_ X_ M_ (q0_, E_, O_, []) k8_ = some ((G_, q0_.2.1, q0_.2.2 + 1), E_, up1 O_ K_ (some o_), []) ∧ oin B_ d_ (B_.1 d_) o_ ∧ (∀ s_, s_ < 40 → (o_ s_).length ≤ 8) ∧ (∀ s_, B_.1 d_ ≤ s_ → o_ s_ = []) ∧ q0_.2.2 ≤ 200 ∧ rgl F_ G_ S1_ ∧ rp b_ n_ T_ i9_ y_ ∧ mfr fr_ d_ K_ i9_ (sm_aI S0_ 149 0 fr_ ((K_ : Int) + 1)) S1_ ∧ (∀ j_, j_ < 8 * (40 * (fr_ + 1)) → S1_.2.2.1 144 0 j_ = S0_.2.2.1 144 0 j_) ∧ rev (fr_ + 1) 0 o_ (fun _ => none) (G_.length ≤ 1001) S1_ ∧ S1_.1 13 0 53 = S0_.1 13 0 53
/-! M_.makeItem -/
def vw_348 : sx_Wl := ([(13, 9), (13, 10), (13, 11), (13, 28), (13, 29), (13, 32), (13, 33), (13, 34), (13, 37), (13, 52), (13, 53)], [136, 137, 138, 139, 140, 141, 142, 143, 144, 146, 147, 148, 149, 150, 151, 152], [])
def vq_348 (b_ : Nat → Int) (n_ : Nat) (T_ : Nat) (F_ : Nat) (I_ : Nat) (A_ : pA) (B_ : pA) (X_ : Nat → gQ → gE → Option (gQ × gE)) (M_ : Nat) (fr_ : Nat) (q0_ : gQ) (E_ : gE) (O_ : gO) (p_ : Nat) (N_ : Nat → Nat) (c_ : List Int) (kk_ : List Int) (rr_ : pT) (q1_ : gQ) (E1_ : gE) (O1_ : gO) (V1_ : gV) (S0_ : sm_S) (u_ : Option sm_V) (S1_ : sm_S) : Prop := u_ = none ∧ gi S1_ ∧ ai_fr (sx_W vw_348) S0_ S1_ ∧ ((imq (lx_kd b_ n_ p_ ≠ 8) (pN b_ n_ T_ F_ I_ B_ M_ fr_ (rr_.1.1 M_) q0_.2.2 q1_ E1_ O_ O1_ V1_ rr_.2.2 S0_ S1_) ∧ imq (lx_kd b_ n_ p_ = 8) (p8 b_ n_ T_ F_ I_ B_ X_ M_ fr_ (A_.1 M_) q0_ E_ O_ kk_ (rr_.1.1 M_) rr_.2.2 S0_ S1_)) ∧ imq (S1_.1 13 0 37 - S1_.1 13 0 38 ≤ 1000) (rnS S1_))
set_option maxHeartbeats 2000000 in
theorem vc_348 {sc_ : Nat × (Nat → Int)} (b_ : Nat → Int) (n_ : Nat) (T_ : Nat) (F_ : Nat) (I_ : Nat) (A_ : pA) (B_ : pA) (X_ : Nat → gQ → gE → Option (gQ × gE)) (M_ : Nat) (fr_ : Nat) (q0_ : gQ) (E_ : gE) (O_ : gO) (p_ : Nat) (N_ : Nat → Nat) (c_ : List Int) (kk_ : List Int) (rr_ : pT) (q1_ : gQ) (E1_ : gE) (O1_ : gO) (V1_ : gV) (S0_ : sm_S) (hI_ : gi S0_) (ht_ : rtab b_ n_ T_ S0_) (hx_ : rg b_ n_ T_ (.inr p_) S0_) (hm1_ : (S0_.1 13 0 27) = 1) (hen_ : r_e1 b_ n_ T_ B_ M_ fr_ S0_) (hA_ : a_ok b_ n_ A_ M_) (hxx_ : a_ex A_ B_ M_) (hX_ : ∀ d_ q_ e_ z_, X_ d_ q_ e_ = some z_ → q_.1.length ≤ z_.1.1.length) (hte_ : ten B_ M_ (A_.1 M_) E_ O_) (hev_ : rev fr_ (A_.1 M_) E_ O_ (q0_.1.length ≤ 1001) S0_) (hg_ : rgl F_ q0_.1 S0_) (hts_ : tst B_ I_ M_ (A_.1 M_) E_ O_) (hit_ : p_it b_ n_ A_ N_ M_ c_ p_ = some (.inr rr_)) (hkk_ : rr_.2.1 = kk_ ++ c_) (hxr_ : a_ex rr_.1 B_ M_) (hec_ : ev F_ I_ B_ X_ M_ (q0_, E_, O_, []) kk_ = some (q1_, E1_, O1_, V1_)) (hEB_ : ∀ s_, B_.1 M_ ≤ s_ → E_ s_ = []) (hE8_ : ∀ s_, s_ < 40 → (E_ s_).length ≤ 8) (hON_ : ∀ s_, A_.1 M_ ≤ s_ → O_ s_ = none) (hR_ : (S0_.1 13 0 53) = (q0_.2.1 : Int)) (hms_ : 1 ≤ (S0_.1 13 0 12) ∧ (S0_.1 13 0 12) ≤ 16) (hI1_ : S0_.2.2.1 132 0 ((S0_.1 13 0 12) - 1).toNat = (I_ : Int) ∧ I_ ≤ 12) (htd_ : S0_.2.2.1 149 0 fr_ = (A_.1 M_ : Int)) (hfm_ : fr_ + M_ ≤ 15) (hrn_ : rnS S0_) (hlw_ : lwS F_ (q0_, E_, O_, [])) (hXw_ : lwX F_ I_ X_) (hRF_ : 1 + I_ + q1_.2.1 ≤ F_) : sm_T (mt_P sc_) 10 348 (0, [some (.inr (.inr (some (13, 0)))), none], [], S0_) (fun ro9_ => ∃ u_ S1_, ro9_ = (.inl u_, S1_, 0) ∧ vq_348 b_ n_ T_ F_ I_ A_ B_ X_ M_ fr_ q0_ E_ O_ p_ N_ c_ kk_ rr_ q1_ E1_ O1_ V1_ S0_ u_ S1_) := by
  have hF_ : ai_fr (sx_W vw_348) S0_ S0_ := ai_fr_rf
  obtain ⟨i_, hi_⟩ := id hx_.2
  have ra_ := rp_at ht_ hi_.2
  have rk_ := r_st_3 (lx_kd_r hi_.2.2.2.1)
  have hT_ := ht_.2.1
  have hi9_ := hi_.2.1
  have e4_ : (S0_.1 13 0 9).toNat = i_ := by omega
  have fr1_ := hen_.2.2.1.1
  have frb_ := hen_.2.2.1.2
  have ex9_ : (S0_.1 13 0 29).toNat = fr_ := by omega
  have M15_ := hA_.1
  have A40_ := (hA_.2 M_ (Nat.le_refl _)).1
  have B40_ := (hen_.1.2 M_ (Nat.le_refl _)).1
  have t2_ : ∀ x_ y_, rtab b_ n_ T_ (sm_aI S0_ 149 0 x_ y_) := fun x_ y_ => rtab_fr (w_ := ([], [149], [])) ht_ (ai_fr_aI rfl) rfl rfl rfl rfl rfl
  have g2_ : ∀ x_ y_, rg b_ n_ T_ (.inr p_) (sm_aI S0_ 149 0 x_ y_) := fun x_ y_ => rg_fr (w_ := ([], [149], [])) hx_ (ai_fr_aI rfl) rfl rfl rfl
  have en2_ : ∀ x_ y_, r_e1 b_ n_ T_ B_ M_ fr_ (sm_aI S0_ 149 0 x_ y_) := fun x_ y_ => ⟨hen_.1, hen_.2.1, hen_.2.2.1, fun m_ hm_ => re1_fr (w_ := ([], [149], [])) (hen_.2.2.2 m_ hm_) (ai_fr_aI rfl) rfl rfl rfl rfl rfl rfl⟩
  have ev2_ : ∀ x_ y_, rev fr_ (A_.1 M_) E_ O_ (q0_.1.length ≤ 1001) (sm_aI S0_ 149 0 x_ y_) := fun x_ y_ => rev_fr (w_ := ([], [149], [])) hev_ (ai_fr_aI rfl) rfl rfl
  have rn2_ : ∀ x_ y_, rnS (sm_aI S0_ 149 0 x_ y_) := fun x_ y_ => rnS_fr (w_ := ([], [149], [])) hrn_ (ai_fr_aI rfl) rfl rfl rfl rfl
  have gg2_ : ∀ x_ y_, rgl F_ q0_.1 (sm_aI S0_ 149 0 x_ y_) := fun x_ y_ => rgl_fr (w_ := ([], [149], [])) hg_ (ai_fr_aI rfl) rfl rfl rfl rfl rfl rfl
  have bx1_ : 0 ≤ S0_.1 13 0 9 ∧ S0_.1 13 0 9 ≤ 1280 := hI_.1 13 0 9 rfl
  refine sm_T_go 4 (c1 := (8, [some (.inr (.inr (some (13, 0)))), none], [.inl (S0_.1 13 0 9), .inr (.inr (some (119, 0)))], S0_)) rfl ?_
  refine sm_T_bald (n := 65537) rfl rfl (by omega) (by omega) ?_
  have bx2_ : (-128) ≤ S0_.2.2.1 119 0 (S0_.1 13 0 9).toNat ∧ S0_.2.2.1 119 0 (S0_.1 13 0 9).toNat ≤ 127 := hI_.2 119 0 _
  refine sm_T_go 1 (c1 := (10, [some (.inr (.inr (some (13, 0)))), none], [.inl 1, .inl (S0_.2.2.1 119 0 (S0_.1 13 0 9).toNat)], S0_)) rfl ?_
  refine sm_T_br (a := 1) (z := 8) rfl (fun cx3_ => ?_) (fun cx3_ => ?_)
  · have cx3_ : (S0_.2.2.1 119 0 (S0_.1 13 0 9).toNat) ≠ 1 := of_decide_eq_true cx3_
    have k1_ : lx_kd b_ n_ p_ ≠ 1 := fun z_ => by have z2_ := rk_.2.1.mpr z_; rw [← ra_.1] at z2_; rw [e4_] at cx3_; omega
    have K1_ := it_K hit_ k1_
    have K2_ := hxr_.1
    have s146_ : ∀ x_ y_ t_, t_ ≠ 149 → (sm_aI S0_ 149 0 x_ y_).2.2.1 t_ 0 = S0_.2.2.1 t_ 0 := fun x_ y_ t_ ht9_ => funext fun j_ => rd_ne ht9_
    have s149_ : ∀ j_, (sm_aI S0_ 149 0 (S0_.1 13 0 29).toNat (S0_.2.2.1 149 0 (S0_.1 13 0 29).toNat + 1)).2.2.1 149 0 j_ = if j_ = fr_ then (A_.1 M_ : Int) + 1 else S0_.2.2.1 149 0 j_ := fun j_ => by rw [rd_eq, ex9_, htd_]
    have t149_ : S0_.2.2.1 149 0 (S0_.1 13 0 29).toNat = (A_.1 M_ : Int) := by rw [ex9_]; exact htd_
    have bx4_ : 0 ≤ S0_.1 13 0 29 ∧ S0_.1 13 0 29 ≤ 16 := hI_.1 13 0 29 rfl
    refine sm_T_go 4 (c1 := (26, [some (.inr (.inr (some (13, 0)))), none], [.inl (S0_.1 13 0 29), .inr (.inr (some (149, 0)))], S0_)) rfl ?_
    refine sm_T_iald (n := 16) rfl rfl (by omega) (by omega) ?_
    have bx5_ : 0 ≤ S0_.2.2.1 149 0 (S0_.1 13 0 29).toNat ∧ S0_.2.2.1 149 0 (S0_.1 13 0 29).toNat ≤ 40 := hI_.2 149 0 _
    refine sm_T_go 6 (c1 := (37, [some (.inr (.inr (some (13, 0)))), some (.inl (S0_.2.2.1 149 0 (S0_.1 13 0 29).toNat))], [.inl (S0_.1 13 0 29), .inr (.inr (some (149, 0))), .inl (S0_.1 13 0 29), .inr (.inr (some (149, 0)))], S0_)) rfl ?_
    refine sm_T_iald (n := 16) rfl rfl (by omega) (by omega) ?_
    refine sm_T_go 1 (c1 := (39, [some (.inr (.inr (some (13, 0)))), some (.inl (S0_.2.2.1 149 0 (S0_.1 13 0 29).toNat))], [.inl 1, .inl (S0_.2.2.1 149 0 (S0_.1 13 0 29).toNat), .inl (S0_.1 13 0 29), .inr (.inr (some (149, 0)))], S0_)) rfl ?_
    refine sm_T_bin (w := (S0_.2.2.1 149 0 (S0_.1 13 0 29).toNat) + 1) rfl (bi_add (by omega) (by omega) (by omega)) ?_
    refine sm_T_iast (n := 16) rfl rfl (by omega) (by omega) ?_
    have hIx6_ : gi (sm_aI S0_ 149 0 (S0_.1 13 0 29).toNat ((S0_.2.2.1 149 0 (S0_.1 13 0 29).toNat) + 1)) := gi_aI hI_ (show 0 ≤ (S0_.2.2.1 149 0 (S0_.1 13 0 29).toNat) + 1 ∧ (S0_.2.2.1 149 0 (S0_.1 13 0 29).toNat) + 1 ≤ 40 from ⟨by omega, by omega⟩)
    have hFx7_ : ai_fr (sx_W vw_348) S0_ (sm_aI S0_ 149 0 (S0_.1 13 0 29).toNat ((S0_.2.2.1 149 0 (S0_.1 13 0 29).toNat) + 1)) := ai_fr_tr hF_ (ai_fr_aI rfl)
    refine sm_T_go 2 (c1 := (43, [some (.inr (.inr (some (13, 0)))), some (.inl (S0_.2.2.1 149 0 (S0_.1 13 0 29).toNat))], [.inl 2, .inr (.inr (some (13, 0)))], sm_aI S0_ 149 0 (S0_.1 13 0 29).toNat ((S0_.2.2.1 149 0 (S0_.1 13 0 29).toNat) + 1))) rfl ?_
    refine sm_T_cal (d1 := 0) (Q1 := vq_296 2 b_ n_ T_ (.inr p_) (sm_aI S0_ 149 0 (S0_.1 13 0 29).toNat ((S0_.2.2.1 149 0 (S0_.1 13 0 29).toNat) + 1))) rfl rfl (by decide) (vc_296 2 b_ n_ T_ (.inr p_) (sm_aI S0_ 149 0 (S0_.1 13 0 29).toNat ((S0_.2.2.1 149 0 (S0_.1 13 0 29).toNat) + 1)) hIx6_ (by exact t2_ _ _) (by exact g2_ _ _) (by decide)) (fun u_ Sx8_ px11_ => ?_)
    obtain ⟨rfl, vx13_, rfl, px11_⟩ := px11_
    have e43_ := px11_.2 p_ rfl
    have r43_ := px11_.1
    refine sm_T_b0 (a := 0) (z := 12) rfl (fun cx14_ => ?_) (fun cx14_ => ?_)
    · have cx14_ : vx13_ = 0 := of_decide_eq_true cx14_
      have n4_ : lx_kd b_ n_ p_ ≠ 4 := fun z_ => by have := e43_.mpr z_; omega
      refine sm_T_go 2 (c1 := (60, [some (.inr (.inr (some (13, 0)))), some (.inl (S0_.2.2.1 149 0 (S0_.1 13 0 29).toNat))], [.inl 5, .inr (.inr (some (13, 0)))], sm_aI S0_ 149 0 (S0_.1 13 0 29).toNat ((S0_.2.2.1 149 0 (S0_.1 13 0 29).toNat) + 1))) rfl ?_
      refine sm_T_cal (d1 := 0) (Q1 := vq_296 5 b_ n_ T_ (.inr p_) (sm_aI S0_ 149 0 (S0_.1 13 0 29).toNat ((S0_.2.2.1 149 0 (S0_.1 13 0 29).toNat) + 1))) rfl rfl (by decide) (vc_296 5 b_ n_ T_ (.inr p_) (sm_aI S0_ 149 0 (S0_.1 13 0 29).toNat ((S0_.2.2.1 149 0 (S0_.1 13 0 29).toNat) + 1)) hIx6_ (by exact t2_ _ _) (by exact g2_ _ _) (by decide)) (fun u_ Sx15_ px18_ => ?_)
      obtain ⟨rfl, vx20_, rfl, px18_⟩ := px18_
      have e60_ := px18_.2 p_ rfl
      have r60_ := px18_.1
      refine sm_T_b0 (a := 0) (z := 11) rfl (fun cx21_ => ?_) (fun cx21_ => ?_)
      · have cx21_ : vx20_ = 0 := of_decide_eq_true cx21_
        have n7_ : lx_kd b_ n_ p_ ≠ 7 := fun z_ => by have := e60_.mpr z_; omega
        refine sm_T_go 2 (c1 := (77, [some (.inr (.inr (some (13, 0)))), some (.inl (S0_.2.2.1 149 0 (S0_.1 13 0 29).toNat))], [.inl 6, .inr (.inr (some (13, 0)))], sm_aI S0_ 149 0 (S0_.1 13 0 29).toNat ((S0_.2.2.1 149 0 (S0_.1 13 0 29).toNat) + 1))) rfl ?_
        refine sm_T_cal (d1 := 0) (Q1 := vq_296 6 b_ n_ T_ (.inr p_) (sm_aI S0_ 149 0 (S0_.1 13 0 29).toNat ((S0_.2.2.1 149 0 (S0_.1 13 0 29).toNat) + 1))) rfl rfl (by decide) (vc_296 6 b_ n_ T_ (.inr p_) (sm_aI S0_ 149 0 (S0_.1 13 0 29).toNat ((S0_.2.2.1 149 0 (S0_.1 13 0 29).toNat) + 1)) hIx6_ (by exact t2_ _ _) (by exact g2_ _ _) (by decide)) (fun u_ Sx22_ px25_ => ?_)
        obtain ⟨rfl, vx27_, rfl, px25_⟩ := px25_
        have e77_ := px25_.2 p_ rfl
        have r77_ := px25_.1
        refine sm_T_b0 (a := 0) (z := 11) rfl (fun cx28_ => ?_) (fun cx28_ => ?_)
        · have cx28_ : vx27_ = 0 := of_decide_eq_true cx28_
          have n8_ : lx_kd b_ n_ p_ ≠ 8 := fun z_ => by have := e77_.mpr z_; omega
          have k56_ : lx_kd b_ n_ p_ = 5 ∨ lx_kd b_ n_ p_ = 6 := by by_cases z5_ : lx_kd b_ n_ p_ = 5; exact Or.inl z5_; (by_cases z6_ : lx_kd b_ n_ p_ = 6; exact Or.inr z6_; (exfalso; have q9_ := hit_; unfold p_it at q9_; rw [if_neg n4_, if_neg z5_, if_neg z6_, if_neg n7_, if_neg n8_, if_neg k1_] at q9_; cases q9_))
          obtain ⟨uu_, f_, v_, xr, w1_, w2_, w3_, w4_, w5_, w6_, w7_⟩ := mk_va hit_ k56_ hen_.1 hkk_ hxr_ hec_ hts_
          refine sm_T_go 2 (c1 := (94, [some (.inr (.inr (some (13, 0)))), some (.inl (S0_.2.2.1 149 0 (S0_.1 13 0 29).toNat))], [.inl 61, .inr (.inr (some (13, 0)))], sm_aI S0_ 149 0 (S0_.1 13 0 29).toNat ((S0_.2.2.1 149 0 (S0_.1 13 0 29).toNat) + 1))) rfl ?_
          refine sm_T_cal (d1 := 1) (Q1 := vq_343 61 b_ n_ T_ p_ uu_ f_ v_ (sm_aI S0_ 149 0 (S0_.1 13 0 29).toNat ((S0_.2.2.1 149 0 (S0_.1 13 0 29).toNat) + 1))) rfl rfl (by decide) (vc_343 61 b_ n_ T_ p_ uu_ f_ v_ (sm_aI S0_ 149 0 (S0_.1 13 0 29).toNat ((S0_.2.2.1 149 0 (S0_.1 13 0 29).toNat) + 1)) hIx6_ (by exact t2_ _ _) (by exact g2_ _ _) (by exact w1_) (by exact w2_) (by decide)) (fun u_ Sx29_ px32_ => ?_)
          obtain ⟨rfl, hIx30_, hFx31_, px32_⟩ := px32_
          have hFx33_ : ai_fr (sx_W vw_348) S0_ Sx29_ := ai_fr_tr hFx7_ (fr_le hFx31_ rfl)
          have g94_ := px32_
          have t94_ := rtab_fr (t2_ _ _) hFx31_ rfl rfl rfl rfl rfl
          have e94_ : r_e1 b_ n_ T_ B_ M_ fr_ Sx29_ := ⟨hen_.1, (hFx31_.1 13 0 28 rfl).trans hen_.2.1, ⟨(hFx31_.1 13 0 29 rfl).trans hen_.2.2.1.1, hen_.2.2.1.2⟩, fun m_ hm_ => re1_fr ((en2_ _ _).2.2.2 m_ hm_) hFx31_ rfl rfl rfl rfl rfl rfl⟩
          have v94_ := rev_fr (ev2_ _ _) hFx31_ rfl rfl
          have G94_ := rgl_fr (gg2_ _ _) hFx31_ rfl rfl rfl rfl rfl rfl
          have m94_ := (hFx31_.1 13 0 27 rfl).trans hm1_
          have u94_ := (hFx31_.1 13 0 53 rfl).trans hR_
          have c94_ : Sx29_.1 13 0 52 = S0_.1 13 0 52 ∧ Sx29_.1 13 0 53 = S0_.1 13 0 53 := ⟨hFx31_.1 13 0 52 rfl, hFx31_.1 13 0 53 rfl⟩
          have i94_ : Sx29_.1 13 0 28 = S0_.1 13 0 28 ∧ Sx29_.1 13 0 29 = S0_.1 13 0 29 := ⟨hFx31_.1 13 0 28 rfl, hFx31_.1 13 0 29 rfl⟩
          have j94_ := fun t_ (q9_ : (sx_W vw_343).2.1 t_ = false) (q8_ : t_ ≠ 149) => (fr_arr (t := t_) (i := 0) hFx31_ q9_).trans (s146_ _ _ t_ q8_)
          have l94_ : ∀ j_, Sx29_.2.2.1 149 0 j_ = if j_ = fr_ then (A_.1 M_ : Int) + 1 else S0_.2.2.1 149 0 j_ := fun j_ => (congrFun (fr_arr (t := 149) (i := 0) hFx31_ rfl) j_).trans (s149_ j_)
          refine sm_T_go 1 (c1 := (98, [some (.inr (.inr (some (13, 0)))), some (.inl (S0_.2.2.1 149 0 (S0_.1 13 0 29).toNat))], [.inr (.inr (some (13, 0)))], Sx29_)) rfl ?_
          refine sm_T_cal (d1 := 8) (Q1 := vq_321g b_ n_ T_ F_ I_ B_ X_ M_ (q0_, E_, O_, []) (p_pd b_ n_ A_ M_) (A_.1 M_) fr_ v_ xr Sx29_) rfl rfl (by decide) (vc_321g b_ n_ T_ F_ I_ B_ X_ M_ (q0_, E_, O_, []) (p_pd b_ n_ A_ M_) (A_.1 M_) fr_ v_ xr Sx29_ hIx30_ (by exact t94_) (by exact pd_ok hA_) (by (intro p9_ r9_ h9_; exact pd_ex hA_ hxx_ h9_)) (by exact hX_) (by exact e94_) (by exact hte_) (by exact v94_) (by exact g94_) (by exact m94_) (by exact ⟨rfl, G94_⟩) (by exact w3_)) (fun u_ Sx34_ px37_ => ?_)
          obtain ⟨rfl, hIx35_, hFx36_, px37_⟩ := px37_
          have hFx38_ : ai_fr (sx_W vw_348) S0_ Sx34_ := ai_fr_tr hFx33_ (fr_le hFx36_ rfl)
          obtain ⟨g98_, G1_, v1_, x1_, x2_, x3_, x4_, x5_, x6_⟩ := px37_
          obtain ⟨y1_, y2_, y3_, y4_, y5_⟩ := w7_ G1_ v1_ x1_ x2_ x3_.2
          have gl_ : q0_.1.length ≤ G1_.length := ev_le hX_ x1_
          have F98_ := hFx36_
          have t98_ := rtab_fr t94_ hFx36_ rfl rfl rfl rfl rfl
          refine sm_T_go 2 (c1 := (103, [some (.inr (.inr (some (13, 0)))), some (.inl (S0_.2.2.1 149 0 (S0_.1 13 0 29).toNat))], [.inl (S0_.2.2.1 149 0 (S0_.1 13 0 29).toNat), .inr (.inr (some (13, 0)))], Sx34_)) rfl ?_
          refine sm_T_cal (d1 := 0) (Q1 := vq_342 (S0_.2.2.1 149 0 (S0_.1 13 0 29).toNat) fr_ Sx34_) rfl rfl (by decide) (vc_342 (S0_.2.2.1 149 0 (S0_.1 13 0 29).toNat) fr_ Sx34_ hIx35_ (by exact ⟨(F98_.1 13 0 29 rfl).trans e94_.2.2.1.1, frb_⟩) (by omega)) (fun u_ Sx39_ px42_ => ?_)
          obtain ⟨rfl, hIx40_, hFx41_, px42_⟩ := px42_
          have hFx43_ : ai_fr (sx_W vw_348) S0_ Sx39_ := ai_fr_tr hFx38_ (fr_le hFx41_ rfl)
          obtain ⟨r103_, l103_⟩ := px42_
          have nt_ : (S0_.2.2.1 149 0 (S0_.1 13 0 29).toNat).toNat = A_.1 M_ := by omega
          rw [nt_] at r103_ l103_
          have F103_ := hFx41_
          have t103_ := rtab_fr t98_ hFx41_ rfl rfl rfl rfl rfl
          have g103_ := rg_fr g98_ hFx41_ rfl rfl rfl
          refine sm_T_go 2 (c1 := (109, [some (.inr (.inr (some (13, 0)))), some (.inl (S0_.2.2.1 149 0 (S0_.1 13 0 29).toNat))], [.inl 59, .inr (.inr (some (13, 0)))], Sx39_)) rfl ?_
          refine sm_T_cal (d1 := 3) (Q1 := vq_300 59 b_ n_ T_ (.inr xr.1) Sx39_) rfl rfl (by decide) (vc_300 59 b_ n_ T_ (.inr xr.1) Sx39_ hIx40_ (by exact t103_) (by exact g103_) (by decide)) (fun u_ Sx44_ px47_ => ?_)
          obtain ⟨rfl, hIx45_, hFx46_, px47_⟩ := px47_
          have hFx48_ : ai_fr (sx_W vw_348) S0_ Sx44_ := ai_fr_tr hFx43_ (fr_le hFx46_ rfl)
          have g109_ := px47_
          have QQ_ : imq (Sx44_.1 13 0 37 - Sx44_.1 13 0 38 ≤ 1000) (rnS Sx44_) := by (intro q9_; have GG_ := rgl_fr (rgl_fr x5_ F103_ rfl rfl rfl rfl rfl rfl) hFx46_ rfl rfl rfl rfl rfl rfl; have l9_ : G1_.length ≤ 1000 := (rgl_b GG_).2.2.2.2.mp q9_; have n9_ := rgl_n GG_ (by omega); have m9_ := rgl_n hg_ (by omega); exact rnS_up hrn_ ((hFx46_.1 13 0 52 rfl).trans ((F103_.1 13 0 52 rfl).trans ((F98_.1 13 0 52 rfl).trans c94_.1))) ((hFx46_.1 13 0 53 rfl).trans ((F103_.1 13 0 53 rfl).trans ((F98_.1 13 0 53 rfl).trans c94_.2))) ((fr_arr hFx46_ rfl).trans ((fr_arr F103_ rfl).trans ((fr_arr F98_ rfl).trans (j94_ 151 rfl (by decide))))) (by omega))
          rw [pb_r rfl, w4_] at g109_
          have a109_ : Sx44_.2.2.1 144 0 = _ := fr_arr hFx46_ rfl
          have rw9_ : G1_.length ≤ 1001 → rwv (Sx44_.2.2.1 144 0) (8 * (40 * fr_ + A_.1 M_)) v1_ := fun z_ k9_ z9_ e9_ => by (have kl_ : k9_ < v1_.length := by by_cases q_ : k9_ < v1_.length; exact q_; (rw [List.getElem?_eq_none (by omega)] at e9_; cases e9_)); (have x8_ := x3_.2); (have q8_ := x6_ z_ k9_ z9_ e9_); rw [Nat.zero_add] at q8_; rw [a109_, r103_ k9_ (by omega)]; exact q8_
          have low9_ : ∀ j_, j_ < 8 * (40 * fr_ + A_.1 M_) ∨ 8 * (40 * fr_ + A_.1 M_) + 8 ≤ j_ → Sx44_.2.2.1 144 0 j_ = _ := fun j_ hj_ => by rw [a109_, l103_ j_ hj_, fr_arr F98_ rfl]
          have PP_ : imq (lx_kd b_ n_ p_ ≠ 8) (pN b_ n_ T_ F_ I_ B_ M_ fr_ (rr_.1.1 M_) q0_.2.2 q1_ E1_ O_ O1_ V1_ rr_.2.2 S0_ Sx44_) ∧ imq (lx_kd b_ n_ p_ = 8) (p8 b_ n_ T_ F_ I_ B_ X_ M_ fr_ (A_.1 M_) q0_ E_ O_ kk_ (rr_.1.1 M_) rr_.2.2 S0_ Sx44_) := by rw [y1_, y2_, y3_, y5_]; exact ⟨fun _ => ⟨g109_, rgl_fr (rgl_fr x5_ F103_ rfl rfl rfl rfl rfl rfl) hFx46_ rfl rfl rfl rfl rfl rfl, by rw [w6_]; exact rev_k v94_ (fun z_ => Nat.le_trans gl_ z_) (by omega) hE8_ (hON_ _ (Nat.le_refl _)) low9_ ((fr_arr hFx46_ rfl).trans ((fr_arr F103_ rfl).trans (fr_arr F98_ rfl))) rw9_, (hFx46_.1 13 0 53 rfl).trans ((F103_.1 13 0 53 rfl).trans ((F98_.1 13 0 53 rfl).trans u94_)), up_8 hE8_ x3_.2, ⟨(hFx46_.1 13 0 28 rfl).trans ((F103_.1 13 0 28 rfl).trans ((F98_.1 13 0 28 rfl).trans i94_.1)), (hFx46_.1 13 0 29 rfl).trans ((F103_.1 13 0 29 rfl).trans ((F98_.1 13 0 29 rfl).trans i94_.2))⟩, ⟨(fr_arr hFx46_ rfl).trans ((fr_arr F103_ rfl).trans ((fr_arr F98_ rfl).trans (j94_ 146 rfl (by decide)))), (fr_arr hFx46_ rfl).trans ((fr_arr F103_ rfl).trans ((fr_arr F98_ rfl).trans (j94_ 147 rfl (by decide)))), (fr_arr hFx46_ rfl).trans ((fr_arr F103_ rfl).trans ((fr_arr F98_ rfl).trans (j94_ 148 rfl (by decide))))⟩, by rw [w6_]; exact fun j_ => (congrFun ((fr_arr hFx46_ rfl).trans ((fr_arr F103_ rfl).trans (fr_arr F98_ rfl))) j_).trans (l94_ j_), fun j_ hj_ => (low9_ j_ (by omega)).trans (congrFun (j94_ 144 rfl (by decide)) j_), by rw [y2_] at y4_; exact y4_, rfl, rfl, rfl, up_B hEB_ w5_⟩, fun z_ => by omega⟩
          refine sm_T_rv rfl ⟨_, _, rfl, rfl, hIx45_, hFx48_, ?_⟩
          exact ⟨PP_, QQ_⟩
        · have cx28_ : ¬ (vx27_ = 0) := of_decide_eq_false cx28_
          have k8_ : lx_kd b_ n_ p_ = 8 := e77_.mp (by omega)
          obtain ⟨d_, p1_, p2_, p3_, p4_, p5_, pe_, l_, w1_, w2_, w3_, w4_, w5_, w6_, w7_, w8_, w9_, wa_, wb_, wc_, wd_, we_, wf_, wg_, wh_⟩ := mk_us hit_ k8_ hen_.1 hkk_ hxr_ hec_ hts_
          refine sm_T_go 2 (c1 := (85, [some (.inr (.inr (some (13, 0)))), some (.inl (S0_.2.2.1 149 0 (S0_.1 13 0 29).toNat))], [.inl (S0_.2.2.1 149 0 (S0_.1 13 0 29).toNat), .inr (.inr (some (13, 0)))], sm_aI S0_ 149 0 (S0_.1 13 0 29).toNat ((S0_.2.2.1 149 0 (S0_.1 13 0 29).toNat) + 1))) rfl ?_
          refine sm_T_cal (d1 := 9) (Q1 := vq_345 (S0_.2.2.1 149 0 (S0_.1 13 0 29).toNat) b_ n_ T_ F_ I_ A_ B_ X_ M_ fr_ q0_ E_ O_ p_ d_ p1_ p2_ p3_ p4_ p5_ pe_ rr_.2.2 l_ (sm_aI S0_ 149 0 (S0_.1 13 0 29).toNat ((S0_.2.2.1 149 0 (S0_.1 13 0 29).toNat) + 1))) rfl rfl (by decide) (vc_345 (S0_.2.2.1 149 0 (S0_.1 13 0 29).toNat) b_ n_ T_ F_ I_ A_ B_ X_ M_ fr_ q0_ E_ O_ p_ d_ p1_ p2_ p3_ p4_ p5_ pe_ rr_.2.2 l_ (sm_aI S0_ 149 0 (S0_.1 13 0 29).toNat ((S0_.2.2.1 149 0 (S0_.1 13 0 29).toNat) + 1)) hIx6_ (by exact t2_ _ _) (by exact g2_ _ _) (by exact hm1_) (by exact en2_ _ _) (by exact hA_) (by exact hxx_) (by exact hX_) (by exact hte_) (by exact ev2_ _ _) (by exact gg2_ _ _) (by exact ⟨w1_, by omega, t149_, w2_⟩) (by exact w3_) (by exact w5_) (by exact w6_) (by exact w7_) (by exact w8_) (by exact w9_) (by exact wa_) (by exact wb_) (by exact wc_) (by exact wd_) (by exact we_) (by exact wf_) (by exact hE8_)) (fun u_ Sx49_ px52_ => ?_)
          obtain ⟨rfl, hIx50_, hFx51_, px52_⟩ := px52_
          have hFx53_ : ai_fr (sx_W vw_348) S0_ Sx49_ := ai_fr_tr hFx7_ (fr_le hFx51_ rfl)
          obtain ⟨G_, o_, i9_, v1_, v2_, v3_, vz_, v4_, v5_, v6_, v7_, v8_⟩ := px52_
          rw [ex9_, htd_] at v6_
          have QQ_ : imq (Sx49_.1 13 0 37 - Sx49_.1 13 0 38 ≤ 1000) (rnS Sx49_) := by (intro q9_; have l9_ : G_.length ≤ 1000 := (rgl_b v4_).2.2.2.2.mp q9_; have l8_ : q0_.1.length ≤ G_.length := ev_le hX_ v1_; have n9_ := rgl_n v4_ (by omega); have m9_ := rgl_n hg_ (by omega); exact rnS_up hrn_ (hFx51_.1 13 0 52 rfl) (hFx51_.1 13 0 53 rfl) ((fr_arr (t := 151) hFx51_ rfl).trans (s146_ _ _ _ (by decide))) (by omega))
          have PP_ : imq (lx_kd b_ n_ p_ ≠ 8) (pN b_ n_ T_ F_ I_ B_ M_ fr_ (rr_.1.1 M_) q0_.2.2 q1_ E1_ O_ O1_ V1_ rr_.2.2 S0_ Sx49_) ∧ imq (lx_kd b_ n_ p_ = 8) (p8 b_ n_ T_ F_ I_ B_ X_ M_ fr_ (A_.1 M_) q0_ E_ O_ kk_ (rr_.1.1 M_) rr_.2.2 S0_ Sx49_) := ⟨fun z_ => absurd k8_ z_, fun _ => ⟨d_, _, G_, o_, i9_, wg_, w1_, w2_, wh_, w4_, w3_, v1_, v2_, v3_, vz_, wf_, v4_, v5_, v6_, fun j_ hj_ => (v7_ j_ hj_).trans (congrFun (s146_ _ _ _ (by decide)) j_), v8_, hFx51_.1 13 0 53 rfl⟩⟩
          refine sm_T_go 1 (c1 := (112, [some (.inr (.inr (some (13, 0)))), some (.inl (S0_.2.2.1 149 0 (S0_.1 13 0 29).toNat))], [], Sx49_)) rfl ?_
          refine sm_T_rv rfl ⟨_, _, rfl, rfl, hIx50_, hFx53_, ?_⟩
          exact ⟨PP_, QQ_⟩
      · have cx21_ : ¬ (vx20_ = 0) := of_decide_eq_false cx21_
        have k7_ : lx_kd b_ n_ p_ = 7 := e60_.mp (by omega)
        obtain ⟨uu_, f_, wd_, w1_, w2_, w3_, w4_, w5_, w6_, w7_, w8_, w9_, wa_, wz_⟩ := mk_re hit_ k7_ hen_.1 hkk_ hxr_ hec_ hts_
        have w4a := w4_.1
        have w4b := w4_.2
        refine sm_T_go 2 (c1 := (68, [some (.inr (.inr (some (13, 0)))), some (.inl (S0_.2.2.1 149 0 (S0_.1 13 0 29).toNat))], [.inl (S0_.2.2.1 149 0 (S0_.1 13 0 29).toNat), .inr (.inr (some (13, 0)))], sm_aI S0_ 149 0 (S0_.1 13 0 29).toNat ((S0_.2.2.1 149 0 (S0_.1 13 0 29).toNat) + 1))) rfl ?_
        refine sm_T_cal (d1 := 2) (Q1 := vq_344 (S0_.2.2.1 149 0 (S0_.1 13 0 29).toNat) b_ n_ T_ p_ uu_ f_ rr_.2.2 B_ M_ (A_.1 M_) fr_ wd_ q0_.2.1 I_ (sm_aI S0_ 149 0 (S0_.1 13 0 29).toNat ((S0_.2.2.1 149 0 (S0_.1 13 0 29).toNat) + 1))) rfl rfl (by decide) (vc_344 (S0_.2.2.1 149 0 (S0_.1 13 0 29).toNat) b_ n_ T_ p_ uu_ f_ rr_.2.2 B_ M_ (A_.1 M_) fr_ wd_ q0_.2.1 I_ (sm_aI S0_ 149 0 (S0_.1 13 0 29).toNat ((S0_.2.2.1 149 0 (S0_.1 13 0 29).toNat) + 1)) hIx6_ (by exact t2_ _ _) (by exact g2_ _ _) (by exact w1_) (by exact w2_) (by exact ⟨fr1_, frb_⟩) (by exact ⟨t149_, w3_, B40_, M15_⟩) (by exact hen_.2.1) (by exact ⟨by rw [s146_ _ _ _ (by decide), ((hen_.2.2.2 M_ (Nat.le_refl _)).2 (A_.1 M_) w3_).2.2.1]; exact w4a, w4b⟩) (by exact ⟨hR_, w5_⟩) (by exact hms_) (by rw [s146_ _ _ _ (by decide)]; exact hI1_) (by exact rn2_ _ _) (by (have q9_ := (rgl_b hg_).2.2.1; rw [w6_] at hRF_; have q8_ : 1 + I_ + (q0_.2.1 + wd_) ≤ F_ := hRF_; show 1 + (I_ : Int) + q0_.2.1 + wd_ ≤ S0_.1 13 0 37; omega))) (fun u_ Sx54_ px57_ => ?_)
        obtain ⟨rfl, hIx55_, hFx56_, px57_⟩ := px57_
        have hFx58_ : ai_fr (sx_W vw_348) S0_ Sx54_ := ai_fr_tr hFx7_ (fr_le hFx56_ rfl)
        obtain ⟨g68_, u68_, b68_, v68_, l68_, rn68_⟩ := px57_
        have QQ_ : imq (Sx54_.1 13 0 37 - Sx54_.1 13 0 38 ≤ 1000) (rnS Sx54_) := fun _ => rn68_
        have PP_ : imq (lx_kd b_ n_ p_ ≠ 8) (pN b_ n_ T_ F_ I_ B_ M_ fr_ (rr_.1.1 M_) q0_.2.2 q1_ E1_ O_ O1_ V1_ rr_.2.2 S0_ Sx54_) ∧ imq (lx_kd b_ n_ p_ = 8) (p8 b_ n_ T_ F_ I_ B_ X_ M_ fr_ (A_.1 M_) q0_ E_ O_ kk_ (rr_.1.1 M_) rr_.2.2 S0_ Sx54_) := by rw [w6_, w7_, w8_, wz_]; exact ⟨fun _ => ⟨g68_, rgl_fr (gg2_ _ _) hFx56_ rfl rfl rfl rfl rfl rfl, by rw [wa_]; exact rev_k (ev2_ _ _) id (by omega) hE8_ (hON_ _ (Nat.le_refl _)) l68_ (fr_arr hFx56_ rfl) (fun _ => v68_), u68_, up_8 hE8_ (by rw [r_bt_l]; omega), ⟨hFx56_.1 13 0 28 rfl, hFx56_.1 13 0 29 rfl⟩, ⟨(fr_arr hFx56_ rfl).trans (s146_ _ _ _ (by decide)), (fr_arr hFx56_ rfl).trans (s146_ _ _ _ (by decide)), (fr_arr hFx56_ rfl).trans (s146_ _ _ _ (by decide))⟩, by rw [wa_]; exact fun j_ => (congrFun (fr_arr (t := 149) (i := 0) hFx56_ rfl) j_).trans (s149_ j_), fun j_ hj_ => (l68_ j_ (by omega)).trans (congrFun (s146_ _ _ _ (by decide)) j_), by rw [w7_] at w9_; exact w9_, rfl, rfl, rfl, up_B hEB_ w3_⟩, fun z_ => by omega⟩
        refine sm_T_go 1 (c1 := (112, [some (.inr (.inr (some (13, 0)))), some (.inl (S0_.2.2.1 149 0 (S0_.1 13 0 29).toNat))], [], Sx54_)) rfl ?_
        refine sm_T_rv rfl ⟨_, _, rfl, rfl, hIx55_, hFx58_, ?_⟩
        exact ⟨PP_, QQ_⟩
    · have cx14_ : ¬ (vx13_ = 0) := of_decide_eq_false cx14_
      have k4_ : lx_kd b_ n_ p_ = 4 := e43_.mp (by omega)
      obtain ⟨uu_, f_, w1_, w2_, w3_, w4_, w5_, w6_, w7_, wz_⟩ := mk_in hit_ k4_ hkk_ hxr_ hec_ hts_
      refine sm_T_go 2 (c1 := (52, [some (.inr (.inr (some (13, 0)))), some (.inl (S0_.2.2.1 149 0 (S0_.1 13 0 29).toNat))], [.inl 59, .inr (.inr (some (13, 0)))], sm_aI S0_ 149 0 (S0_.1 13 0 29).toNat ((S0_.2.2.1 149 0 (S0_.1 13 0 29).toNat) + 1))) rfl ?_
      refine sm_T_cal (d1 := 1) (Q1 := vq_343 59 b_ n_ T_ p_ uu_ f_ rr_.2.2 (sm_aI S0_ 149 0 (S0_.1 13 0 29).toNat ((S0_.2.2.1 149 0 (S0_.1 13 0 29).toNat) + 1))) rfl rfl (by decide) (vc_343 59 b_ n_ T_ p_ uu_ f_ rr_.2.2 (sm_aI S0_ 149 0 (S0_.1 13 0 29).toNat ((S0_.2.2.1 149 0 (S0_.1 13 0 29).toNat) + 1)) hIx6_ (by exact t2_ _ _) (by exact g2_ _ _) (by exact w1_) (by exact w2_) (by decide)) (fun u_ Sx59_ px62_ => ?_)
      obtain ⟨rfl, hIx60_, hFx61_, px62_⟩ := px62_
      have hFx63_ : ai_fr (sx_W vw_348) S0_ Sx59_ := ai_fr_tr hFx7_ (fr_le hFx61_ rfl)
      have QQ_ : imq (Sx59_.1 13 0 37 - Sx59_.1 13 0 38 ≤ 1000) (rnS Sx59_) := fun _ => rnS_fr (rn2_ _ _) hFx61_ rfl rfl rfl rfl
      have PP_ : imq (lx_kd b_ n_ p_ ≠ 8) (pN b_ n_ T_ F_ I_ B_ M_ fr_ (rr_.1.1 M_) q0_.2.2 q1_ E1_ O_ O1_ V1_ rr_.2.2 S0_ Sx59_) ∧ imq (lx_kd b_ n_ p_ = 8) (p8 b_ n_ T_ F_ I_ B_ X_ M_ fr_ (A_.1 M_) q0_ E_ O_ kk_ (rr_.1.1 M_) rr_.2.2 S0_ Sx59_) := by rw [w3_, w4_, w5_, wz_]; exact ⟨fun _ => ⟨px62_, rgl_fr (gg2_ _ _) hFx61_ rfl rfl rfl rfl rfl rfl, by rw [w7_]; exact rev_i (rev_fr (ev2_ _ _) hFx61_ rfl rfl) id (hON_ _ (Nat.le_refl _)), (hFx61_.1 13 0 53 rfl).trans hR_, hE8_, ⟨hFx61_.1 13 0 28 rfl, hFx61_.1 13 0 29 rfl⟩, ⟨(fr_arr hFx61_ rfl).trans (s146_ _ _ _ (by decide)), (fr_arr hFx61_ rfl).trans (s146_ _ _ _ (by decide)), (fr_arr hFx61_ rfl).trans (s146_ _ _ _ (by decide))⟩, by rw [w7_]; exact fun j_ => (congrFun (fr_arr (t := 149) (i := 0) hFx61_ rfl) j_).trans (s149_ j_), fun j_ _ => congrFun ((fr_arr hFx61_ rfl).trans (s146_ _ _ _ (by decide))) j_, w6_, rfl, rfl, rfl, hEB_⟩, fun z_ => by omega⟩
      refine sm_T_go 1 (c1 := (112, [some (.inr (.inr (some (13, 0)))), some (.inl (S0_.2.2.1 149 0 (S0_.1 13 0 29).toNat))], [], Sx59_)) rfl ?_
      refine sm_T_rv rfl ⟨_, _, rfl, rfl, hIx60_, hFx63_, ?_⟩
      exact ⟨PP_, QQ_⟩
  · have cx3_ : ¬ ((S0_.2.2.1 119 0 (S0_.1 13 0 9).toNat) ≠ 1) := of_decide_eq_false cx3_
    have k1_ : lx_kd b_ n_ p_ = 1 := rk_.2.1.mp (by rw [← ra_.1]; rw [e4_] at cx3_; omega)
    obtain ⟨s_, r1_, r2_, xr, w1_, w2_, w3_, w4_, w5_, w6_, w7_, wz_, w8_⟩ := mk_ne hit_ k1_ hA_ hkk_ hec_
    refine sm_T_go 1 (c1 := (14, [some (.inr (.inr (some (13, 0)))), none], [.inr (.inr (some (13, 0)))], S0_)) rfl ?_
    refine sm_T_cal (d1 := 9) (Q1 := vq_347 b_ n_ T_ F_ I_ A_ B_ X_ M_ fr_ q0_ E_ O_ p_ s_ r1_ r2_ xr rr_.2.2 (S0_.2.2.1 150 0 (40 * fr_ + s_)).toNat S0_) rfl rfl (by decide) (vc_347 b_ n_ T_ F_ I_ A_ B_ X_ M_ fr_ q0_ E_ O_ p_ s_ r1_ r2_ xr rr_.2.2 (S0_.2.2.1 150 0 (40 * fr_ + s_)).toNat S0_ hI_ (by exact ht_) (by exact hx_) (by exact hm1_) (by exact hen_) (by exact hA_) (by exact hxx_) (by exact hX_) (by exact hte_) (by exact hev_) (by exact hg_) (by exact k1_) (by exact w1_) (by exact w2_) (by exact w3_) (by exact w4_) (by exact w5_) (by exact w6_) (by (have q9_ : 0 ≤ S0_.2.2.1 150 0 (40 * fr_ + s_) ∧ S0_.2.2.1 150 0 (40 * fr_ + s_) ≤ 6 := hI_.2 150 0 _; omega)) (by exact hrn_) (by exact hlw_) (by exact hXw_) (by (have q9_ : q0_.2.1 ≤ q1_.2.1 := ev_R hXw_ hec_; omega)) (by (rw [wz_.1]; exact (hxx_.2.2 M_ s_ (Nat.le_refl _) wz_.2).2.1))) (fun u_ Sx64_ px67_ => ?_)
    obtain ⟨rfl, hIx65_, hFx66_, px67_⟩ := px67_
    have hFx68_ : ai_fr (sx_W vw_348) S0_ Sx64_ := ai_fr_tr hF_ (fr_le hFx66_ rfl)
    obtain ⟨⟨g14_, G_, v9_, d1_, d2_, d3_, d4_⟩, QQ_⟩ := px67_
    obtain ⟨x1_, x2_, x3_, x4_⟩ := w8_ G_ v9_ d1_
    have gl_ : q0_.1.length ≤ G_.length := ev_le hX_ d1_
    have PP_ : imq (lx_kd b_ n_ p_ ≠ 8) (pN b_ n_ T_ F_ I_ B_ M_ fr_ (rr_.1.1 M_) q0_.2.2 q1_ E1_ O_ O1_ V1_ rr_.2.2 S0_ Sx64_) ∧ imq (lx_kd b_ n_ p_ = 8) (p8 b_ n_ T_ F_ I_ B_ X_ M_ fr_ (A_.1 M_) q0_ E_ O_ kk_ (rr_.1.1 M_) rr_.2.2 S0_ Sx64_) := by rw [x1_, x2_, x3_, x4_, w7_]; exact ⟨fun _ => ⟨g14_, d4_, rev_m (rev_fr hev_ hFx66_ rfl rfl) (fun z_ => Nat.le_trans gl_ z_), (hFx66_.1 13 0 53 rfl).trans hR_, hE8_, ⟨hFx66_.1 13 0 28 rfl, hFx66_.1 13 0 29 rfl⟩, ⟨fr_arr hFx66_ rfl, fr_arr hFx66_ rfl, fr_arr hFx66_ rfl⟩, fun j_ => (congrFun (fr_arr (t := 149) (i := 0) hFx66_ rfl) j_).trans (by by_cases z_ : j_ = fr_; (rw [if_pos z_, z_]; exact htd_); (rw [if_neg z_])), fun j_ _ => congrFun (fr_arr hFx66_ rfl) j_, hts_, rfl, rfl, rfl, hEB_⟩, fun z_ => by omega⟩
    refine sm_T_rv rfl ⟨_, _, rfl, rfl, hIx65_, hFx68_, ?_⟩
    exact ⟨PP_, QQ_⟩
