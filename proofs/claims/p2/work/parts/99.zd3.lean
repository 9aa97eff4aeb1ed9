/-! every right expression can be worked out; written by wip/p55/gen/vg -/

/-! every right expression can_ be_ worked out_ -/
section TOT_
variable {b_ : Nat → Int} {n_ F_ I_ m_ K_ : Nat} {A_ : pA} {X_ : Nat → gQ → gE → Option (gQ × gE)} {s0_ : gS} {pr_ : pPr}
def xt1 (F_ I_ : Nat) (A_ : pA) (X_ : Nat → gQ → gE → Option (gQ × gE)) (m_ : Nat) (s0_ : gS) (h_ c_ : List Int) : Prop := ∃ G_ V_, ev F_ I_ A_ X_ m_ s0_ c_ = some ((G_, s0_.1.2), s0_.2.1, s0_.2.2.1, V_) ∧ V_.map (fun v_ => (v_.length : Int)) = h_ ∧ ∀ v_, v_ ∈ V_ → 1 ≤ v_.length ∧ v_.length ≤ 8
def xto (F_ I_ : Nat) (A_ : pA) (X_ : Nat → gQ → gE → Option (gQ × gE)) (m_ : Nat) (s0_ : gS) (s_ : pO) : Prop := s_ok false 1 s_ ∧ xt1 F_ I_ A_ X_ m_ s0_ s_.2.1 s_.2.2 ∧ o_wd s_.1 s_.2.1.tail
def xtx (b_ : Nat → Int) (n_ F_ I_ : Nat) (A_ : pA) (X_ : Nat → gQ → gE → Option (gQ × gE)) (m_ : Nat) (s0_ : gS) (x_ : pX) : Prop := x_ok b_ n_ false x_ ∧ xt1 F_ I_ A_ X_ m_ s0_ x_.2.2.2.2.1 x_.2.2.2.2.2 ∧ o_wd x_.2.2.2.1 (if x_.1 = 0 then x_.2.2.2.2.1 else x_.2.2.2.2.1.tail)
theorem xto_ap {k_ x_ y_ : Int} {q_ : Nat} {o_ : List (Int × Nat)} {g_ c_ : List Int} (h_ : xto F_ I_ A_ X_ m_ s0_ ((k_, q_) :: o_, y_ :: x_ :: g_, c_)) (hk_ : 1 ≤ k_) (hxy_ : x_ = y_) : xto F_ I_ A_ X_ m_ s0_ (o_, (if k_ = 4 then 1 else x_) :: g_, k_ :: c_) := by
  obtain ⟨hs_, ⟨G_, V_, h1_, h2_, h3_⟩, h4_⟩ := h_
  have h2_ : V_.map (fun v_ => (v_.length : Int)) = y_ :: x_ :: g_ := h2_
  obtain ⟨vy_, V1_, rfl, ly_, xm1_⟩ := mp_c h2_
  obtain ⟨vx_, V2_, rfl, lx_, xm2_⟩ := mp_c xm1_
  have k5_ : k_ ≤ 5 := (o_ok_lt hs_.1 hk_).2
  have bx_ := h3_ vx_ (by simp)
  have lxy_ : vx_.length = vy_.length := by omega
  have h1_ : ev F_ I_ A_ X_ m_ s0_ c_ = some ((G_, s0_.1.2), s0_.2.1, s0_.2.2.1, vy_ :: vx_ :: V2_) := h1_
  have evn_ := ev_op h1_ ⟨hk_, k5_⟩ lxy_ bx_.1
  have oln_ := g_op_ln (F_ := F_) (k_ := k_) (x_ := vx_) (y_ := vy_) (G_ := G_) lxy_ bx_.1
  have nw_ : (if k_ = 4 then (1 : Int) else x_) = ((g_op F_ k_ G_ vx_ vy_).1.length : Int) := by
    rw [oln_]
    by_cases z_ : k_ = 4
    · rw [if_pos z_, if_pos z_]; rfl
    · rw [if_neg z_, if_neg z_]; omega
  refine ⟨s_ok_ap hk_ (by have xb_ := (h_ok_c.mp (h_ok_c.mp hs_.2.2.2).2).1; split; decide; exact xb_) hs_, ⟨(g_op F_ k_ G_ vx_ vy_).2, (g_op F_ k_ G_ vx_ vy_).1 :: V2_, evn_, ?_, fun v_ hv_ => ?_⟩, o_wd_b h4_ hk_⟩
  · rw [List.map_cons, xm2_, nw_]
  · rcases List.mem_cons.mp hv_ with z_ | z_
    · rw [z_, oln_]
      split <;> omega
    · exact h3_ v_ (by simp [z_])
theorem xto_ch {x_ y_ z_ : Int} {q_ : Nat} {o_ : List (Int × Nat)} {g_ c_ : List Int} (h_ : xto F_ I_ A_ X_ m_ s0_ ((-4, q_) :: o_, x_ :: y_ :: z_ :: g_, c_)) (hxy_ : x_ = y_) : xto F_ I_ A_ X_ m_ s0_ (o_, y_ :: g_, 7 :: c_) := by
  obtain ⟨hs_, ⟨G_, V_, h1_, h2_, h3_⟩, h4_⟩ := h_
  have h2_ : V_.map (fun v_ => (v_.length : Int)) = x_ :: y_ :: z_ :: g_ := h2_
  obtain ⟨vx_, V1_, rfl, lx_, xm1_⟩ := mp_c h2_
  obtain ⟨vy_, V2_, rfl, ly_, xm2_⟩ := mp_c xm1_
  obtain ⟨vz_, V3_, rfl, lz_, xm3_⟩ := mp_c xm2_
  have ow_ := o_wd_4 (y_ := y_) (z_ := z_) (g_ := g_) h4_
  obtain ⟨cc_, rfl⟩ : ∃ cc_, vz_ = [cc_] := by
    cases vz_ with
    | nil => simp only [List.length_nil] at lz_; omega
    | cons a1_ a2_ =>
      cases a2_ with
      | nil => exact ⟨a1_, rfl⟩
      | cons a3_ a4_ => simp only [List.length_cons] at lz_; push_cast at lz_; omega
  have by1_ := h3_ vy_ (by simp)
  have lxy_ : vy_.length = vx_.length := by omega
  have oln_ : (g_ch F_ cc_ G_ vy_ vx_).1.length = vy_.length := g_z2_ln _ _ _ lxy_
  have h1_ : ev F_ I_ A_ X_ m_ s0_ c_ = some ((G_, s0_.1.2), s0_.2.1, s0_.2.2.1, vx_ :: vy_ :: [cc_] :: V3_) := h1_
  have evn_ := ev_ch h1_ lxy_ by1_.1
  obtain ⟨t1_, t2_, t3_, t4_⟩ := hs_
  refine ⟨⟨t1_.2.2, ?_, ?_, ?_⟩, ⟨(g_ch F_ cc_ G_ vy_ vx_).2, (g_ch F_ cc_ G_ vy_ vx_).1 :: V3_, evn_, ?_, fun v_ hv_ => ?_⟩, ow_.2⟩
  · have t2_ : 1 + o_mk o_ ≤ 60 := t2_
    show o_mk o_ ≤ 60
    omega
  · show (y_ :: g_).length = o_hl o_ + 1
    have t3_ : (x_ :: y_ :: z_ :: g_).length = (2 + o_hl o_) + 1 := t3_
    simp only [List.length_cons] at t3_ ⊢
    omega
  · exact h_ok_c.mpr ⟨(h_ok_c.mp (h_ok_c.mp t4_).2).1, (h_ok_c.mp (h_ok_c.mp (h_ok_c.mp t4_).2).2).2⟩
  · rw [List.map_cons, xm3_, oln_, ly_]
  · rcases List.mem_cons.mp hv_ with w_ | w_
    · rw [w_, oln_]; exact by1_
    · exact h3_ v_ (by simp [w_])
theorem xto_se {ls_ : Int} (h1_ : 1 ≤ ls_) : ∀ (o_ : List (Int × Nat)) (h_ c_ : List Int) (s_ : pO), xto F_ I_ A_ X_ m_ s0_ (o_, h_, c_) → p_se2 1 ls_ (o_, h_, c_) = .inr s_ → xto F_ I_ A_ X_ m_ s0_ s_
  | [], h_, c_, s_, x_, e_ => by
    have q_ : p_se2 1 ls_ ([], h_, c_) = .inr ([], h_, c_) := p_se_st (show (0 : Int) < ls_ by omega)
    rw [q_] at e_
    cases e_
    exact x_
  | (k_, q_) :: o_, h_, c_, s_, x_, e_ => by
    by_cases g_ : ls_ ≤ k_
    · obtain ⟨y_, z_, l_, hl_⟩ := s_ok_2 (show 1 ≤ k_ by omega) x_.1
      subst hl_
      have w_ := se1_ap g_ e_
      exact xto_se h1_ o_ _ _ s_ (xto_ap x_ (by omega) w_.1) w_.2
    · have q_ : p_se2 1 ls_ ((k_, q_) :: o_, h_, c_) = .inr ((k_, q_) :: o_, h_, c_) := p_se_st (show k_ < ls_ by omega)
      rw [q_] at e_
      cases e_
      exact x_
theorem xto_sa : ∀ (o_ : List (Int × Nat)) (h_ c_ : List Int) (s_ : pO), xto F_ I_ A_ X_ m_ s0_ (o_, h_, c_) → p_sa2 1 (o_, h_, c_) = .inr s_ → xto F_ I_ A_ X_ m_ s0_ s_
  | [], h_, c_, s_, x_, e_ => by
    have q_ : p_sa2 1 ([], h_, c_) = .inr ([], h_, c_) := p_sa_st (show (0 : Int) < 1 by decide) (show (0 : Int) ≠ -4 by decide)
    rw [q_] at e_
    cases e_
    exact x_
  | (k_, q_) :: o_, h_, c_, s_, x_, e_ => by
    by_cases g4_ : k_ = -4
    · subst g4_
      obtain ⟨y_, z_, w_, l_, hl_⟩ := s_ok_3 x_.1
      subst hl_
      have w_ := sa1_ch e_
      exact xto_sa o_ _ _ s_ (xto_ch x_ w_.1) w_.2
    · by_cases g1_ : 1 ≤ k_
      · obtain ⟨y_, z_, l_, hl_⟩ := s_ok_2 g1_ x_.1
        subst hl_
        have e2_ : p_sa false ((k_, q_) :: o_) (y_ :: z_ :: l_) c_ = .inr s_ := e_
        rw [p_sa, if_neg g4_, if_pos g1_] at e2_
        have e2_ : pb (p_ap false k_ q_ z_ y_ c_) (fun r_ => p_sa false o_ (r_.1 :: l_) r_.2) = .inr s_ := e2_
        rw [ap_f] at e2_
        by_cases w_ : z_ = y_
        · rw [if_pos w_] at e2_
          exact xto_sa o_ _ _ s_ (xto_ap x_ g1_ w_) e2_
        · rw [if_neg w_] at e2_
          cases e2_
      · have q_ : p_sa2 1 ((k_, q_) :: o_, h_, c_) = .inr ((k_, q_) :: o_, h_, c_) := p_sa_st (show k_ < 1 by omega) g4_
        rw [q_] at e_
        cases e_
        exact x_
/-- what stands between operators is_ pushed -/
def pr_ev (F_ I_ : Nat) (A_ : pA) (X_ : Nat → gQ → gE → Option (gQ × gE)) (m_ : Nat) (s0_ : gS) (pr_ : pPr) : Prop := ∀ p_ r_, pr_ p_ = .inr r_ → ∃ v_, ev1 F_ I_ A_ X_ m_ s0_.2.1 s0_.2.2.1 r_.2.2 v_ ∧ (v_.length : Int) = r_.2.1 ∧ (1 ≤ v_.length ∧ v_.length ≤ 8)
theorem xt1_ti {t_ : Bool} {h_ c_ : List Int} {x_ : Int} (w_ : xt1 F_ I_ A_ X_ m_ s0_ (x_ :: h_) c_) : xt1 F_ I_ A_ X_ m_ s0_ (p_ti false t_ (x_ :: h_) c_).1 (p_ti false t_ (x_ :: h_) c_).2 := by
  rw [ti2]
  cases t_ with
  | false => exact w_
  | true =>
    obtain ⟨G_, V_, h1_, h2_, h3_⟩ := w_
    obtain ⟨v_, V1_, rfl, lv_, xm_⟩ := mp_c h2_
    refine ⟨G_, _, ev_no h1_, ?_, fun u_ hu_ => ?_⟩
    · rw [List.map_cons, List.length_map, ← h2_, List.map_cons]
    · rcases List.mem_cons.mp hu_ with z_ | z_
      · rw [z_, List.length_map]
        exact h3_ v_ (by simp)
      · exact h3_ u_ (by simp [z_])
theorem xtx_st (hn_ : n_ ≤ 1280) (hpr_ : pr_ok b_ n_ pr_) (hev_ : pr_ev F_ I_ A_ X_ m_ s0_ pr_) {x_ : pX} {z_ : pX ⊕ pR} (h_ : xtx b_ n_ F_ I_ A_ X_ m_ s0_ x_) (e_ : p_st b_ n_ false pr_ x_ = .inr z_) : (∀ y_, z_ = .inl y_ → xtx b_ n_ F_ I_ A_ X_ m_ s0_ y_) ∧ ∀ r_, z_ = .inr r_ → xto F_ I_ A_ X_ m_ s0_ ([], r_.2.1, r_.2.2) := by
  obtain ⟨ph_, t_, p_, o_, g_, c_⟩ := x_
  obtain ⟨hx_, ht_, ho_⟩ := h_
  have hph_ : ph_ ≤ 1 := hx_.1
  have lim_ := o_lim hx_.2.1.1 hx_.2.1.2.1
  by_cases p0_ : ph_ = 0
  · subst p0_
    have ho_ : o_wd o_ g_ := ho_
    by_cases k33_ : lx_kd b_ n_ p_ = 33
    · have e1_ := e_
      rw [pA_b k33_] at e1_
      obtain ⟨q_, q1_, q2_⟩ := pb_inr e1_
      cases q2_
      exact ⟨fun y_ hy_ => (by cases hy_; exact ⟨x_st hn_ hpr_ hx_ e_, ht_, ho_⟩), fun r_ hr_ => (by cases hr_)⟩
    · by_cases k40_ : lx_kd b_ n_ p_ = 40
      · by_cases k60_ : o_mk o_ = 60
        · rw [pA_x k40_ k60_] at e_; cases e_
        · have e1_ := e_
          rw [pA_o k40_ k60_] at e1_
          obtain ⟨q_, q1_, q2_⟩ := pb_inr e1_
          cases q2_
          refine ⟨fun y_ hy_ => ?_, fun r_ hr_ => by cases hr_⟩
          cases hy_
          refine ⟨x_st hn_ hpr_ hx_ e_, ht_, ?_⟩
          show o_wd ((if t_ = true then -2 else -1, p_) :: o_) g_
          have q8_ : (if t_ = true then (-2 : Int) else -1) = -2 ∨ (if t_ = true then (-2 : Int) else -1) = -1 := by cases t_; right; rfl; left; rfl
          unfold o_wd
          rw [if_neg (by show ¬ (if t_ = true then (-2 : Int) else -1) = -3; omega), if_neg (by show ¬ (if t_ = true then (-2 : Int) else -1) = -4; omega), if_pos (by show (if t_ = true then (-2 : Int) else -1) < 0; omega)]
          exact ho_
      · have e1_ := e_
        rw [pA_p k33_ k40_] at e1_
        obtain ⟨r1_, q1_, q2_⟩ := pb_inr e1_
        cases q2_
        refine ⟨fun y_ hy_ => ?_, fun r_ hr_ => by cases hr_⟩
        cases hy_
        obtain ⟨v_, v1_, v2_, v3_⟩ := hev_ p_ r1_ q1_
        obtain ⟨G_, V_, h1_, h2_, h3_⟩ := ht_
        have h2_ : V_.map (fun v_ => (v_.length : Int)) = g_ := h2_
        have gl1_ : g_.length = o_hl o_ + 0 := hx_.2.1.2.2.1
        have gl2_ : o_hl o_ ≤ 425 := lim_.2
        have Vl_ : V_.length = g_.length := by rw [← h2_, List.length_map]
        have w_ : xt1 F_ I_ A_ X_ m_ s0_ (r1_.2.1 :: g_) (r1_.2.2 ++ c_) := ⟨G_, v_ :: V_, v1_ _ V_ c_ s0_ (by omega) h1_, by rw [List.map_cons, h2_, v2_], fun u_ hu_ => by
          rcases List.mem_cons.mp hu_ with z_ | z_
          · rw [z_]; exact v3_
          · exact h3_ u_ z_⟩
        refine ⟨x_st hn_ hpr_ hx_ e_, xt1_ti w_, ?_⟩
        show o_wd o_ (p_ti false t_ (r1_.2.1 :: g_) (r1_.2.2 ++ c_)).1.tail
        rw [ti2]
        exact ho_
  · have p1_ : ph_ = 1 := by omega
    subst p1_
    have ho_ : o_wd o_ g_.tail := ho_
    have hxo_ : xto F_ I_ A_ X_ m_ s0_ (o_, g_, c_) := ⟨hx_.2.1, ht_, ho_⟩
    have B2_ : ∀ s_, xto F_ I_ A_ X_ m_ s0_ s_ → p_B2 b_ n_ false p_ s_ = .inr z_ → (∀ y_, z_ = .inl y_ → xtx b_ n_ F_ I_ A_ X_ m_ s0_ y_) ∧ ∀ r_, z_ = .inr r_ → xto F_ I_ A_ X_ m_ s0_ ([], r_.2.1, r_.2.2) := by
      intro s_ hs_ e2_
      by_cases k63_ : lx_kd b_ n_ p_ = 63
      · obtain ⟨s1_, q_, h1_, h2_, h3_, h4_, h5_⟩ := B2_q e2_ k63_
        have w_ := xto_se (by decide) s_.1 s_.2.1 s_.2.2 s1_ hs_ h1_
        refine ⟨fun y_ hy_ => ?_, fun r_ hr_ => by rw [h5_] at hr_; cases hr_⟩
        rw [h5_] at hy_
        cases hy_
        refine ⟨x_st hn_ hpr_ hx_ (by rw [e_, h5_]), w_.2.1, ?_⟩
        show o_wd ((-3, p_) :: s1_.1) s1_.2.1
        obtain ⟨a9_, g9_, hg9_⟩ := s_ok_1 w_.1
        have q9_ := w_.2.2
        rw [hg9_] at q9_ h3_ ⊢
        unfold o_wd
        rw [if_pos rfl]
        exact ⟨h3_, q9_⟩
      · obtain ⟨s1_, h1_, h2_⟩ := B2_n e2_ k63_
        have w_ := xto_sa s_.1 s_.2.1 s_.2.2 s1_ hs_ h1_
        have lt6_ := p_sa_ok s_.1 s_.2.1 s_.2.2 s1_ hs_.1 h1_
        obtain ⟨so_, sg_, sc_⟩ := s1_
        cases so_ with
        | nil =>
          have q9_ : z_ = .inr (p_, sg_, sc_) := (Sum.inr.inj h2_).symm
          exact ⟨fun y_ hy_ => (by rw [q9_] at hy_; cases hy_), fun r_ hr_ => (by rw [q9_] at hr_; cases hr_; exact w_)⟩
        | cons kq_ o8_ =>
          obtain ⟨k8_, q8_⟩ := kq_
          by_cases k3_ : k8_ = -3
          · subst k3_
            rw [b3_q] at h2_
            obtain ⟨q7_, q71_, q72_⟩ := pb_inr h2_
            have q72_ := Sum.inr.inj q72_
            refine ⟨fun y_ hy_ => ?_, fun r_ hr_ => by rw [← q72_] at hr_; cases hr_⟩
            rw [← q72_] at hy_
            cases hy_
            refine ⟨x_st hn_ hpr_ hx_ (by rw [e_, ← q72_]), w_.2.1, ?_⟩
            show o_wd ((-4, q8_) :: o8_) sg_
            obtain ⟨a9_, g9_, hg9_⟩ := s_ok_1 w_.1
            have hg9_ : sg_ = a9_ :: g9_ := hg9_
            have q9_ : o_wd ((-3, q8_) :: o8_) sg_.tail := w_.2.2
            rw [hg9_] at q9_ ⊢
            have q9_ : o_wd ((-3, q8_) :: o8_) g9_ := q9_
            unfold o_wd at q9_ ⊢
            rw [if_pos rfl] at q9_
            rw [if_neg (by show ¬ (-4 : Int) = -3; decide), if_pos rfl]
            cases g9_ with
            | nil => exact q9_.elim
            | cons c9_ l9_ => exact q9_
          · rw [b3_c k3_] at h2_
            obtain ⟨q7_, q71_, q72_⟩ := pb_inr h2_
            have q72_ := Sum.inr.inj q72_
            refine ⟨fun y_ hy_ => ?_, fun r_ hr_ => by rw [← q72_] at hr_; cases hr_⟩
            rw [← q72_] at hy_
            cases hy_
            obtain ⟨a9_, g9_, hg9_⟩ := s_ok_1 w_.1
            have hg9_ : sg_ = a9_ :: g9_ := hg9_
            subst hg9_
            refine ⟨x_st hn_ hpr_ hx_ (by rw [e_, ← q72_]), xt1_ti w_.2.1, ?_⟩
            show o_wd o8_ (p_ti false (decide (k8_ = -2)) (a9_ :: g9_) sc_).1.tail
            rw [ti2]
            have q9_ : o_wd ((k8_, q8_) :: o8_) g9_ := w_.2.2
            have k8c := o_ok3 w_.1.1 lt6_.2.2.1 lt6_.2.2.2
            unfold o_wd at q9_
            rw [if_neg (by show ¬ k8_ = -3; exact k3_), if_neg (by show ¬ k8_ = -4; omega), if_pos (by show k8_ < 0; omega)] at q9_
            exact q9_
    by_cases l1_ : 0 < p_lv false (lx_kd b_ n_ p_)
    · have e1_ := e_
      rw [pB_l l1_] at e1_
      obtain ⟨s1_, h1_, h2_⟩ := pb_inr e1_
      have w_ := xto_se (ls_ := if p_lv false (lx_kd b_ n_ p_) = 4 then 5 else p_lv false (lx_kd b_ n_ p_)) (by split <;> omega) o_ g_ c_ s1_ hxo_ h1_
      rcases B1_r h2_ l1_ with ⟨z1_, q_, z2_, z3_⟩ | ⟨z1_, z2_⟩
      · refine ⟨fun y_ hy_ => ?_, fun r_ hr_ => by rw [z3_] at hr_; cases hr_⟩
        rw [z3_] at hy_
        cases hy_
        refine ⟨x_st hn_ hpr_ hx_ (by rw [e_, z3_]), w_.2.1, ?_⟩
        show o_wd ((p_lv false (lx_kd b_ n_ p_), p_) :: s1_.1) s1_.2.1
        obtain ⟨a9_, g9_, hg9_⟩ := s_ok_1 w_.1
        have q9_ := w_.2.2
        rw [hg9_] at q9_ ⊢
        unfold o_wd
        rw [if_neg (by show ¬ p_lv false (lx_kd b_ n_ p_) = -3; omega), if_neg (by show ¬ p_lv false (lx_kd b_ n_ p_) = -4; omega), if_neg (by show ¬ p_lv false (lx_kd b_ n_ p_) < 0; omega)]
        exact q9_
      · exact B2_ s1_ w_ z2_
    · have e1_ := e_
      rw [pB_n l1_] at e1_
      exact B2_ (o_, g_, c_) hxo_ e1_
theorem xtx_xr (hn_ : n_ ≤ 1280) (hpr_ : pr_ok b_ n_ pr_) (hev_ : pr_ev F_ I_ A_ X_ m_ s0_ pr_) : ∀ (f_ : Nat) (x_ : pX) (r_ : pR), xtx b_ n_ F_ I_ A_ X_ m_ s0_ x_ → p_xr b_ n_ false pr_ f_ x_ = some (.inr r_) → xto F_ I_ A_ X_ m_ s0_ ([], r_.2.1, r_.2.2)
  | 0, _, _, _, e_ => by cases e_
  | f_ + 1, x_, r_, h_, e_ => by
    rw [p_xr] at e_
    cases hs_ : p_st b_ n_ false pr_ x_ with
    | inl z_ => rw [hs_] at e_; cases e_
    | inr z_ =>
      rw [hs_] at e_
      have w_ := xtx_st hn_ hpr_ hev_ h_ hs_
      cases z_ with
      | inl y_ => exact xtx_xr hn_ hpr_ hev_ f_ y_ r_ (w_.1 y_ rfl) e_
      | inr r9_ => cases e_; exact w_.2 r_ rfl
/-- the_ value of_ an_ expression -/
theorem ex_tot {p_ : Nat} {r_ : pR} (hn_ : n_ ≤ 1280) (hpr_ : pr_ok b_ n_ pr_) (hev_ : pr_ev F_ I_ A_ X_ m_ s0_ pr_) (hp_ : p_ ≤ n_) (hk_ : lx_kd b_ n_ p_ ≠ -1) (hV_ : s0_.2.2.2 = []) (e_ : p_ex b_ n_ false pr_ [] p_ = .inr r_) : ∃ G_ v_, ev F_ I_ A_ X_ m_ s0_ r_.2.2 = some ((G_, s0_.1.2), s0_.2.1, s0_.2.2.1, [v_]) ∧ h_tp r_.2.1 = (v_.length : Int) ∧ (1 ≤ v_.length ∧ v_.length ≤ 8) := by
  unfold p_ex at e_
  cases q_ : p_xr b_ n_ false pr_ (n_ + 1) (0, false, p_, [], [], []) with
  | none => rw [q_] at e_; cases e_
  | some y_ =>
    rw [q_] at e_
    have e_ : y_ = .inr r_ := e_
    subst e_
    have w_ := xtx_xr (F_ := F_) (I_ := I_) (A_ := A_) (X_ := X_) (m_ := m_) (s0_ := s0_) hn_ hpr_ hev_ (n_ + 1) _ r_ ⟨x_ok_0 hp_ hk_ (Nat.zero_le _), ⟨s0_.1.1, [], by
      rw [ev_n]
      obtain ⟨⟨q1_, q2_⟩, q3_, q4_, q5_⟩ := s0_
      have hV_ : q5_ = [] := hV_
      subst hV_
      rfl, rfl, fun v_ hv_ => by cases hv_⟩, trivial⟩ q_
    obtain ⟨ws, ⟨G_, V_, h1_, h2_, h3_⟩, -⟩ := w_
    have q1_ : r_.2.1.length = 0 + 1 := ws.2.2.1
    have Vl_ : V_.length = 1 := by
      have h2_ : V_.map (fun v_ => (v_.length : Int)) = r_.2.1 := h2_
      rw [← h2_, List.length_map] at q1_
      omega
    obtain ⟨v_, rfl⟩ : ∃ v_, V_ = [v_] := by
      cases V_ with
      | nil => cases Vl_
      | cons v_ V_ =>
        cases V_ with
        | nil => exact ⟨v_, rfl⟩
        | cons _ _ => simp at Vl_
    have h2_ : [(v_.length : Int)] = r_.2.1 := h2_
    exact ⟨G_, v_, h1_, by rw [← h2_]; rfl, h3_ v_ (by simp)⟩
end TOT_
