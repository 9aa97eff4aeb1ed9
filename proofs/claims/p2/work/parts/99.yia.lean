/-! the reference: behind operands; written by wip/p55/gen/vg -/

/-! behind an_ operand -/
theorem lv_all {md_ : Bool} {k_ : Int} (h_ : 0 < p_lv md_ k_) : w_sg (p_lv md_ k_) = k_ ∧ 33 ≤ k_ ∧ k_ ≤ 257 := by
  by_cases g1_ : k_ = 124
  · subst g1_; revert h_; cases md_ <;> decide
  · by_cases g2_ : k_ = 94
    · subst g2_; revert h_; cases md_ <;> decide
    · by_cases g3_ : k_ = 38
      · subst g3_; revert h_; cases md_ <;> decide
      · by_cases g4_ : k_ = 257
        · subst g4_; revert h_; cases md_ <;> decide
        · by_cases g5_ : k_ = 43
          · subst g5_; revert h_; cases md_ <;> decide
          · exfalso
            simp [p_lv, g1_, g2_, g3_, g4_, g5_] at h_
theorem ry_ws {b_ : Nat → Int} {n_ T_ p_ : Nat} {mo_ : Int} {y_ : pE pO} {S_ : sm_S} (h_ : ry b_ n_ T_ mo_ p_ y_ S_) (hI_ : gi S_) : ∃ w_, ws w_ S_ ∧ ∀ s_, y_ = .inr s_ → wl b_ n_ T_ s_.1 w_ := by
  cases y_ with
  | inl e_ =>
    obtain ⟨w_, h1_⟩ := ws_ex hI_
    exact ⟨w_, h1_, fun s_ hs_ => by cases hs_⟩
  | inr s_ =>
    obtain ⟨⟨-, ⟨w_, h1_, h2_⟩, -⟩, -⟩ := h_
    refine ⟨w_, h1_, fun s'_ hs_ => ?_⟩
    cases hs_
    rcases h2_ with z_ | z_
    · exact absurd z_.1 (by decide)
    · exact z_.2
theorem ry_ob {b_ : Nat → Int} {n_ T_ p_ : Nat} {mo_ : Int} {y_ : pE pO} {S_ : sm_S} (h_ : ry b_ n_ T_ mo_ p_ y_ S_) : ∃ y4_, y4_ = y_ ∧ ry b_ n_ T_ mo_ p_ y4_ S_ := ⟨y_, rfl, h_⟩
theorem ry_rg {b_ : Nat → Int} {n_ T_ p_ : Nat} {mo_ : Int} {y_ : pE pO} {S_ : sm_S} (h_ : ry b_ n_ T_ mo_ p_ y_ S_) : rg b_ n_ T_ (pb y_ fun _ => .inr p_) S_ := by
  cases y_ with
  | inl e_ => exact ⟨h_.1, h_.2.1, h_.2.2.1⟩
  | inr s_ => exact h_.1.1
theorem ry_mo {b_ : Nat → Int} {n_ T_ p_ : Nat} {mo_ : Int} {y_ : pE pO} {S_ : sm_S} (h_ : ry b_ n_ T_ mo_ p_ y_ S_) : S_.1 13 0 27 = mo_ ∧ S_.1 13 0 32 ≤ 800 := by
  cases y_ with
  | inl e_ => exact ⟨h_.2.2.2.2, h_.2.2.2.1⟩
  | inr s_ =>
    refine ⟨h_.1.2.2.2.2, ?_⟩
    obtain ⟨⟨-, ⟨w_, h1_, h2_⟩, -⟩, h3_⟩ := h_
    have h4_ := o_lim h3_.1 h3_.2.1
    have h5_ : wl b_ n_ T_ s_.1 w_ := by
      rcases h2_ with z_ | z_
      · exact absurd z_.1 (by decide)
      · exact z_.2
    have h6_ := wl_len h5_
    rw [h1_.1]
    omega
theorem ry_s {b_ : Nat → Int} {n_ T_ p_ : Nat} {mo_ : Int} {y_ : pE pO} {S_ : sm_S} (h_ : ry b_ n_ T_ mo_ p_ y_ S_) : ∀ s_, y_ = .inr s_ → S_.1 13 0 33 = (o_mk s_.1 : Int) ∧ vs mo_ s_.2.1 S_ ∧ s_ok (mdo mo_) 1 s_ := by
  intro s_ hs_
  subst hs_
  exact ⟨h_.1.2.2.1, h_.1.2.2.2.1, h_.2⟩
/-- what a_ step comes to_ -/
def rq (b_ : Nat → Int) (n_ T_ : Nat) (mo_ : Int) (x_ : pE (pX ⊕ pR)) (v_ : Int) (S_ : sm_S) : Prop := match x_ with
  | .inl e_ => rwr mo_ e_ S_
  | .inr (.inl y_) => rx b_ n_ T_ mo_ y_.2.1 y_.1 y_.2.2.1 y_.2.2.2.1 y_.2.2.2.2.1 S_ ∧ v_ = (y_.1 : Int)
  | .inr (.inr r_) => rx b_ n_ T_ mo_ false 1 r_.1 [] r_.2.1 S_ ∧ v_ = 2
def p_K (b_ : Nat → Int) (n_ p_ : Nat) (s_ : pO) : pE (pX ⊕ pR) := if o_mk s_.1 = 60 then .inl (3, p_) else if h_tp s_.2.1 ≠ 1 then .inl (13, p_) else pb (p_ad b_ n_ p_) fun q_ => .inr (.inl (0, false, q_, (-3, p_) :: s_.1, s_.2.1, s_.2.2))
theorem b2_q {b_ : Nat → Int} {n_ p_ : Nat} {mo_ : Int} {y_ : pE pO} (h_ : ∀ s_, y_ = .inr s_ → mdo mo_ = false ∧ lx_kd b_ n_ p_ = 63) : pb y_ (p_B2 b_ n_ (mdo mo_) p_) = pb (pb y_ (p_se2 mo_ 1)) (p_K b_ n_ p_) := by
  cases y_ with
  | inl e_ => rfl
  | inr s_ =>
    show p_B2 b_ n_ (mdo mo_) p_ s_ = _
    unfold p_B2
    rw [if_pos (h_ s_ rfl)]
    rfl
theorem b2_n {b_ : Nat → Int} {n_ p_ : Nat} {mo_ : Int} {y_ : pE pO} (h_ : ∀ s_, y_ = .inr s_ → ¬ (mdo mo_ = false ∧ lx_kd b_ n_ p_ = 63)) : pb y_ (p_B2 b_ n_ (mdo mo_) p_) = pb (pb y_ (p_sa2 mo_)) (p_B3 b_ n_ (mdo mo_) p_) := by
  cases y_ with
  | inl e_ => rfl
  | inr s_ =>
    show p_B2 b_ n_ (mdo mo_) p_ s_ = _
    unfold p_B2
    rw [if_neg (h_ s_ rfl)]
    rfl
theorem b1_2 {b_ : Nat → Int} {n_ p_ : Nat} {md_ : Bool} {L_ : Int} {y_ : pE pO} (h_ : ∀ s_, y_ = .inr s_ → L_ = 4 ∧ o_tp s_.1 = 4) : pb y_ (p_B1 b_ n_ md_ p_ L_) = pb y_ (p_B2 b_ n_ md_ p_) := by
  cases y_ with
  | inl e_ => rfl
  | inr s_ =>
    obtain ⟨h1_, h2_⟩ := h_ s_ rfl
    show p_B1 b_ n_ md_ p_ L_ s_ = p_B2 b_ n_ md_ p_ s_
    unfold p_B1
    rw [if_neg]
    rintro ⟨-, z_ | z_⟩
    · exact z_ h1_
    · exact z_ h2_
theorem b1_h {b_ : Nat → Int} {n_ p_ : Nat} {md_ : Bool} {L_ : Int} {y_ : pE pO} (h0_ : 0 < L_) (h_ : ∀ s_, y_ = .inr s_ → L_ ≠ 4 ∨ o_tp s_.1 ≠ 4) : pb y_ (p_B1 b_ n_ md_ p_ L_) = pb y_ fun s_ => pb (p_ad b_ n_ p_) fun q_ => .inr (.inl (0, false, q_, (L_, p_) :: s_.1, s_.2.1, s_.2.2)) := by
  cases y_ with
  | inl e_ => rfl
  | inr s_ =>
    show p_B1 b_ n_ md_ p_ L_ s_ = _
    unfold p_B1
    rw [if_pos ⟨h0_, h_ s_ rfl⟩]
    rfl
theorem rq_h {b_ : Nat → Int} {n_ T_ p_ : Nat} {i_ mo_ L_ : Int} {y_ : pE pO} {w_ : List (Int × Int)} {S_ : sm_S} (hL_ : 0 < L_ ∧ w_sg L_ = lx_kd b_ n_ p_) (hp_ : rtp b_ n_ T_ i_ p_) (hw_ : ∀ s_, y_ = .inr s_ → wl b_ n_ T_ s_.1 w_ ∧ S_.1 13 0 33 = (o_mk s_.1 : Int) ∧ vs mo_ s_.2.1 S_) (ws1_ : ws ((lx_kd b_ n_ p_, i_) :: w_) S_) (m1_ : S_.1 13 0 27 = mo_) (wl1_ : S_.1 13 0 32 ≤ 800) (g_ : rg b_ n_ T_ (pb (pb y_ fun _ => .inr p_) (p_ad b_ n_)) S_) : rq b_ n_ T_ mo_ (pb y_ fun s_ => pb (p_ad b_ n_ p_) fun q_ => .inr (.inl (0, false, q_, (L_, p_) :: s_.1, s_.2.1, s_.2.2))) 0 S_ := by
  cases y_ with
  | inl e_ => exact ⟨g_.1, g_.2.1, g_.2.2, wl1_, m1_⟩
  | inr s_ =>
    obtain ⟨h1_, h2_, h3_⟩ := hw_ s_ rfl
    have g_ : rg b_ n_ T_ (p_ad b_ n_ p_) S_ := g_
    show rq b_ n_ T_ mo_ (pb (p_ad b_ n_ p_) fun q_ => .inr (.inl (0, false, q_, (L_, p_) :: s_.1, s_.2.1, s_.2.2))) 0 S_
    cases hq_ : p_ad b_ n_ p_ with
    | inl e_ => rw [hq_] at g_; exact ⟨g_.1, g_.2.1, g_.2.2, wl1_, m1_⟩
    | inr q_ =>
      rw [hq_] at g_
      refine ⟨⟨g_, ⟨_, ws1_, Or.inl ⟨rfl, Or.inl ⟨rfl, ⟨i_, w_, by rw [hL_.2], hp_, Or.inl ⟨by omega, h1_⟩⟩⟩⟩⟩, ?_, h3_, m1_⟩, rfl⟩
      rw [h2_]
      show _ = (((if L_ < 0 then 1 else 0) + o_mk s_.1 : Nat) : Int)
      rw [if_neg (by omega)]
      push_cast
      omega
theorem sa2_lt {b_ : Nat → Int} {n_ T_ p_ : Nat} {mo_ : Int} {y_ : pE pO} {S_ : sm_S} (h_ : ry b_ n_ T_ mo_ p_ y_ S_) {s_ : pO} (e_ : pb y_ (p_sa2 mo_) = .inr s_) : o_tp s_.1 < 1 ∧ o_tp s_.1 ≠ -4 := by
  obtain ⟨a_, h1_, h2_⟩ := pb_inr e_
  subst h1_
  exact (p_sa_ok a_.1 a_.2.1 a_.2.2 s_ h_.2 h2_).2.2
theorem ws_top1 {z_ : Int} {y_ : Int × Int} {u_ : List (Int × Int)} {k_ : Nat} {S_ : sm_S} (h_ : ws (y_ :: u_) S_) (hk_ : k_ = u_.length) : ws ((z_, y_.2) :: u_) (sm_aI S_ 136 0 k_ z_) := by
  refine ⟨h_.1, ?_, ?_⟩
  · exact stk_pu (by rw [List.length_map]; exact hk_) rfl h_.2.1.2
  · exact stk_ot h_.2.2 (by decide)
theorem wl_34 {b_ : Nat → Int} {n_ T_ q_ : Nat} {o_ : List (Int × Nat)} {w_ : List (Int × Int)} (h_ : wl b_ n_ T_ ((-3, q_) :: o_) w_) : ∃ t_ u_, w_ = (63, t_) :: u_ ∧ wl b_ n_ T_ ((-4, q_) :: o_) ((58, t_) :: u_) := by
  obtain ⟨t_, u_, h1_, h2_, h3_⟩ := h_
  refine ⟨t_, u_, h1_, t_, u_, rfl, h2_, ?_⟩
  rcases h3_ with z_ | z_
  · exact Or.inl ⟨by decide, z_.2⟩
  · exfalso
    rcases z_.1 with z_ | z_ <;> exact absurd z_ (by decide)
theorem wl_12 {b_ : Nat → Int} {n_ T_ q_ : Nat} {k_ : Int} {o_ : List (Int × Nat)} {w_ : List (Int × Int)} (hk_ : k_ = -1 ∨ k_ = -2) (h_ : wl b_ n_ T_ ((k_, q_) :: o_) w_) : ∃ t_ u_, w_ = (40, t_) :: u_ ∧ wt b_ n_ T_ (decide (k_ = -2)) o_ u_ := by
  obtain ⟨t_, u_, h1_, -, h3_⟩ := h_
  refine ⟨t_, u_, ?_, ?_⟩
  · rcases hk_ with z_ | z_ <;> (subst z_; exact h1_)
  · rcases h3_ with z_ | ⟨-, u'_, z1_, z2_⟩
    · exact Or.inl ⟨decide_eq_false z_.1, z_.2⟩
    · refine Or.inr ⟨u'_, ?_, z2_⟩
      rw [z1_]
      by_cases e_ : k_ = -2
      · rw [if_pos e_, if_pos (decide_eq_true e_)]
      · rw [if_neg e_, if_neg (by rw [decide_eq_false e_]; decide)]
theorem b3_c {b_ : Nat → Int} {n_ p_ q_ : Nat} {md_ : Bool} {k_ : Int} {o_ : List (Int × Nat)} {g_ c_ : List Int} (h_ : k_ ≠ -3) : p_B3 b_ n_ md_ p_ ((k_, q_) :: o_, g_, c_) = pb (p_nd b_ n_ 41 p_) fun r_ => .inr (.inl (1, false, r_, o_, (p_ti md_ (decide (k_ = -2)) g_ c_).1, (p_ti md_ (decide (k_ = -2)) g_ c_).2)) := by
  rw [pB3_c h_]
  unfold p_nd
  split <;> rfl
theorem b3_q {b_ : Nat → Int} {n_ p_ q_ : Nat} {md_ : Bool} {o_ : List (Int × Nat)} {g_ c_ : List Int} : p_B3 b_ n_ md_ p_ ((-3, q_) :: o_, g_, c_) = pb (p_nd b_ n_ 58 p_) fun r_ => .inr (.inl (0, false, r_, (-4, q_) :: o_, g_, c_)) := by
  rw [pB3_q]
  unfold p_nd
  split <;> rfl
theorem o_ok3 {md_ : Bool} {k_ : Int} {q_ : Nat} {o_ : List (Int × Nat)} (h_ : o_ok md_ ((k_, q_) :: o_)) (h1_ : k_ < 1) (h4_ : k_ ≠ -4) : (k_ = -3 ∧ md_ = false) ∨ k_ = -1 ∨ k_ = -2 := by
  rcases h_.1 with z_ | z_ | z_ | z_
  · exact Or.inr (Or.inl z_)
  · exact Or.inr (Or.inr z_)
  · rcases z_.2 with y_ | y_
    · exact Or.inl ⟨y_, z_.1⟩
    · exact absurd y_ h4_
  · exfalso; have := z_.1; omega
/-! M_.behind -/
def vw_320 : sx_Wl := ([(13, 9), (13, 10), (13, 11), (13, 32), (13, 33), (13, 34)], [136, 137, 138, 139], [])
def vq_320 (a_ : Int) (b_ : Nat → Int) (n_ : Nat) (T_ : Nat) (mo_ : Int) (p_ : Nat) (o_ : List (Int × Nat)) (g_ : List Int) (c_ : List Int) (A_ : pA) (M_ : Nat) (K_ : Nat) (f_ : Nat → Nat) (S0_ : sm_S) (u_ : Option sm_V) (S1_ : sm_S) : Prop := ∃ v_ : Int, u_ = some (.inl v_) ∧ gi S1_ ∧ ai_fr (sx_W vw_320) S0_ S1_ ∧ (rq b_ n_ T_ mo_ (p_st b_ n_ (mdo mo_) (p_pm b_ n_ (mdo mo_) A_ M_ K_ f_) (1, false, p_, o_, g_, c_)) v_ S1_)
set_option maxHeartbeats 3000000 in
set_option maxRecDepth 20000 in
theorem vl_320 {sc_ : Nat × (Nat → Int)} (a_ : Int) (b_ : Nat → Int) (n_ : Nat) (T_ : Nat) (mo_ : Int) (p_ : Nat) (o_ : List (Int × Nat)) (g_ : List Int) (c_ : List Int) (A_ : pA) (M_ : Nat) (K_ : Nat) (f_ : Nat → Nat) (S0_ : sm_S) (ha_ : a_ = 0) (ht_ : rtab b_ n_ T_ S0_) (hx_ : rx b_ n_ T_ mo_ false 1 p_ o_ g_ S0_) (hok_ : x_ok b_ n_ (mdo mo_) (1, false, p_, o_, g_, c_)) (hmo_ : mo_ = 0 ∨ mo_ = 2) : ∀ nn_ : Nat, (∀  (S_ : sm_S), gi S_ → ai_fr (sx_W vw_320) S0_ S_ → ((∃ y_, ry b_ n_ T_ mo_ p_ y_ S_ ∧ p_st b_ n_ (mdo mo_) (p_pm b_ n_ (mdo mo_) A_ M_ K_ f_) (1, false, p_, o_, g_, c_) = pb y_ (p_B2 b_ n_ (mdo mo_) p_)) ∧ True) → ((9 : Nat)) < nn_ → sm_T (mt_P sc_) 6 320 (89, [some (.inr (.inr (some (13, 0)))), some (.inl a_), none], [], S_) (fun r_ => ∃ u_ S1_, r_ = (.inl u_, S1_, 0) ∧ vq_320 a_ b_ n_ T_ mo_ p_ o_ g_ c_ A_ M_ K_ f_ S0_ u_ S1_)) ∧ (∀  (S_ : sm_S), gi S_ → ai_fr (sx_W vw_320) S0_ S_ → (((∃ e_, p_st b_ n_ (mdo mo_) (p_pm b_ n_ (mdo mo_) A_ M_ K_ f_) (1, false, p_, o_, g_, c_) = .inl e_ ∧ rwr mo_ e_ S_) ∨ (∃ s_, p_st b_ n_ (mdo mo_) (p_pm b_ n_ (mdo mo_) A_ M_ K_ f_) (1, false, p_, o_, g_, c_) = p_K b_ n_ p_ s_ ∧ ry b_ n_ T_ mo_ p_ (.inr s_) S_ ∧ o_mk s_.1 ≠ 60 ∧ lx_kd b_ n_ p_ = 63 ∧ mo_ = 0)) ∧ True) → ((7 : Nat)) < nn_ → sm_T (mt_P sc_) 6 320 (136, [some (.inr (.inr (some (13, 0)))), some (.inl a_), none], [], S_) (fun r_ => ∃ u_ S1_, r_ = (.inl u_, S1_, 0) ∧ vq_320 a_ b_ n_ T_ mo_ p_ o_ g_ c_ A_ M_ K_ f_ S0_ u_ S1_)) ∧ (∀  (S_ : sm_S), gi S_ → ai_fr (sx_W vw_320) S0_ S_ → (((∃ e_, p_st b_ n_ (mdo mo_) (p_pm b_ n_ (mdo mo_) A_ M_ K_ f_) (1, false, p_, o_, g_, c_) = .inl e_ ∧ rwr mo_ e_ S_) ∨ (∃ s_, p_st b_ n_ (mdo mo_) (p_pm b_ n_ (mdo mo_) A_ M_ K_ f_) (1, false, p_, o_, g_, c_) = (pb (p_ad b_ n_ p_) fun q_ => .inr (.inl (0, false, q_, (-3, p_) :: s_.1, s_.2.1, s_.2.2))) ∧ ry b_ n_ T_ mo_ p_ (.inr s_) S_ ∧ o_mk s_.1 ≠ 60 ∧ lx_kd b_ n_ p_ = 63)) ∧ True) → ((5 : Nat)) < nn_ → sm_T (mt_P sc_) 6 320 (168, [some (.inr (.inr (some (13, 0)))), some (.inl a_), none], [], S_) (fun r_ => ∃ u_ S1_, r_ = (.inl u_, S1_, 0) ∧ vq_320 a_ b_ n_ T_ mo_ p_ o_ g_ c_ A_ M_ K_ f_ S0_ u_ S1_)) ∧ (∀  (S_ : sm_S), gi S_ → ai_fr (sx_W vw_320) S0_ S_ → ((∃ y_, ry b_ n_ T_ mo_ p_ y_ S_ ∧ p_st b_ n_ (mdo mo_) (p_pm b_ n_ (mdo mo_) A_ M_ K_ f_) (1, false, p_, o_, g_, c_) = pb (pb y_ (p_sa2 mo_)) (p_B3 b_ n_ (mdo mo_) p_)) ∧ True) → ((3 : Nat)) < nn_ → sm_T (mt_P sc_) 6 320 (183, [some (.inr (.inr (some (13, 0)))), some (.inl a_), none], [], S_) (fun r_ => ∃ u_ S1_, r_ = (.inl u_, S1_, 0) ∧ vq_320 a_ b_ n_ T_ mo_ p_ o_ g_ c_ A_ M_ K_ f_ S0_ u_ S1_)) := by
  intro nn_
  induction nn_ with
  | zero => exact ⟨fun  _ _ _ _ h_ => absurd h_ (Nat.not_lt_zero _), fun  _ _ _ _ h_ => absurd h_ (Nat.not_lt_zero _), fun  _ _ _ _ h_ => absurd h_ (Nat.not_lt_zero _), fun  _ _ _ _ h_ => absurd h_ (Nat.not_lt_zero _)⟩
  | succ nn_ ih_ =>
    refine ⟨?_, ?_, ?_, ?_⟩
    · rintro  S_ hI_ hF_ ⟨h1_, -⟩ hm_
      obtain ⟨y_, y1_, y2_⟩ := h1_
      have m1_ := (ry_mo y1_).1
      have ht1_ := rtab_fr ht_ hF_ rfl rfl rfl rfl rfl
      have hT_ := ht_.2.1
      have bx1_ : 0 ≤ S_.1 13 0 27 ∧ S_.1 13 0 27 ≤ 2 := hI_.1 13 0 27 rfl
      refine sm_T_go 3 (c1 := (94, [some (.inr (.inr (some (13, 0)))), some (.inl a_), none], [.inl 2, .inl (S_.1 13 0 27)], S_)) rfl ?_
      refine sm_T_br (a := 3) (z := 89) rfl (fun cx2_ => ?_) (fun cx2_ => ?_)
      · have cx2_ : 2 ≤ (S_.1 13 0 27) := of_decide_eq_true cx2_
        refine sm_T_go 0 (c1 := (183, [some (.inr (.inr (some (13, 0)))), some (.inl a_), none], [], S_)) rfl ?_
        refine ih_.2.2.2  S_ hI_ hF_ ⟨?_, trivial⟩ ?_
        · first | (exact ⟨y_, y1_, by rw [y2_]; exact b2_n (fun s_ hs_ z_ => by have z2_ := z_.1; unfold mdo at z2_; have z3_ := of_decide_eq_false z2_; omega)⟩) | (exact ⟨y_, y1_, by rw [y2_]; exact b2_n (fun s_ hs_ z_ => by have := (e100_ p_ (by rw [hs_]; rfl)).mpr z_.2; omega)⟩)
        · omega
      · have cx2_ : ¬ (2 ≤ (S_.1 13 0 27)) := of_decide_eq_false cx2_
        refine sm_T_go 2 (c1 := (100, [some (.inr (.inr (some (13, 0)))), some (.inl a_), none], [.inl 63, .inr (.inr (some (13, 0)))], S_)) rfl ?_
        refine sm_T_cal (d1 := 0) (Q1 := vq_295 63 b_ n_ T_ (pb y_ fun _ => .inr p_) S_) rfl rfl (by decide) (vc_295 63 b_ n_ T_ (pb y_ fun _ => .inr p_) S_ hI_ (by exact ht1_) (by exact ry_rg y1_) (by decide)) (fun u_ Sx3_ px6_ => ?_)
        obtain ⟨rfl, vx8_, rfl, px6_⟩ := px6_
        have e100_ := px6_.2
        have r100_ := px6_.1.1
        refine sm_T_b0 (a := 0) (z := 80) rfl (fun cx9_ => ?_) (fun cx9_ => ?_)
        · have cx9_ : vx8_ = 0 := of_decide_eq_true cx9_
          refine sm_T_go 0 (c1 := (183, [some (.inr (.inr (some (13, 0)))), some (.inl a_), none], [], S_)) rfl ?_
          refine ih_.2.2.2  S_ hI_ hF_ ⟨?_, trivial⟩ ?_
          · first | (exact ⟨y_, y1_, by rw [y2_]; exact b2_n (fun s_ hs_ z_ => by have z2_ := z_.1; unfold mdo at z2_; have z3_ := of_decide_eq_false z2_; omega)⟩) | (exact ⟨y_, y1_, by rw [y2_]; exact b2_n (fun s_ hs_ z_ => by have := (e100_ p_ (by rw [hs_]; rfl)).mpr z_.2; omega)⟩)
          · omega
        · have cx9_ : ¬ (vx8_ = 0) := of_decide_eq_false cx9_
          refine sm_T_go 2 (c1 := (108, [some (.inr (.inr (some (13, 0)))), some (.inl a_), none], [.inl 1, .inr (.inr (some (13, 0)))], S_)) rfl ?_
          refine sm_T_cal (d1 := 2) (Q1 := vq_315 1 b_ n_ T_ mo_ p_ y_ S_) rfl rfl (by decide) (vc_315 1 b_ n_ T_ mo_ p_ y_ S_ hI_ (by exact ht1_) (by exact y1_) (by decide) (by exact hmo_)) (fun u_ Sx10_ px13_ => ?_)
          obtain ⟨rfl, hIx11_, hFx12_, px13_⟩ := px13_
          have hFx14_ : ai_fr (sx_W vw_320) S0_ Sx10_ := ai_fr_tr hF_ (fr_le hFx12_ rfl)
          have ex15_ : Sx10_.1 13 0 27 = S_.1 13 0 27 := hFx12_.1 13 0 27 rfl
          obtain ⟨y8_, hy8_, r108_⟩ := ry_ob px13_.1
          have k63_ : ∀ s_, y_ = .inr s_ → lx_kd b_ n_ p_ = 63 := fun s_ hs_ => (e100_ p_ (by rw [hs_]; rfl)).mp (by omega)
          have mo0_ : mo_ = 0 := by omega
          have hst8_ : p_st b_ n_ (mdo mo_) (p_pm b_ n_ (mdo mo_) A_ M_ K_ f_) (1, false, p_, o_, g_, c_) = pb y8_ (p_K b_ n_ p_) := by rw [y2_, b2_q (fun s_ hs_ => ⟨by rw [mo0_]; rfl, k63_ s_ hs_⟩), hy8_]
          have t108_ := rtab_fr ht1_ hFx12_ rfl rfl rfl rfl rfl
          have k638_ : ∀ s_, y8_ = .inr s_ → lx_kd b_ n_ p_ = 63 := by intro s_ hs_; rw [hs_] at hy8_; obtain ⟨a9_, z1_, z2_⟩ := pb_inr hy8_.symm; exact k63_ a9_ z1_
          refine sm_T_go 1 (c1 := (112, [some (.inr (.inr (some (13, 0)))), some (.inl a_), none], [.inr (.inr (some (13, 0)))], Sx10_)) rfl ?_
          refine sm_T_cal (d1 := 0) (Q1 := vq_292  Sx10_) rfl rfl (by decide) (vc_292  Sx10_ hIx11_ ) (fun u_ Sx16_ px19_ => ?_)
          obtain ⟨rfl, vx21_, rfl, px19_⟩ := px19_
          have e112_ := px19_
          refine sm_T_b0 (a := 0) (z := 21) rfl (fun cx22_ => ?_) (fun cx22_ => ?_)
          · have cx22_ : vx21_ = 0 := of_decide_eq_true cx22_
            have hz_ := wr_if e112_ (by omega)
            obtain ⟨e8_, he8_⟩ := ry_w r108_ hz_
            subst he8_
            refine sm_T_go 0 (c1 := (136, [some (.inr (.inr (some (13, 0)))), some (.inl a_), none], [], Sx10_)) rfl ?_
            refine ih_.2.1  Sx10_ hIx11_ hFx14_ ⟨?_, trivial⟩ ?_
            · first | (left; exact ⟨e8_, hst8_, r108_⟩) | (right; exact ⟨s8_, hst8_, r108_, by have := s108_.1; omega, k638_ s8_ rfl, mo0_⟩) | (left; refine ⟨(3, p_), ?_, ?_⟩; (rw [hst8_]; show p_K b_ n_ p_ s8_ = _; unfold p_K; rw [if_pos (by have := s108_.1; omega)]); (rcases e133_ with z_ | z_; (exact absurd hz_ z_.1); (refine ⟨z_.2.1.trans (if_neg ?_), ?_, by show (3 : Int) ≠ 0; decide, w133_, m133_⟩; (rw [hi81_]; rw [Int.toNat_natCast, ra8_.1]; exact rk8_.2.2.2.2.2); (rw [z_.2.2, hi81_, Int.toNat_natCast]; exact ra8_.2.1))))
            · omega
          · have cx22_ : ¬ (vx21_ = 0) := of_decide_eq_false cx22_
            have hz_ := rt_if e112_ (by omega)
            obtain ⟨s8_, hs8_⟩ := ry_r r108_ hz_
            subst hs8_
            have s108_ := ry_s r108_ s8_ rfl
            obtain ⟨i8_, hi81_, hi82_⟩ := r108_.1.1.2
            have ra8_ := rp_at t108_ hi82_
            have rk8_ := r_st_3 (lx_kd_r hi82_.2.2.1)
            have bx23_ : 0 ≤ Sx10_.1 13 0 33 ∧ Sx10_.1 13 0 33 ≤ 60 := hIx11_.1 13 0 33 rfl
            refine sm_T_go 3 (c1 := (124, [some (.inr (.inr (some (13, 0)))), some (.inl a_), none], [.inl 60, .inl (Sx10_.1 13 0 33)], Sx10_)) rfl ?_
            refine sm_T_br (a := 1) (z := 12) rfl (fun cx24_ => ?_) (fun cx24_ => ?_)
            · have cx24_ : (Sx10_.1 13 0 33) ≠ 60 := of_decide_eq_true cx24_
              refine sm_T_go 0 (c1 := (136, [some (.inr (.inr (some (13, 0)))), some (.inl a_), none], [], Sx10_)) rfl ?_
              refine ih_.2.1  Sx10_ hIx11_ hFx14_ ⟨?_, trivial⟩ ?_
              · first | (left; exact ⟨e8_, hst8_, r108_⟩) | (right; exact ⟨s8_, hst8_, r108_, by have := s108_.1; omega, k638_ s8_ rfl, mo0_⟩) | (left; refine ⟨(3, p_), ?_, ?_⟩; (rw [hst8_]; show p_K b_ n_ p_ s8_ = _; unfold p_K; rw [if_pos (by have := s108_.1; omega)]); (rcases e133_ with z_ | z_; (exact absurd hz_ z_.1); (refine ⟨z_.2.1.trans (if_neg ?_), ?_, by show (3 : Int) ≠ 0; decide, w133_, m133_⟩; (rw [hi81_]; rw [Int.toNat_natCast, ra8_.1]; exact rk8_.2.2.2.2.2); (rw [z_.2.2, hi81_, Int.toNat_natCast]; exact ra8_.2.1))))
              · omega
            · have cx24_ : ¬ ((Sx10_.1 13 0 33) ≠ 60) := of_decide_eq_false cx24_
              have bx25_ : 0 ≤ Sx10_.1 13 0 9 ∧ Sx10_.1 13 0 9 ≤ 1280 := hIx11_.1 13 0 9 rfl
              refine sm_T_go 4 (c1 := (133, [some (.inr (.inr (some (13, 0)))), some (.inl a_), none], [.inl (Sx10_.1 13 0 9), .inl 3, .inr (.inr (some (13, 0)))], Sx10_)) rfl ?_
              refine sm_T_cal (d1 := 0) (Q1 := vq_293 3 (Sx10_.1 13 0 9) Sx10_) rfl rfl (by decide) (vc_293 3 (Sx10_.1 13 0 9) Sx10_ hIx11_ (by decide) (by omega)) (fun u_ Sx26_ px29_ => ?_)
              obtain ⟨rfl, hIx27_, hFx28_, px29_⟩ := px29_
              have hFx30_ : ai_fr (sx_W vw_320) S0_ Sx26_ := ai_fr_tr hFx14_ (fr_le hFx28_ rfl)
              have ex31_ : Sx26_.1 13 0 9 = Sx10_.1 13 0 9 := hFx28_.1 13 0 9 rfl
              have ex32_ : Sx26_.1 13 0 33 = Sx10_.1 13 0 33 := hFx28_.1 13 0 33 rfl
              have e133_ := px29_
              have m133_ := (hFx28_.1 13 0 27 rfl).trans (ry_mo r108_).1
              have w133_ : Sx26_.1 13 0 32 ≤ 800 := by rw [hFx28_.1 13 0 32 rfl]; exact (ry_mo r108_).2
              refine sm_T_go 0 (c1 := (136, [some (.inr (.inr (some (13, 0)))), some (.inl a_), none], [], Sx26_)) rfl ?_
              refine ih_.2.1  Sx26_ hIx27_ hFx30_ ⟨?_, trivial⟩ ?_
              · first | (left; exact ⟨e8_, hst8_, r108_⟩) | (right; exact ⟨s8_, hst8_, r108_, by have := s108_.1; omega, k638_ s8_ rfl, mo0_⟩) | (left; refine ⟨(3, p_), ?_, ?_⟩; (rw [hst8_]; show p_K b_ n_ p_ s8_ = _; unfold p_K; rw [if_pos (by have := s108_.1; omega)]); (rcases e133_ with z_ | z_; (exact absurd hz_ z_.1); (refine ⟨z_.2.1.trans (if_neg ?_), ?_, by show (3 : Int) ≠ 0; decide, w133_, m133_⟩; (rw [hi81_]; rw [Int.toNat_natCast, ra8_.1]; exact rk8_.2.2.2.2.2); (rw [z_.2.2, hi81_, Int.toNat_natCast]; exact ra8_.2.1))))
              · omega
    · rintro  S_ hI_ hF_ ⟨h1_, -⟩ hm_
      have ht1_ := rtab_fr ht_ hF_ rfl rfl rfl rfl rfl
      have hT_ := ht_.2.1
      refine sm_T_go 1 (c1 := (137, [some (.inr (.inr (some (13, 0)))), some (.inl a_), none], [.inr (.inr (some (13, 0)))], S_)) rfl ?_
      refine sm_T_cal (d1 := 0) (Q1 := vq_292  S_) rfl rfl (by decide) (vc_292  S_ hI_ ) (fun u_ Sx1_ px4_ => ?_)
      obtain ⟨rfl, vx6_, rfl, px4_⟩ := px4_
      have e137_ := px4_
      refine sm_T_b0 (a := 0) (z := 28) rfl (fun cx7_ => ?_) (fun cx7_ => ?_)
      · have cx7_ : vx6_ = 0 := of_decide_eq_true cx7_
        have hz_ := wr_if e137_ (by omega)
        obtain ⟨e8_, he8_, he9_⟩ : ∃ e_, p_st b_ n_ (mdo mo_) (p_pm b_ n_ (mdo mo_) A_ M_ K_ f_) (1, false, p_, o_, g_, c_) = .inl e_ ∧ rwr mo_ e_ S_ := by rcases h1_ with z_ | ⟨s_, z1_, z2_, z3_⟩; exact z_; (exact absurd z2_.1.1.1 hz_)
        refine sm_T_go 0 (c1 := (168, [some (.inr (.inr (some (13, 0)))), some (.inl a_), none], [], S_)) rfl ?_
        refine ih_.2.2.1  S_ hI_ hF_ ⟨?_, trivial⟩ ?_
        · first | (left; exact ⟨e8_, he8_, he9_⟩) | (right; refine ⟨s8_, ?_, z2_, z3_, z4_⟩; rw [z1_]; unfold p_K; rw [if_neg z3_, if_neg (by rw [ht8_]; omega)]; done) | (left; refine ⟨(13, p_), ?_, ?_⟩; (rw [z1_]; unfold p_K; rw [if_neg z3_, if_pos (by rw [ht8_]; omega)]); (rcases e165_ with z_ | z_; (exact absurd hz_ z_.1); (refine ⟨z_.2.1.trans (if_neg ?_), ?_, by show (13 : Int) ≠ 0; decide, w165_, m165_⟩; (rw [hi81_]; rw [Int.toNat_natCast, ra8_.1]; exact rk8_.2.2.2.2.2); (rw [z_.2.2, hi81_, Int.toNat_natCast]; exact ra8_.2.1))))
        · omega
      · have cx7_ : ¬ (vx6_ = 0) := of_decide_eq_false cx7_
        have hz_ := rt_if e137_ (by omega)
        obtain ⟨s8_, z1_, z2_, z3_, z4_, z5_⟩ : ∃ s_, p_st b_ n_ (mdo mo_) (p_pm b_ n_ (mdo mo_) A_ M_ K_ f_) (1, false, p_, o_, g_, c_) = p_K b_ n_ p_ s_ ∧ ry b_ n_ T_ mo_ p_ (.inr s_) S_ ∧ o_mk s_.1 ≠ 60 ∧ lx_kd b_ n_ p_ = 63 ∧ mo_ = 0 := by rcases h1_ with ⟨e_, q1_, q2_⟩ | z_; (exact absurd (q2_.1.symm.trans hz_) q2_.2.2.1); exact z_
        have s8x := ry_s z2_ s8_ rfl
        obtain ⟨x8_, g8_, hg8_⟩ := s_ok_1 s8x.2.2
        have lim8_ := o_lim s8x.2.2.1 s8x.2.2.2.1
        have gl8_ : s8_.2.1.length = o_hl s8_.1 + 1 := s8x.2.2.2.2.1
        have v8_ := s8x.2.1.1
        have gl9_ : s8_.2.1.length = g8_.length + 1 := by rw [hg8_]; rfl
        have vk8_ := s8x.2.1.2.1 (by omega)
        rw [hg8_] at vk8_
        have wd8_ : S_.2.2.1 138 0 (S_.1 13 0 34 - 1).toNat = x8_ := by rw [show (S_.1 13 0 34 - 1).toNat = g8_.length by omega]; exact vk8_.1
        have ht8_ : h_tp s8_.2.1 = x8_ := by rw [hg8_]; rfl
        obtain ⟨i8_, hi81_, hi82_⟩ := z2_.1.1.2
        have ra8_ := rp_at ht1_ hi82_
        have rk8_ := r_st_3 (lx_kd_r hi82_.2.2.1)
        have bx8_ : 0 ≤ S_.1 13 0 34 ∧ S_.1 13 0 34 ≤ 1023 := hI_.1 13 0 34 rfl
        refine sm_T_go 5 (c1 := (152, [some (.inr (.inr (some (13, 0)))), some (.inl a_), none], [.inl 1, .inl (S_.1 13 0 34), .inr (.inr (some (138, 0)))], S_)) rfl ?_
        refine sm_T_bin (w := (S_.1 13 0 34) - 1) rfl (bi_sub (by omega) (by omega) (by omega)) ?_
        refine sm_T_iald (n := 1024) rfl rfl (by omega) (by omega) ?_
        have bx9_ : (-2147483648) ≤ S_.2.2.1 138 0 ((S_.1 13 0 34) - 1).toNat ∧ S_.2.2.1 138 0 ((S_.1 13 0 34) - 1).toNat ≤ 2147483647 := hI_.2 138 0 _
        refine sm_T_go 1 (c1 := (155, [some (.inr (.inr (some (13, 0)))), some (.inl a_), none], [.inl 1, .inl (S_.2.2.1 138 0 ((S_.1 13 0 34) - 1).toNat)], S_)) rfl ?_
        refine sm_T_br (a := 0) (z := 13) rfl (fun cx10_ => ?_) (fun cx10_ => ?_)
        · have cx10_ : (S_.2.2.1 138 0 ((S_.1 13 0 34) - 1).toNat) = 1 := of_decide_eq_true cx10_
          refine sm_T_go 0 (c1 := (168, [some (.inr (.inr (some (13, 0)))), some (.inl a_), none], [], S_)) rfl ?_
          refine ih_.2.2.1  S_ hI_ hF_ ⟨?_, trivial⟩ ?_
          · first | (left; exact ⟨e8_, he8_, he9_⟩) | (right; refine ⟨s8_, ?_, z2_, z3_, z4_⟩; rw [z1_]; unfold p_K; rw [if_neg z3_, if_neg (by rw [ht8_]; omega)]; done) | (left; refine ⟨(13, p_), ?_, ?_⟩; (rw [z1_]; unfold p_K; rw [if_neg z3_, if_pos (by rw [ht8_]; omega)]); (rcases e165_ with z_ | z_; (exact absurd hz_ z_.1); (refine ⟨z_.2.1.trans (if_neg ?_), ?_, by show (13 : Int) ≠ 0; decide, w165_, m165_⟩; (rw [hi81_]; rw [Int.toNat_natCast, ra8_.1]; exact rk8_.2.2.2.2.2); (rw [z_.2.2, hi81_, Int.toNat_natCast]; exact ra8_.2.1))))
          · omega
        · have cx10_ : ¬ ((S_.2.2.1 138 0 ((S_.1 13 0 34) - 1).toNat) = 1) := of_decide_eq_false cx10_
          have bx11_ : 0 ≤ S_.1 13 0 9 ∧ S_.1 13 0 9 ≤ 1280 := hI_.1 13 0 9 rfl
          refine sm_T_go 4 (c1 := (165, [some (.inr (.inr (some (13, 0)))), some (.inl a_), none], [.inl (S_.1 13 0 9), .inl 13, .inr (.inr (some (13, 0)))], S_)) rfl ?_
          refine sm_T_cal (d1 := 0) (Q1 := vq_293 13 (S_.1 13 0 9) S_) rfl rfl (by decide) (vc_293 13 (S_.1 13 0 9) S_ hI_ (by decide) (by omega)) (fun u_ Sx12_ px15_ => ?_)
          obtain ⟨rfl, hIx13_, hFx14_, px15_⟩ := px15_
          have hFx16_ : ai_fr (sx_W vw_320) S0_ Sx12_ := ai_fr_tr hF_ (fr_le hFx14_ rfl)
          have ex17_ : Sx12_.1 13 0 9 = S_.1 13 0 9 := hFx14_.1 13 0 9 rfl
          have ex18_ : Sx12_.1 13 0 34 = S_.1 13 0 34 := hFx14_.1 13 0 34 rfl
          have e165_ := px15_
          have m165_ := (hFx14_.1 13 0 27 rfl).trans (ry_mo z2_).1
          have w165_ : Sx12_.1 13 0 32 ≤ 800 := by rw [hFx14_.1 13 0 32 rfl]; exact (ry_mo z2_).2
          refine sm_T_go 0 (c1 := (168, [some (.inr (.inr (some (13, 0)))), some (.inl a_), none], [], Sx12_)) rfl ?_
          refine ih_.2.2.1  Sx12_ hIx13_ hFx16_ ⟨?_, trivial⟩ ?_
          · first | (left; exact ⟨e8_, he8_, he9_⟩) | (right; refine ⟨s8_, ?_, z2_, z3_, z4_⟩; rw [z1_]; unfold p_K; rw [if_neg z3_, if_neg (by rw [ht8_]; omega)]; done) | (left; refine ⟨(13, p_), ?_, ?_⟩; (rw [z1_]; unfold p_K; rw [if_neg z3_, if_pos (by rw [ht8_]; omega)]); (rcases e165_ with z_ | z_; (exact absurd hz_ z_.1); (refine ⟨z_.2.1.trans (if_neg ?_), ?_, by show (13 : Int) ≠ 0; decide, w165_, m165_⟩; (rw [hi81_]; rw [Int.toNat_natCast, ra8_.1]; exact rk8_.2.2.2.2.2); (rw [z_.2.2, hi81_, Int.toNat_natCast]; exact ra8_.2.1))))
          · omega
    · rintro  S_ hI_ hF_ ⟨h1_, -⟩ hm_
      have ht1_ := rtab_fr ht_ hF_ rfl rfl rfl rfl rfl
      have hT_ := ht_.2.1
      refine sm_T_go 1 (c1 := (169, [some (.inr (.inr (some (13, 0)))), some (.inl a_), none], [.inr (.inr (some (13, 0)))], S_)) rfl ?_
      refine sm_T_cal (d1 := 0) (Q1 := vq_292  S_) rfl rfl (by decide) (vc_292  S_ hI_ ) (fun u_ Sx1_ px4_ => ?_)
      obtain ⟨rfl, vx6_, rfl, px4_⟩ := px4_
      have e169_ := px4_
      refine sm_T_b0 (a := 0) (z := 9) rfl (fun cx7_ => ?_) (fun cx7_ => ?_)
      · have cx7_ : vx6_ = 0 := of_decide_eq_true cx7_
        have hz_ := wr_if e169_ (by omega)
        obtain ⟨e8_, he8_, he9_⟩ : ∃ e_, p_st b_ n_ (mdo mo_) (p_pm b_ n_ (mdo mo_) A_ M_ K_ f_) (1, false, p_, o_, g_, c_) = .inl e_ ∧ rwr mo_ e_ S_ := by rcases h1_ with z_ | ⟨s_, z1_, z2_, z3_⟩; exact z_; (exact absurd z2_.1.1.1 hz_)
        refine sm_T_go 1 (c1 := (182, [some (.inr (.inr (some (13, 0)))), some (.inl a_), none], [.inl 0], S_)) rfl ?_
        refine sm_T_ri rfl ⟨_, _, rfl, _, rfl, hI_, hF_, ?_⟩
        first | (rw [he8_]; exact he9_) | (rw [z1_]; cases hq_ : p_ad b_ n_ p_ with | inl e_ => exact e178_.1 e_ hq_ | inr q_ => (obtain ⟨q1_, q2_, q3_⟩ := e178_.2 q_ hq_; exact ⟨⟨q1_, ⟨_, q2_, Or.inl ⟨rfl, Or.inl ⟨rfl, ⟨_, w8_, rfl, rp_rtp ht1_ hi82_ (by omega), Or.inl ⟨by decide, wl8_ s8_ rfl⟩⟩⟩⟩⟩, by rw [q3_]; show _ = ((1 + o_mk s8_.1 : Nat) : Int); push_cast; omega, v178_, m178_⟩, rfl⟩))
      · have cx7_ : ¬ (vx6_ = 0) := of_decide_eq_false cx7_
        have hz_ := rt_if e169_ (by omega)
        obtain ⟨s8_, z1_, z2_, z3_, z4_⟩ : ∃ s_, p_st b_ n_ (mdo mo_) (p_pm b_ n_ (mdo mo_) A_ M_ K_ f_) (1, false, p_, o_, g_, c_) = (pb (p_ad b_ n_ p_) fun q_ => .inr (.inl (0, false, q_, (-3, p_) :: s_.1, s_.2.1, s_.2.2))) ∧ ry b_ n_ T_ mo_ p_ (.inr s_) S_ ∧ o_mk s_.1 ≠ 60 ∧ lx_kd b_ n_ p_ = 63 := by rcases h1_ with ⟨e_, q1_, q2_⟩ | z_; (exact absurd (q2_.1.symm.trans hz_) q2_.2.2.1); exact z_
        have s8x := ry_s z2_ s8_ rfl
        obtain ⟨w8_, ws8_, wl8_⟩ := ry_ws z2_ hI_
        have wll_ := wl_len (wl8_ s8_ rfl)
        have lim8_ := o_lim s8x.2.2.1 s8x.2.2.2.1
        obtain ⟨i8_, hi81_, hi82_⟩ := z2_.1.1.2
        refine sm_T_go 2 (c1 := (178, [some (.inr (.inr (some (13, 0)))), some (.inl a_), none], [.inl 63, .inr (.inr (some (13, 0)))], S_)) rfl ?_
        refine sm_T_cal (d1 := 3) (Q1 := vq_318 63 b_ n_ T_ mo_ p_ i8_ (o_mk s8_.1) w8_ S_) rfl rfl (by decide) (vc_318 63 b_ n_ T_ mo_ p_ i8_ (o_mk s8_.1) w8_ S_ hI_ (by exact ht1_) (by exact hz_) (by exact ⟨hi81_, hi82_⟩) (by omega) (by exact ws8_) (by omega) (by exact ⟨s8x.1, s8x.2.2.2.1⟩) (by decide) (by exact (ry_mo z2_).1)) (fun u_ Sx8_ px11_ => ?_)
        obtain ⟨rfl, hIx9_, hFx10_, px11_⟩ := px11_
        have hFx12_ : ai_fr (sx_W vw_320) S0_ Sx8_ := ai_fr_tr hF_ (fr_le hFx10_ rfl)
        have e178_ := px11_.2 z3_
        have m178_ := (hFx10_.1 13 0 27 rfl).trans (ry_mo z2_).1
        have v178_ := vs_fr s8x.2.1 hFx10_ rfl rfl rfl
        refine sm_T_go 1 (c1 := (182, [some (.inr (.inr (some (13, 0)))), some (.inl a_), none], [.inl 0], Sx8_)) rfl ?_
        refine sm_T_ri rfl ⟨_, _, rfl, _, rfl, hIx9_, hFx12_, ?_⟩
        first | (rw [he8_]; exact he9_) | (rw [z1_]; cases hq_ : p_ad b_ n_ p_ with | inl e_ => exact e178_.1 e_ hq_ | inr q_ => (obtain ⟨q1_, q2_, q3_⟩ := e178_.2 q_ hq_; exact ⟨⟨q1_, ⟨_, q2_, Or.inl ⟨rfl, Or.inl ⟨rfl, ⟨_, w8_, rfl, rp_rtp ht1_ hi82_ (by omega), Or.inl ⟨by decide, wl8_ s8_ rfl⟩⟩⟩⟩⟩, by rw [q3_]; show _ = ((1 + o_mk s8_.1 : Nat) : Int); push_cast; omega, v178_, m178_⟩, rfl⟩))
    · rintro  S_ hI_ hF_ ⟨h1_, -⟩ hm_
      obtain ⟨y_, y1_, y2_⟩ := h1_
      have ht1_ := rtab_fr ht_ hF_ rfl rfl rfl rfl rfl
      have hT_ := ht_.2.1
      refine sm_T_go 1 (c1 := (184, [some (.inr (.inr (some (13, 0)))), some (.inl a_), none], [.inr (.inr (some (13, 0)))], S_)) rfl ?_
      refine sm_T_cal (d1 := 3) (Q1 := vq_316 b_ n_ T_ mo_ p_ y_ S_) rfl rfl (by decide) (vc_316 b_ n_ T_ mo_ p_ y_ S_ hI_ (by exact ht1_) (by exact y1_) (by exact hmo_)) (fun u_ Sx1_ px4_ => ?_)
      obtain ⟨rfl, hIx2_, hFx3_, px4_⟩ := px4_
      have hFx5_ : ai_fr (sx_W vw_320) S0_ Sx1_ := ai_fr_tr hF_ (fr_le hFx3_ rfl)
      have lt184_ : ∀ s_, pb y_ (p_sa2 mo_) = .inr s_ → _ := fun s_ hs_ => sa2_lt y1_ hs_
      obtain ⟨y8_, hy8_, r184_⟩ := ry_ob px4_
      rw [← hy8_] at y2_ lt184_
      have t184_ := rtab_fr ht1_ hFx3_ rfl rfl rfl rfl rfl
      have m184_ := ry_mo r184_
      obtain ⟨w8_, ws8_, wl8_⟩ := ry_ws r184_ hIx2_
      refine sm_T_go 1 (c1 := (188, [some (.inr (.inr (some (13, 0)))), some (.inl a_), none], [.inr (.inr (some (13, 0)))], Sx1_)) rfl ?_
      refine sm_T_cal (d1 := 0) (Q1 := vq_292  Sx1_) rfl rfl (by decide) (vc_292  Sx1_ hIx2_ ) (fun u_ Sx6_ px9_ => ?_)
      obtain ⟨rfl, vx11_, rfl, px9_⟩ := px9_
      have e188_ := px9_
      refine sm_T_b0 (a := 0) (z := 11) rfl (fun cx12_ => ?_) (fun cx12_ => ?_)
      · have cx12_ : vx11_ = 0 := of_decide_eq_true cx12_
        have hz_ := wr_if e188_ (by omega)
        obtain ⟨e8_, he8_⟩ := ry_w r184_ hz_
        subst he8_
        refine sm_T_go 1 (c1 := (203, [some (.inr (.inr (some (13, 0)))), some (.inl a_), none], [.inl 2], Sx1_)) rfl ?_
        refine sm_T_ri rfl ⟨_, _, rfl, _, rfl, hIx2_, hFx5_, ?_⟩
        first | (rw [y2_]; exact r184_) | (rw [y2_]; exact ⟨r184_.1, rfl⟩)
      · have cx12_ : ¬ (vx11_ = 0) := of_decide_eq_false cx12_
        have hz_ := rt_if e188_ (by omega)
        obtain ⟨s8_, hs8_⟩ := ry_r r184_ hz_
        subst hs8_
        have s184_ := ry_s r184_ s8_ rfl
        have wl8_ := wl8_ s8_ rfl
        have wlx_ := ws8_.1
        have tp8_ := wl_tp wl8_ s184_.2.2.1
        obtain ⟨lt1_, lt4_⟩ := lt184_ s8_ rfl
        obtain ⟨so_, sg_, sc_⟩ := s8_
        have bx13_ : 0 ≤ Sx1_.1 13 0 32 ∧ Sx1_.1 13 0 32 ≤ 1023 := hIx2_.1 13 0 32 rfl
        refine sm_T_go 3 (c1 := (199, [some (.inr (.inr (some (13, 0)))), some (.inl a_), none], [.inl a_, .inl (Sx1_.1 13 0 32)], Sx1_)) rfl ?_
        refine sm_T_br (a := 1) (z := 5) rfl (fun cx14_ => ?_) (fun cx14_ => ?_)
        · have cx14_ : (Sx1_.1 13 0 32) ≠ a_ := of_decide_eq_true cx14_
          obtain ⟨k8_, q8_, o8_, ho8_, e9_⟩ : ∃ k8_ q8_ o8_, so_ = (k8_, q8_) :: o8_ ∧ o_tp so_ = k8_ := by cases so_ with | nil => (exfalso; have z_ := tp8_.2.2.2.2.2.2.mpr rfl; rw [z_] at wlx_; simp only [List.length_nil] at wlx_; omega) | cons a_ l_ => exact ⟨a_.1, a_.2, l_, rfl, rfl⟩
          subst ho8_
          have k8c := o_ok3 s184_.2.2.1 lt1_ lt4_
          have y3_ : p_st b_ n_ (mdo mo_) (p_pm b_ n_ (mdo mo_) A_ M_ K_ f_) (1, false, p_, o_, g_, c_) = p_B3 b_ n_ (mdo mo_) p_ ((k8_, q8_) :: o8_, sg_, sc_) := y2_
          obtain ⟨i8_, hi81_, hi82_⟩ := r184_.1.1.2
          have ok8_ := s184_.2.2
          have op8_ := s184_.1
          have vs8_ := s184_.2.1
          have bx15_ : 0 ≤ Sx1_.1 13 0 27 ∧ Sx1_.1 13 0 27 ≤ 2 := hIx2_.1 13 0 27 rfl
          refine sm_T_go 3 (c1 := (209, [some (.inr (.inr (some (13, 0)))), some (.inl a_), none], [.inl 2, .inl (Sx1_.1 13 0 27)], Sx1_)) rfl ?_
          refine sm_T_br (a := 3) (z := 42) rfl (fun cx16_ => ?_) (fun cx16_ => ?_)
          · have cx16_ : 2 ≤ (Sx1_.1 13 0 27) := of_decide_eq_true cx16_
            refine sm_T_go 2 (c1 := (254, [some (.inr (.inr (some (13, 0)))), some (.inl a_), none], [.inl 41, .inr (.inr (some (13, 0)))], Sx1_)) rfl ?_
            refine sm_T_cal (d1 := 3) (Q1 := vq_300 41 b_ n_ T_ (.inr p_) Sx1_) rfl rfl (by decide) (vc_300 41 b_ n_ T_ (.inr p_) Sx1_ hIx2_ (by exact t184_) (by exact r184_.1.1) (by decide)) (fun u_ Sx17_ px20_ => ?_)
            obtain ⟨rfl, hIx18_, hFx19_, px20_⟩ := px20_
            have hFx21_ : ai_fr (sx_W vw_320) S0_ Sx17_ := ai_fr_tr hFx5_ (fr_le hFx19_ rfl)
            have ex22_ : Sx17_.1 13 0 27 = Sx1_.1 13 0 27 := hFx19_.1 13 0 27 rfl
            have ex23_ : Sx17_.1 13 0 32 = Sx1_.1 13 0 32 := hFx19_.1 13 0 32 rfl
            have k12_ : k8_ = -1 ∨ k8_ = -2 := by rcases k8c with z_ | z_; (exfalso; first | (have z2_ := z_.2; unfold mdo at z2_; have z3_ := of_decide_eq_false z2_; omega) | (have z2_ := tp8_.2.2.2.2.1.mpr (by rw [e9_]; exact z_.1); omega)); exact z_
            have g254_ : rg b_ n_ T_ (p_nd b_ n_ 41 p_) Sx17_ := px20_
            rw [b3_c (by omega)] at y3_
            have m254_ : Sx17_.1 13 0 27 = mo_ := (hFx19_.1 13 0 27 rfl).trans m184_.1
            have w254_ : Sx17_.1 13 0 32 ≤ 800 := by rw [hFx19_.1 13 0 32 rfl]; exact m184_.2
            have op254_ := (hFx19_.1 13 0 33 rfl).trans op8_
            have vs254_ := vs_fr vs8_ hFx19_ rfl rfl rfl
            have ws254_ := ws_fr ws8_ hFx19_ rfl rfl rfl
            obtain ⟨t8_, u8_, hw8_, wt8_⟩ := wl_12 k12_ wl8_
            subst hw8_
            obtain ⟨x8_, g8_, hg8_⟩ := s_ok_1 ok8_
            have hg8_ : sg_ = x8_ :: g8_ := hg8_
            subst hg8_
            have lim8_ := o_lim ok8_.1 ok8_.2.1
            have gl8_ : (x8_ :: g8_).length = o_hl ((k8_, q8_) :: o8_) + 1 := ok8_.2.2.1
            have gl7_ : o_hl ((k8_, q8_) :: o8_) ≤ 425 := lim8_.2
            simp only [List.length_cons] at gl8_
            have wlx3_ : Sx17_.1 13 0 32 = (u8_.length : Int) + 1 := by rw [ws254_.1, List.length_cons]; push_cast; rfl
            have op8b : Sx17_.1 13 0 33 = (o_mk o8_ : Int) + 1 := by rw [op254_]; show (((if k8_ < 0 then 1 else 0) + o_mk o8_ : Nat) : Int) = _; rw [if_pos (by omega)]; push_cast; omega
            refine sm_T_go 1 (c1 := (258, [some (.inr (.inr (some (13, 0)))), some (.inl a_), none], [.inr (.inr (some (13, 0)))], Sx17_)) rfl ?_
            refine sm_T_cal (d1 := 0) (Q1 := vq_292  Sx17_) rfl rfl (by decide) (vc_292  Sx17_ hIx18_ ) (fun u_ Sx24_ px27_ => ?_)
            obtain ⟨rfl, vx29_, rfl, px27_⟩ := px27_
            have e258_ := px27_
            refine sm_T_b0 (a := 0) (z := 27) rfl (fun cx30_ => ?_) (fun cx30_ => ?_)
            · have cx30_ : vx29_ = 0 := of_decide_eq_true cx30_
              have hz2_ := wr_if e258_ (by omega)
              refine sm_T_go 1 (c1 := (289, [some (.inr (.inr (some (13, 0)))), some (.inl a_), none], [.inl 1], Sx17_)) rfl ?_
              refine sm_T_ri rfl ⟨_, _, rfl, _, rfl, hIx18_, hFx21_, ?_⟩
              rw [y3_]
              cases hq_ : p_nd b_ n_ 41 p_ with
              | inl e_ => rw [hq_] at g254_; first | (exact ⟨g254_.1, g254_.2.1, g254_.2.2, w254_, m254_⟩) | (exact absurd (g254_.1.symm.trans hz2_) g254_.2.2)
              | inr q_ => rw [hq_] at g254_; first | (exact absurd g254_.1 hz2_) | (exact ⟨⟨fg285_ q_ g254_, ⟨w9_, ws9_, Or.inr ⟨rfl, wl9_⟩⟩, op285_, v9_, m285_⟩, rfl⟩)
            · have cx30_ : ¬ (vx29_ = 0) := of_decide_eq_false cx30_
              have hz2_ := rt_if e258_ (by omega)
              have bx31_ : 0 ≤ Sx17_.1 13 0 32 ∧ Sx17_.1 13 0 32 ≤ 1023 := hIx18_.1 13 0 32 rfl
              refine sm_T_go 4 (c1 := (270, [some (.inr (.inr (some (13, 0)))), some (.inl a_), none], [.inl 1, .inl (Sx17_.1 13 0 32), .inr (.inr (some (13, 0)))], Sx17_)) rfl ?_
              refine sm_T_bin (w := (Sx17_.1 13 0 32) - 1) rfl (bi_sub (by omega) (by omega) (by omega)) ?_
              have hIx32_ : gi (sm_pI Sx17_ 13 0 32 ((Sx17_.1 13 0 32) - 1)) := gi_pI hIx18_ (show 0 ≤ (Sx17_.1 13 0 32) - 1 ∧ (Sx17_.1 13 0 32) - 1 ≤ 1023 from ⟨by omega, by omega⟩)
              have hFx33_ : ai_fr (sx_W vw_320) S0_ (sm_pI Sx17_ 13 0 32 ((Sx17_.1 13 0 32) - 1)) := ai_fr_tr hFx21_ (ai_fr_pI rfl)
              have bx34_ : 0 ≤ Sx17_.1 13 0 33 ∧ Sx17_.1 13 0 33 ≤ 60 := hIx18_.1 13 0 33 rfl
              refine sm_T_go 5 (c1 := (280, [some (.inr (.inr (some (13, 0)))), some (.inl a_), none], [.inl 1, .inl (Sx17_.1 13 0 33), .inr (.inr (some (13, 0)))], sm_pI Sx17_ 13 0 32 ((Sx17_.1 13 0 32) - 1))) rfl ?_
              refine sm_T_bin (w := (Sx17_.1 13 0 33) - 1) rfl (bi_sub (by omega) (by omega) (by omega)) ?_
              have hIx35_ : gi (sm_pI (sm_pI Sx17_ 13 0 32 ((Sx17_.1 13 0 32) - 1)) 13 0 33 ((Sx17_.1 13 0 33) - 1)) := gi_pI hIx32_ (show 0 ≤ (Sx17_.1 13 0 33) - 1 ∧ (Sx17_.1 13 0 33) - 1 ≤ 60 from ⟨by omega, by omega⟩)
              have hFx36_ : ai_fr (sx_W vw_320) S0_ (sm_pI (sm_pI Sx17_ 13 0 32 ((Sx17_.1 13 0 32) - 1)) 13 0 33 ((Sx17_.1 13 0 33) - 1)) := ai_fr_tr hFx33_ (ai_fr_pI rfl)
              refine sm_T_go 2 (c1 := (285, [some (.inr (.inr (some (13, 0)))), some (.inl a_), none], [.inr (.inr (some (13, 0)))], sm_pI (sm_pI Sx17_ 13 0 32 ((Sx17_.1 13 0 32) - 1)) 13 0 33 ((Sx17_.1 13 0 33) - 1))) rfl ?_
              refine sm_T_cal (d1 := 1) (Q1 := vq_317 b_ n_ T_ mo_ (decide (k8_ = -2)) o8_ x8_ g8_ sc_ u8_ (sm_pI (sm_pI Sx17_ 13 0 32 ((Sx17_.1 13 0 32) - 1)) 13 0 33 ((Sx17_.1 13 0 33) - 1))) rfl rfl (by decide) (vc_317 b_ n_ T_ mo_ (decide (k8_ = -2)) o8_ x8_ g8_ sc_ u8_ (sm_pI (sm_pI Sx17_ 13 0 32 ((Sx17_.1 13 0 32) - 1)) 13 0 33 ((Sx17_.1 13 0 33) - 1)) hIx35_ (by exact ws_pop ws254_ rfl rfl rfl) (by exact wt8_) (by exact ok8_.1.2.2) (by exact vs254_) (by exact m254_) (by omega) (by exact (h_ok_c.mp ok8_.2.2.2).1)) (fun u_ Sx37_ px40_ => ?_)
              obtain ⟨rfl, hIx38_, hFx39_, px40_⟩ := px40_
              have hFx41_ : ai_fr (sx_W vw_320) S0_ Sx37_ := ai_fr_tr hFx36_ (fr_le hFx39_ rfl)
              obtain ⟨w9_, ws9_, wl9_, v9_⟩ := px40_
              have op285_ : Sx37_.1 13 0 33 = (o_mk o8_ : Int) := (hFx39_.1 13 0 33 rfl).trans (by (try simp only [rd_eq, rd_ne, rf_eq, rf_nk, rf_nt, rd_fa, rd_af, rd_fl, rd_al, rd_lf, rd_la, rd_leq, rd_lne, rd_fr, rd_ar, ne_eq, Nat.reduceEqDiff, not_false_eq_true]); omega)
              have m285_ := (hFx39_.1 13 0 27 rfl).trans m254_
              have fg285_ : ∀ q_, rg b_ n_ T_ (.inr q_) (sm_pI (sm_pI Sx17_ 13 0 32 ((Sx17_.1 13 0 32) - 1)) 13 0 33 ((Sx17_.1 13 0 33) - 1)) → rg b_ n_ T_ (.inr q_) Sx37_ := fun q_ hq_ => rg_fr hq_ hFx39_ rfl rfl rfl
              refine sm_T_go 1 (c1 := (289, [some (.inr (.inr (some (13, 0)))), some (.inl a_), none], [.inl 1], Sx37_)) rfl ?_
              refine sm_T_ri rfl ⟨_, _, rfl, _, rfl, hIx38_, hFx41_, ?_⟩
              rw [y3_]
              cases hq_ : p_nd b_ n_ 41 p_ with
              | inl e_ => rw [hq_] at g254_; first | (exact ⟨g254_.1, g254_.2.1, g254_.2.2, w254_, m254_⟩) | (exact absurd (g254_.1.symm.trans hz2_) g254_.2.2)
              | inr q_ => rw [hq_] at g254_; first | (exact absurd g254_.1 hz2_) | (exact ⟨⟨fg285_ q_ g254_, ⟨w9_, ws9_, Or.inr ⟨rfl, wl9_⟩⟩, op285_, v9_, m285_⟩, rfl⟩)
          · have cx16_ : ¬ (2 ≤ (Sx1_.1 13 0 27)) := of_decide_eq_false cx16_
            refine sm_T_go 1 (c1 := (213, [some (.inr (.inr (some (13, 0)))), some (.inl a_), none], [.inr (.inr (some (13, 0)))], Sx1_)) rfl ?_
            refine sm_T_cal (d1 := 0) (Q1 := vq_312 w8_ Sx1_) rfl rfl (by decide) (vc_312 w8_ Sx1_ hIx2_ (by exact ws8_)) (fun u_ Sx42_ px45_ => ?_)
            obtain ⟨rfl, vx47_, rfl, px45_⟩ := px45_
            have e213_ := px45_
            refine sm_T_go 1 (c1 := (218, [some (.inr (.inr (some (13, 0)))), some (.inl a_), none], [.inl 63, .inl vx47_], Sx1_)) rfl ?_
            refine sm_T_br (a := 1) (z := 33) rfl (fun cx48_ => ?_) (fun cx48_ => ?_)
            · have cx48_ : vx47_ ≠ 63 := of_decide_eq_true cx48_
              refine sm_T_go 2 (c1 := (254, [some (.inr (.inr (some (13, 0)))), some (.inl a_), none], [.inl 41, .inr (.inr (some (13, 0)))], Sx1_)) rfl ?_
              refine sm_T_cal (d1 := 3) (Q1 := vq_300 41 b_ n_ T_ (.inr p_) Sx1_) rfl rfl (by decide) (vc_300 41 b_ n_ T_ (.inr p_) Sx1_ hIx2_ (by exact t184_) (by exact r184_.1.1) (by decide)) (fun u_ Sx49_ px52_ => ?_)
              obtain ⟨rfl, hIx50_, hFx51_, px52_⟩ := px52_
              have hFx53_ : ai_fr (sx_W vw_320) S0_ Sx49_ := ai_fr_tr hFx5_ (fr_le hFx51_ rfl)
              have ex54_ : Sx49_.1 13 0 27 = Sx1_.1 13 0 27 := hFx51_.1 13 0 27 rfl
              have ex55_ : Sx49_.1 13 0 32 = Sx1_.1 13 0 32 := hFx51_.1 13 0 32 rfl
              have k12_ : k8_ = -1 ∨ k8_ = -2 := by rcases k8c with z_ | z_; (exfalso; first | (have z2_ := z_.2; unfold mdo at z2_; have z3_ := of_decide_eq_false z2_; omega) | (have z2_ := tp8_.2.2.2.2.1.mpr (by rw [e9_]; exact z_.1); omega)); exact z_
              have g254_ : rg b_ n_ T_ (p_nd b_ n_ 41 p_) Sx49_ := px52_
              rw [b3_c (by omega)] at y3_
              have m254_ : Sx49_.1 13 0 27 = mo_ := (hFx51_.1 13 0 27 rfl).trans m184_.1
              have w254_ : Sx49_.1 13 0 32 ≤ 800 := by rw [hFx51_.1 13 0 32 rfl]; exact m184_.2
              have op254_ := (hFx51_.1 13 0 33 rfl).trans op8_
              have vs254_ := vs_fr vs8_ hFx51_ rfl rfl rfl
              have ws254_ := ws_fr ws8_ hFx51_ rfl rfl rfl
              obtain ⟨t8_, u8_, hw8_, wt8_⟩ := wl_12 k12_ wl8_
              subst hw8_
              obtain ⟨x8_, g8_, hg8_⟩ := s_ok_1 ok8_
              have hg8_ : sg_ = x8_ :: g8_ := hg8_
              subst hg8_
              have lim8_ := o_lim ok8_.1 ok8_.2.1
              have gl8_ : (x8_ :: g8_).length = o_hl ((k8_, q8_) :: o8_) + 1 := ok8_.2.2.1
              have gl7_ : o_hl ((k8_, q8_) :: o8_) ≤ 425 := lim8_.2
              simp only [List.length_cons] at gl8_
              have wlx3_ : Sx49_.1 13 0 32 = (u8_.length : Int) + 1 := by rw [ws254_.1, List.length_cons]; push_cast; rfl
              have op8b : Sx49_.1 13 0 33 = (o_mk o8_ : Int) + 1 := by rw [op254_]; show (((if k8_ < 0 then 1 else 0) + o_mk o8_ : Nat) : Int) = _; rw [if_pos (by omega)]; push_cast; omega
              refine sm_T_go 1 (c1 := (258, [some (.inr (.inr (some (13, 0)))), some (.inl a_), none], [.inr (.inr (some (13, 0)))], Sx49_)) rfl ?_
              refine sm_T_cal (d1 := 0) (Q1 := vq_292  Sx49_) rfl rfl (by decide) (vc_292  Sx49_ hIx50_ ) (fun u_ Sx56_ px59_ => ?_)
              obtain ⟨rfl, vx61_, rfl, px59_⟩ := px59_
              have e258_ := px59_
              refine sm_T_b0 (a := 0) (z := 27) rfl (fun cx62_ => ?_) (fun cx62_ => ?_)
              · have cx62_ : vx61_ = 0 := of_decide_eq_true cx62_
                have hz2_ := wr_if e258_ (by omega)
                refine sm_T_go 1 (c1 := (289, [some (.inr (.inr (some (13, 0)))), some (.inl a_), none], [.inl 1], Sx49_)) rfl ?_
                refine sm_T_ri rfl ⟨_, _, rfl, _, rfl, hIx50_, hFx53_, ?_⟩
                rw [y3_]
                cases hq_ : p_nd b_ n_ 41 p_ with
                | inl e_ => rw [hq_] at g254_; first | (exact ⟨g254_.1, g254_.2.1, g254_.2.2, w254_, m254_⟩) | (exact absurd (g254_.1.symm.trans hz2_) g254_.2.2)
                | inr q_ => rw [hq_] at g254_; first | (exact absurd g254_.1 hz2_) | (exact ⟨⟨fg285_ q_ g254_, ⟨w9_, ws9_, Or.inr ⟨rfl, wl9_⟩⟩, op285_, v9_, m285_⟩, rfl⟩)
              · have cx62_ : ¬ (vx61_ = 0) := of_decide_eq_false cx62_
                have hz2_ := rt_if e258_ (by omega)
                have bx63_ : 0 ≤ Sx49_.1 13 0 32 ∧ Sx49_.1 13 0 32 ≤ 1023 := hIx50_.1 13 0 32 rfl
                refine sm_T_go 4 (c1 := (270, [some (.inr (.inr (some (13, 0)))), some (.inl a_), none], [.inl 1, .inl (Sx49_.1 13 0 32), .inr (.inr (some (13, 0)))], Sx49_)) rfl ?_
                refine sm_T_bin (w := (Sx49_.1 13 0 32) - 1) rfl (bi_sub (by omega) (by omega) (by omega)) ?_
                have hIx64_ : gi (sm_pI Sx49_ 13 0 32 ((Sx49_.1 13 0 32) - 1)) := gi_pI hIx50_ (show 0 ≤ (Sx49_.1 13 0 32) - 1 ∧ (Sx49_.1 13 0 32) - 1 ≤ 1023 from ⟨by omega, by omega⟩)
                have hFx65_ : ai_fr (sx_W vw_320) S0_ (sm_pI Sx49_ 13 0 32 ((Sx49_.1 13 0 32) - 1)) := ai_fr_tr hFx53_ (ai_fr_pI rfl)
                have bx66_ : 0 ≤ Sx49_.1 13 0 33 ∧ Sx49_.1 13 0 33 ≤ 60 := hIx50_.1 13 0 33 rfl
                refine sm_T_go 5 (c1 := (280, [some (.inr (.inr (some (13, 0)))), some (.inl a_), none], [.inl 1, .inl (Sx49_.1 13 0 33), .inr (.inr (some (13, 0)))], sm_pI Sx49_ 13 0 32 ((Sx49_.1 13 0 32) - 1))) rfl ?_
                refine sm_T_bin (w := (Sx49_.1 13 0 33) - 1) rfl (bi_sub (by omega) (by omega) (by omega)) ?_
                have hIx67_ : gi (sm_pI (sm_pI Sx49_ 13 0 32 ((Sx49_.1 13 0 32) - 1)) 13 0 33 ((Sx49_.1 13 0 33) - 1)) := gi_pI hIx64_ (show 0 ≤ (Sx49_.1 13 0 33) - 1 ∧ (Sx49_.1 13 0 33) - 1 ≤ 60 from ⟨by omega, by omega⟩)
                have hFx68_ : ai_fr (sx_W vw_320) S0_ (sm_pI (sm_pI Sx49_ 13 0 32 ((Sx49_.1 13 0 32) - 1)) 13 0 33 ((Sx49_.1 13 0 33) - 1)) := ai_fr_tr hFx65_ (ai_fr_pI rfl)
                refine sm_T_go 2 (c1 := (285, [some (.inr (.inr (some (13, 0)))), some (.inl a_), none], [.inr (.inr (some (13, 0)))], sm_pI (sm_pI Sx49_ 13 0 32 ((Sx49_.1 13 0 32) - 1)) 13 0 33 ((Sx49_.1 13 0 33) - 1))) rfl ?_
                refine sm_T_cal (d1 := 1) (Q1 := vq_317 b_ n_ T_ mo_ (decide (k8_ = -2)) o8_ x8_ g8_ sc_ u8_ (sm_pI (sm_pI Sx49_ 13 0 32 ((Sx49_.1 13 0 32) - 1)) 13 0 33 ((Sx49_.1 13 0 33) - 1))) rfl rfl (by decide) (vc_317 b_ n_ T_ mo_ (decide (k8_ = -2)) o8_ x8_ g8_ sc_ u8_ (sm_pI (sm_pI Sx49_ 13 0 32 ((Sx49_.1 13 0 32) - 1)) 13 0 33 ((Sx49_.1 13 0 33) - 1)) hIx67_ (by exact ws_pop ws254_ rfl rfl rfl) (by exact wt8_) (by exact ok8_.1.2.2) (by exact vs254_) (by exact m254_) (by omega) (by exact (h_ok_c.mp ok8_.2.2.2).1)) (fun u_ Sx69_ px72_ => ?_)
                obtain ⟨rfl, hIx70_, hFx71_, px72_⟩ := px72_
                have hFx73_ : ai_fr (sx_W vw_320) S0_ Sx69_ := ai_fr_tr hFx68_ (fr_le hFx71_ rfl)
                obtain ⟨w9_, ws9_, wl9_, v9_⟩ := px72_
                have op285_ : Sx69_.1 13 0 33 = (o_mk o8_ : Int) := (hFx71_.1 13 0 33 rfl).trans (by (try simp only [rd_eq, rd_ne, rf_eq, rf_nk, rf_nt, rd_fa, rd_af, rd_fl, rd_al, rd_lf, rd_la, rd_leq, rd_lne, rd_fr, rd_ar, ne_eq, Nat.reduceEqDiff, not_false_eq_true]); omega)
                have m285_ := (hFx71_.1 13 0 27 rfl).trans m254_
                have fg285_ : ∀ q_, rg b_ n_ T_ (.inr q_) (sm_pI (sm_pI Sx49_ 13 0 32 ((Sx49_.1 13 0 32) - 1)) 13 0 33 ((Sx49_.1 13 0 33) - 1)) → rg b_ n_ T_ (.inr q_) Sx69_ := fun q_ hq_ => rg_fr hq_ hFx71_ rfl rfl rfl
                refine sm_T_go 1 (c1 := (289, [some (.inr (.inr (some (13, 0)))), some (.inl a_), none], [.inl 1], Sx69_)) rfl ?_
                refine sm_T_ri rfl ⟨_, _, rfl, _, rfl, hIx70_, hFx73_, ?_⟩
                rw [y3_]
                cases hq_ : p_nd b_ n_ 41 p_ with
                | inl e_ => rw [hq_] at g254_; first | (exact ⟨g254_.1, g254_.2.1, g254_.2.2, w254_, m254_⟩) | (exact absurd (g254_.1.symm.trans hz2_) g254_.2.2)
                | inr q_ => rw [hq_] at g254_; first | (exact absurd g254_.1 hz2_) | (exact ⟨⟨fg285_ q_ g254_, ⟨w9_, ws9_, Or.inr ⟨rfl, wl9_⟩⟩, op285_, v9_, m285_⟩, rfl⟩)
            · have cx48_ : ¬ (vx47_ ≠ 63) := of_decide_eq_false cx48_
              have k3_ : k8_ = -3 := by rw [← e9_]; exact tp8_.2.2.2.2.1.mp (by omega)
              subst k3_
              obtain ⟨t8_, u8_, hw8_, wl84_⟩ := wl_34 wl8_
              subst hw8_
              rw [b3_q] at y3_
              have wlx2_ : (((63, t8_) :: u8_ : List (Int × Int)).length : Int) = (u8_.length : Int) + 1 := by rw [List.length_cons]; push_cast; rfl
              refine sm_T_go 2 (c1 := (224, [some (.inr (.inr (some (13, 0)))), some (.inl a_), none], [.inl 58, .inr (.inr (some (13, 0)))], Sx1_)) rfl ?_
              refine sm_T_cal (d1 := 0) (Q1 := vq_295 58 b_ n_ T_ (.inr p_) Sx1_) rfl rfl (by decide) (vc_295 58 b_ n_ T_ (.inr p_) Sx1_ hIx2_ (by exact t184_) (by exact r184_.1.1) (by decide)) (fun u_ Sx74_ px77_ => ?_)
              obtain ⟨rfl, vx79_, rfl, px77_⟩ := px77_
              have e224_ := px77_.2 p_ rfl
              have r224_ := px77_.1.1
              refine sm_T_b0 (a := 0) (z := 16) rfl (fun cx80_ => ?_) (fun cx80_ => ?_)
              · have cx80_ : vx79_ = 0 := of_decide_eq_true cx80_
                have kd8_ : lx_kd b_ n_ p_ ≠ 58 := fun z_ => by have := e224_.mpr z_; omega
                refine sm_T_go 2 (c1 := (246, [some (.inr (.inr (some (13, 0)))), some (.inl a_), none], [.inl 58, .inr (.inr (some (13, 0)))], Sx1_)) rfl ?_
                refine sm_T_cal (d1 := 3) (Q1 := vq_300 58 b_ n_ T_ (.inr p_) Sx1_) rfl rfl (by decide) (vc_300 58 b_ n_ T_ (.inr p_) Sx1_ hIx2_ (by first | exact t184_ | exact rtab_fr t184_ (w_ := ([], [136], [])) (ai_fr_aI rfl) rfl rfl rfl rfl rfl) (by exact r184_.1.1) (by decide)) (fun u_ Sx81_ px84_ => ?_)
                obtain ⟨rfl, hIx82_, hFx83_, px84_⟩ := px84_
                have hFx85_ : ai_fr (sx_W vw_320) S0_ Sx81_ := ai_fr_tr hFx5_ (fr_le hFx83_ rfl)
                have ex86_ : Sx81_.1 13 0 27 = Sx1_.1 13 0 27 := hFx83_.1 13 0 27 rfl
                have ex87_ : Sx81_.1 13 0 32 = Sx1_.1 13 0 32 := hFx83_.1 13 0 32 rfl
                have g246_ : rg b_ n_ T_ (p_nd b_ n_ 58 p_) Sx81_ := px84_
                have m246_ : Sx81_.1 13 0 27 = mo_ := (hFx83_.1 13 0 27 rfl).trans m184_.1
                have w246_ : Sx81_.1 13 0 32 ≤ 800 := by rw [hFx83_.1 13 0 32 rfl]; exact m184_.2
                have op246_ : Sx81_.1 13 0 33 = _ := (hFx83_.1 13 0 33 rfl).trans op8_
                first | (have ws246_ := ws_fr (ws_top1 (z_ := 58) ws8_ (by omega)) hFx83_ rfl rfl rfl) | skip
                have v246_ : vs mo_ sg_ Sx81_ := by first | exact vs_fr vs8_ hFx83_ rfl rfl rfl | exact vs_fr (S_ := Sx1_) (show vs mo_ sg_ Sx1_ from ⟨vs8_.1, fun q_ => stk_ot (vs8_.2.1 q_) (by decide), fun q_ => stk_8o (vs8_.2.2 q_) (by decide)⟩) hFx83_ rfl rfl rfl
                refine sm_T_go 1 (c1 := (250, [some (.inr (.inr (some (13, 0)))), some (.inl a_), none], [.inl 0], Sx81_)) rfl ?_
                refine sm_T_ri rfl ⟨_, _, rfl, _, rfl, hIx82_, hFx85_, ?_⟩
                rw [y3_]
                cases hq_ : p_nd b_ n_ 58 p_ with
                | inl e_ => rw [hq_] at g246_; exact ⟨g246_.1, g246_.2.1, g246_.2.2, w246_, m246_⟩
                | inr q_ => rw [hq_] at g246_; first | (exfalso; unfold p_nd at hq_; rw [if_neg kd8_] at hq_; cases hq_; done) | (exact ⟨⟨g246_, ⟨_, ws246_, Or.inl ⟨rfl, Or.inl ⟨rfl, wl84_⟩⟩⟩, op246_, v246_, m246_⟩, rfl⟩)
              · have cx80_ : ¬ (vx79_ = 0) := of_decide_eq_false cx80_
                have kd8_ : lx_kd b_ n_ p_ = 58 := e224_.mp (by omega)
                refine sm_T_go 5 (c1 := (239, [some (.inr (.inr (some (13, 0)))), some (.inl a_), none], [.inl 1, .inl (Sx1_.1 13 0 32), .inr (.inr (some (136, 0)))], Sx1_)) rfl ?_
                refine sm_T_bin (w := (Sx1_.1 13 0 32) - 1) rfl (bi_sub (by omega) (by omega) (by omega)) ?_
                refine sm_T_go 1 (c1 := (242, [some (.inr (.inr (some (13, 0)))), some (.inl a_), none], [.inl 58, .inl ((Sx1_.1 13 0 32) - 1), .inr (.inr (some (136, 0)))], Sx1_)) rfl ?_
                refine sm_T_iast (n := 1024) rfl rfl (by omega) (by omega) ?_
                have hIx88_ : gi (sm_aI Sx1_ 136 0 ((Sx1_.1 13 0 32) - 1).toNat 58) := gi_aI hIx2_ (show (-2147483648) ≤ 58 ∧ 58 ≤ 2147483647 from ⟨by omega, by omega⟩)
                have hFx89_ : ai_fr (sx_W vw_320) S0_ (sm_aI Sx1_ 136 0 ((Sx1_.1 13 0 32) - 1).toNat 58) := ai_fr_tr hFx5_ (ai_fr_aI rfl)
                refine sm_T_go 2 (c1 := (246, [some (.inr (.inr (some (13, 0)))), some (.inl a_), none], [.inl 58, .inr (.inr (some (13, 0)))], sm_aI Sx1_ 136 0 ((Sx1_.1 13 0 32) - 1).toNat 58)) rfl ?_
                refine sm_T_cal (d1 := 3) (Q1 := vq_300 58 b_ n_ T_ (.inr p_) (sm_aI Sx1_ 136 0 ((Sx1_.1 13 0 32) - 1).toNat 58)) rfl rfl (by decide) (vc_300 58 b_ n_ T_ (.inr p_) (sm_aI Sx1_ 136 0 ((Sx1_.1 13 0 32) - 1).toNat 58) hIx88_ (by first | exact t184_ | exact rtab_fr t184_ (w_ := ([], [136], [])) (ai_fr_aI rfl) rfl rfl rfl rfl rfl) (by exact r184_.1.1) (by decide)) (fun u_ Sx90_ px93_ => ?_)
                obtain ⟨rfl, hIx91_, hFx92_, px93_⟩ := px93_
                have hFx94_ : ai_fr (sx_W vw_320) S0_ Sx90_ := ai_fr_tr hFx89_ (fr_le hFx92_ rfl)
                have g246_ : rg b_ n_ T_ (p_nd b_ n_ 58 p_) Sx90_ := px93_
                have m246_ : Sx90_.1 13 0 27 = mo_ := (hFx92_.1 13 0 27 rfl).trans m184_.1
                have w246_ : Sx90_.1 13 0 32 ≤ 800 := by rw [hFx92_.1 13 0 32 rfl]; exact m184_.2
                have op246_ : Sx90_.1 13 0 33 = _ := (hFx92_.1 13 0 33 rfl).trans op8_
                first | (have ws246_ := ws_fr (ws_top1 (z_ := 58) ws8_ (by omega)) hFx92_ rfl rfl rfl) | skip
                have v246_ : vs mo_ sg_ Sx90_ := by first | exact vs_fr vs8_ hFx92_ rfl rfl rfl | exact vs_fr (S_ := (sm_aI Sx1_ 136 0 ((Sx1_.1 13 0 32) - 1).toNat 58)) (show vs mo_ sg_ (sm_aI Sx1_ 136 0 ((Sx1_.1 13 0 32) - 1).toNat 58) from ⟨vs8_.1, fun q_ => stk_ot (vs8_.2.1 q_) (by decide), fun q_ => stk_8o (vs8_.2.2 q_) (by decide)⟩) hFx92_ rfl rfl rfl
                refine sm_T_go 1 (c1 := (250, [some (.inr (.inr (some (13, 0)))), some (.inl a_), none], [.inl 0], Sx90_)) rfl ?_
                refine sm_T_ri rfl ⟨_, _, rfl, _, rfl, hIx91_, hFx94_, ?_⟩
                rw [y3_]
                cases hq_ : p_nd b_ n_ 58 p_ with
                | inl e_ => rw [hq_] at g246_; exact ⟨g246_.1, g246_.2.1, g246_.2.2, w246_, m246_⟩
                | inr q_ => rw [hq_] at g246_; first | (exfalso; unfold p_nd at hq_; rw [if_neg kd8_] at hq_; cases hq_; done) | (exact ⟨⟨g246_, ⟨_, ws246_, Or.inl ⟨rfl, Or.inl ⟨rfl, wl84_⟩⟩⟩, op246_, v246_, m246_⟩, rfl⟩)
        · have cx14_ : ¬ ((Sx1_.1 13 0 32) ≠ a_) := of_decide_eq_false cx14_
          have w0_ : w8_ = [] := by cases w8_ with | nil => rfl | cons a_ l_ => (exfalso; simp only [List.length_cons] at wlx_; omega)
          have so0_ : so_ = [] := tp8_.2.2.2.2.2.2.mp w0_
          subst so0_
          refine sm_T_go 1 (c1 := (203, [some (.inr (.inr (some (13, 0)))), some (.inl a_), none], [.inl 2], Sx1_)) rfl ?_
          refine sm_T_ri rfl ⟨_, _, rfl, _, rfl, hIx2_, hFx5_, ?_⟩
          first | (rw [y2_]; exact r184_) | (rw [y2_]; exact ⟨r184_.1, rfl⟩)
set_option maxHeartbeats 3000000 in
set_option maxRecDepth 20000 in
theorem vc_320 {sc_ : Nat × (Nat → Int)} (a_ : Int) (b_ : Nat → Int) (n_ : Nat) (T_ : Nat) (mo_ : Int) (p_ : Nat) (o_ : List (Int × Nat)) (g_ : List Int) (c_ : List Int) (A_ : pA) (M_ : Nat) (K_ : Nat) (f_ : Nat → Nat) (S0_ : sm_S) (hI_ : gi S0_) (ha_ : a_ = 0) (ht_ : rtab b_ n_ T_ S0_) (hx_ : rx b_ n_ T_ mo_ false 1 p_ o_ g_ S0_) (hok_ : x_ok b_ n_ (mdo mo_) (1, false, p_, o_, g_, c_)) (hmo_ : mo_ = 0 ∨ mo_ = 2) : sm_T (mt_P sc_) 6 320 (0, [some (.inr (.inr (some (13, 0)))), some (.inl a_), none], [], S0_) (fun r_ => ∃ u_ S1_, r_ = (.inl u_, S1_, 0) ∧ vq_320 a_ b_ n_ T_ mo_ p_ o_ g_ c_ A_ M_ K_ f_ S0_ u_ S1_) := by
  have hF_ : ai_fr (sx_W vw_320) S0_ S0_ := ai_fr_rf
  obtain ⟨i_, hi1_, hi2_⟩ := id hx_.1.2
  have hT_ := ht_.2.1
  have hi9_ := hi2_.1
  have wle_ := (ry_mo (y_ := .inr (o_, g_, c_)) (p_ := p_) ⟨hx_, hok_.2.1⟩).2
  have wle2_ : S0_.1 13 0 32 ≤ 731 := by obtain ⟨w0_, z1_, z2_⟩ := hx_.2.1; have z3_ : wl b_ n_ T_ o_ w0_ := (by rcases z2_ with z_ | z_; (exact absurd z_.1 (by decide)); exact z_.2); have z4_ := (wl_len z3_).1; have z5_ := (o_lim hok_.2.1.1 hok_.2.1.2.1).1; have z6_ := z1_.1; have z7_ : o_.length ≤ 365 := z5_; omega
  refine sm_T_go 1 (c1 := (1, [some (.inr (.inr (some (13, 0)))), some (.inl a_), none], [.inr (.inr (some (13, 0)))], S0_)) rfl ?_
  refine sm_T_cal (d1 := 1) (Q1 := vq_310 b_ n_ T_ (.inr p_) mo_ S0_) rfl rfl (by decide) (vc_310 b_ n_ T_ (.inr p_) mo_ S0_ hI_ (by exact ht_) (by exact hx_.1) (by exact ⟨hx_.2.2.2.2, by omega⟩)) (fun u_ Sx1_ px4_ => ?_)
  obtain ⟨rfl, vx6_, rfl, px4_⟩ := px4_
  have e1_ := px4_.2 p_ rfl
  have r1_ := px4_.1
  refine sm_T_b0 (a := 0) (z := 18) rfl (fun cx7_ => ?_) (fun cx7_ => ?_)
  · have cx7_ : vx6_ = 0 := of_decide_eq_true cx7_
    have l0_ : ¬ 0 < p_lv (mdo mo_) (lx_kd b_ n_ p_) := fun z_ => by have := e1_.1.mpr z_; omega
    refine sm_T_go 9 (c1 := (44, [some (.inr (.inr (some (13, 0)))), some (.inl a_), some (.inl 0)], [.inl 6, .inr (.inr (some (13, 0)))], S0_)) rfl ?_
    refine sm_T_cal (d1 := 2) (Q1 := vq_315 6 b_ n_ T_ mo_ p_ (.inr (o_, g_, c_)) S0_) rfl rfl (by decide) (vc_315 6 b_ n_ T_ mo_ p_ (.inr (o_, g_, c_)) S0_ hI_ (by exact ht_) (by exact ⟨hx_, hok_.2.1⟩) (by omega) (by exact hmo_)) (fun u_ Sx8_ px11_ => ?_)
    obtain ⟨rfl, hIx9_, hFx10_, px11_⟩ := px11_
    have hFx12_ : ai_fr (sx_W vw_320) S0_ Sx8_ := ai_fr_tr hF_ (fr_le hFx10_ rfl)
    have wa44_ := px11_.2
    obtain ⟨y4_, hy4_, r44_⟩ := ry_ob px11_.1
    obtain ⟨w44_, ws44_, wl44_⟩ := ry_ws r44_ hIx9_
    have g44_ := ry_rg r44_
    have s44_ := ry_s r44_
    have m44_ := (ry_mo r44_).1
    have t44_ := rtab_fr ht_ hFx10_ rfl rfl rfl rfl rfl
    have at44_ := hFx10_.1 13 0 9 rfl
    have nb44_ : Sx8_.2.2.1 121 0 (Sx8_.1 13 0 9).toNat = S0_.2.2.1 121 0 (S0_.1 13 0 9).toNat := by rw [fr_arr hFx10_ rfl, at44_]
    have op44_ := hFx10_.1 13 0 33 rfl
    have wl4_ := ws44_.1
    first | (have hst_ : p_st b_ n_ (mdo mo_) (p_pm b_ n_ (mdo mo_) A_ M_ K_ f_) (1, false, p_, o_, g_, c_) = pb y4_ (p_B1 b_ n_ (mdo mo_) p_ (p_lv (mdo mo_) (lx_kd b_ n_ p_))) := by rw [pB_l l1_, if_pos (by omega), hy4_]; rfl) | (have hst_ : p_st b_ n_ (mdo mo_) (p_pm b_ n_ (mdo mo_) A_ M_ K_ f_) (1, false, p_, o_, g_, c_) = pb y4_ (p_B1 b_ n_ (mdo mo_) p_ (p_lv (mdo mo_) (lx_kd b_ n_ p_))) := by rw [pB_l l1_, if_neg (by omega), hy4_, l16_]; rfl) | (have hst2_ : p_st b_ n_ (mdo mo_) (p_pm b_ n_ (mdo mo_) A_ M_ K_ f_) (1, false, p_, o_, g_, c_) = pb y4_ (p_B2 b_ n_ (mdo mo_) p_) := by rw [pB_n l0_, hy4_]; show _ = pb (p_se (mdo mo_) 6 o_ g_ c_) _; rw [p_se_st (by have z9_ : -4 ≤ o_tp o_ ∧ o_tp o_ ≤ 5 := o_tp5 hok_.2.1.1; omega)]; rfl)
    refine sm_T_go 2 (c1 := (89, [some (.inr (.inr (some (13, 0)))), some (.inl a_), some (.inl 0)], [], Sx8_)) rfl ?_
    refine sm_T_wk [some (.inr (.inr (some (13, 0)))), some (.inl a_), none] (by exact ⟨rfl, rfl, trivial⟩) ?_
    refine (vl_320 a_ b_ n_ T_ mo_ p_ o_ g_ c_ A_ M_ K_ f_ S0_ ha_ ht_ hx_ hok_ hmo_ _).1  Sx8_ hIx9_ hFx12_ ⟨?_, trivial⟩ (Nat.lt_succ_self _)
    · first | (exact ⟨y4_, r44_, hst2_⟩) | (exfalso; omega) | (exact ⟨y4_, r44_, by rw [hst_]; exact b1_2 (fun s_ hs_ => ⟨by omega, (wl_tp (wl44_ s_ hs_) (s44_ s_ hs_).2.2.1).2.2.1.mp (by omega)⟩)⟩)
  · have cx7_ : ¬ (vx6_ = 0) := of_decide_eq_false cx7_
    have l1_ : 0 < p_lv (mdo mo_) (lx_kd b_ n_ p_) := e1_.1.mp (by omega)
    have l2_ := e1_.2 (by omega)
    have l3_ := lv_all l1_
    have bx13_ : 0 ≤ S0_.1 13 0 9 ∧ S0_.1 13 0 9 ≤ 1280 := hI_.1 13 0 9 rfl
    refine sm_T_go 4 (c1 := (15, [some (.inr (.inr (some (13, 0)))), some (.inl a_), none], [.inl (S0_.1 13 0 9), .inr (.inr (some (121, 0)))], S0_)) rfl ?_
    refine sm_T_iald (n := 65537) rfl rfl (by omega) (by omega) ?_
    have bx14_ : (-2147483648) ≤ S0_.2.2.1 121 0 (S0_.1 13 0 9).toNat ∧ S0_.2.2.1 121 0 (S0_.1 13 0 9).toNat ≤ 2147483647 := hI_.2 121 0 _
    refine sm_T_cal (d1 := 0) (Q1 := vq_309 (S0_.2.2.1 121 0 (S0_.1 13 0 9).toNat) S0_) rfl rfl (by decide) (vc_309 (S0_.2.2.1 121 0 (S0_.1 13 0 9).toNat) S0_ hI_ ) (fun u_ Sx15_ px18_ => ?_)
    obtain ⟨rfl, vx20_, rfl, px18_⟩ := px18_
    have l16_ : vx20_ = p_lv (mdo mo_) (lx_kd b_ n_ p_) := by rw [px18_, l2_.2.2, l2_.2.1]
    have n16_ := l2_.2.1
    refine sm_T_go 5 (c1 := (27, [some (.inr (.inr (some (13, 0)))), some (.inl a_), some (.inl vx20_)], [.inl 4, .inl vx20_, .inr (.inr (some (13, 0)))], S0_)) rfl ?_
    refine sm_T_br (a := 1) (z := 7) rfl (fun cx21_ => ?_) (fun cx21_ => ?_)
    · have cx21_ : vx20_ ≠ 4 := of_decide_eq_true cx21_
      refine sm_T_go 1 (c1 := (35, [some (.inr (.inr (some (13, 0)))), some (.inl a_), some (.inl vx20_)], [.inl vx20_, .inr (.inr (some (13, 0)))], S0_)) rfl ?_
      refine sm_T_b0 (a := 5) (z := 7) rfl (fun cx22_ => ?_) (fun cx22_ => ?_)
      · have cx22_ : vx20_ ≤ 0 := of_decide_eq_true cx22_
        exfalso; omega
      · have cx22_ : ¬ (vx20_ ≤ 0) := of_decide_eq_false cx22_
        refine sm_T_go 2 (c1 := (44, [some (.inr (.inr (some (13, 0)))), some (.inl a_), some (.inl vx20_)], [.inl vx20_, .inr (.inr (some (13, 0)))], S0_)) rfl ?_
        refine sm_T_cal (d1 := 2) (Q1 := vq_315 vx20_ b_ n_ T_ mo_ p_ (.inr (o_, g_, c_)) S0_) rfl rfl (by decide) (vc_315 vx20_ b_ n_ T_ mo_ p_ (.inr (o_, g_, c_)) S0_ hI_ (by exact ht_) (by exact ⟨hx_, hok_.2.1⟩) (by omega) (by exact hmo_)) (fun u_ Sx23_ px26_ => ?_)
        obtain ⟨rfl, hIx24_, hFx25_, px26_⟩ := px26_
        have hFx27_ : ai_fr (sx_W vw_320) S0_ Sx23_ := ai_fr_tr hF_ (fr_le hFx25_ rfl)
        have ex28_ : Sx23_.1 13 0 9 = S0_.1 13 0 9 := hFx25_.1 13 0 9 rfl
        have wa44_ := px26_.2
        obtain ⟨y4_, hy4_, r44_⟩ := ry_ob px26_.1
        obtain ⟨w44_, ws44_, wl44_⟩ := ry_ws r44_ hIx24_
        have g44_ := ry_rg r44_
        have s44_ := ry_s r44_
        have m44_ := (ry_mo r44_).1
        have t44_ := rtab_fr ht_ hFx25_ rfl rfl rfl rfl rfl
        have at44_ := hFx25_.1 13 0 9 rfl
        have nb44_ : Sx23_.2.2.1 121 0 (Sx23_.1 13 0 9).toNat = S0_.2.2.1 121 0 (S0_.1 13 0 9).toNat := by rw [fr_arr hFx25_ rfl, at44_]
        have op44_ := hFx25_.1 13 0 33 rfl
        have wl4_ := ws44_.1
        first | (have hst_ : p_st b_ n_ (mdo mo_) (p_pm b_ n_ (mdo mo_) A_ M_ K_ f_) (1, false, p_, o_, g_, c_) = pb y4_ (p_B1 b_ n_ (mdo mo_) p_ (p_lv (mdo mo_) (lx_kd b_ n_ p_))) := by rw [pB_l l1_, if_pos (by omega), hy4_]; rfl) | (have hst_ : p_st b_ n_ (mdo mo_) (p_pm b_ n_ (mdo mo_) A_ M_ K_ f_) (1, false, p_, o_, g_, c_) = pb y4_ (p_B1 b_ n_ (mdo mo_) p_ (p_lv (mdo mo_) (lx_kd b_ n_ p_))) := by rw [pB_l l1_, if_neg (by omega), hy4_, l16_]; rfl) | (have hst2_ : p_st b_ n_ (mdo mo_) (p_pm b_ n_ (mdo mo_) A_ M_ K_ f_) (1, false, p_, o_, g_, c_) = pb y4_ (p_B2 b_ n_ (mdo mo_) p_) := by rw [pB_n l0_, hy4_]; show _ = pb (p_se (mdo mo_) 6 o_ g_ c_) _; rw [p_se_st (by have z9_ : -4 ≤ o_tp o_ ∧ o_tp o_ ≤ 5 := o_tp5 hok_.2.1.1; omega)]; rfl)
        refine sm_T_go 1 (c1 := (48, [some (.inr (.inr (some (13, 0)))), some (.inl a_), some (.inl vx20_)], [.inl vx20_], Sx23_)) rfl ?_
        refine sm_T_b0 (a := 5) (z := 41) rfl (fun cx29_ => ?_) (fun cx29_ => ?_)
        · have cx29_ : vx20_ ≤ 0 := of_decide_eq_true cx29_
          exfalso; omega
        · have cx29_ : ¬ (vx20_ ≤ 0) := of_decide_eq_false cx29_
          refine sm_T_go 2 (c1 := (53, [some (.inr (.inr (some (13, 0)))), some (.inl a_), some (.inl vx20_)], [.inl 4, .inl vx20_], Sx23_)) rfl ?_
          refine sm_T_br (a := 1) (z := 13) rfl (fun cx30_ => ?_) (fun cx30_ => ?_)
          · have cx30_ : vx20_ ≠ 4 := of_decide_eq_true cx30_
            have bx31_ : 0 ≤ Sx23_.1 13 0 9 ∧ Sx23_.1 13 0 9 ≤ 1280 := hIx24_.1 13 0 9 rfl
            refine sm_T_go 5 (c1 := (75, [some (.inr (.inr (some (13, 0)))), some (.inl a_), some (.inl vx20_)], [.inl (Sx23_.1 13 0 9), .inr (.inr (some (121, 0))), .inr (.inr (some (13, 0)))], Sx23_)) rfl ?_
            refine sm_T_iald (n := 65537) rfl rfl (by omega) (by omega) ?_
            have bx32_ : (-2147483648) ≤ Sx23_.2.2.1 121 0 (Sx23_.1 13 0 9).toNat ∧ Sx23_.2.2.1 121 0 (Sx23_.1 13 0 9).toNat ≤ 2147483647 := hIx24_.2 121 0 _
            refine sm_T_go 2 (c1 := (80, [some (.inr (.inr (some (13, 0)))), some (.inl a_), some (.inl vx20_)], [.inl (Sx23_.1 13 0 9), .inl (Sx23_.2.2.1 121 0 (Sx23_.1 13 0 9).toNat), .inr (.inr (some (13, 0)))], Sx23_)) rfl ?_
            refine sm_T_cal (d1 := 0) (Q1 := vq_311 (Sx23_.2.2.1 121 0 (Sx23_.1 13 0 9).toNat) (Sx23_.1 13 0 9) w44_ Sx23_) rfl rfl (by decide) (vc_311 (Sx23_.2.2.1 121 0 (Sx23_.1 13 0 9).toNat) (Sx23_.1 13 0 9) w44_ Sx23_ hIx24_ (by exact ws44_) (by omega) (by omega) (by omega)) (fun u_ Sx33_ px36_ => ?_)
            obtain ⟨rfl, hIx34_, hFx35_, px36_⟩ := px36_
            have hFx37_ : ai_fr (sx_W vw_320) S0_ Sx33_ := ai_fr_tr hFx27_ (fr_le hFx35_ rfl)
            have ex38_ : Sx33_.1 13 0 9 = Sx23_.1 13 0 9 := hFx35_.1 13 0 9 rfl
            have ws80_ := px36_
            have g80_ := rg_fr g44_ hFx35_ rfl rfl rfl
            have t80_ := rtab_fr t44_ hFx35_ rfl rfl rfl rfl rfl
            have m80_ := (hFx35_.1 13 0 27 rfl).trans m44_
            have s80_ : ∀ s_, y4_ = .inr s_ → wl b_ n_ T_ s_.1 w44_ ∧ Sx33_.1 13 0 33 = (o_mk s_.1 : Int) ∧ vs mo_ s_.2.1 Sx33_ := fun s_ hs_ => ⟨wl44_ s_ hs_, (hFx35_.1 13 0 33 rfl).trans (s44_ s_ hs_).1, vs_fr (s44_ s_ hs_).2.1 hFx35_ rfl rfl rfl⟩
            rw [nb44_, at44_, n16_, hi1_] at ws80_
            refine sm_T_go 1 (c1 := (84, [some (.inr (.inr (some (13, 0)))), some (.inl a_), some (.inl vx20_)], [.inr (.inr (some (13, 0)))], Sx33_)) rfl ?_
            refine sm_T_cal (d1 := 2) (Q1 := vq_297 b_ n_ T_ (pb y4_ fun _ => .inr p_) Sx33_) rfl rfl (by decide) (vc_297 b_ n_ T_ (pb y4_ fun _ => .inr p_) Sx33_ hIx34_ (by exact t80_) (by exact g80_) (by (intro q_ e_; obtain ⟨a9_, z1_, z2_⟩ := pb_inr e_; cases z2_; omega))) (fun u_ Sx39_ px42_ => ?_)
            obtain ⟨rfl, hIx40_, hFx41_, px42_⟩ := px42_
            have hFx43_ : ai_fr (sx_W vw_320) S0_ Sx39_ := ai_fr_tr hFx37_ (fr_le hFx41_ rfl)
            have g84_ := px42_.1
            have ws84_ := ws_fr ws80_ hFx41_ rfl rfl rfl
            have wl84_ := ws84_.1
            simp only [List.length_cons] at wl84_
            have m84_ := (hFx41_.1 13 0 27 rfl).trans m80_
            have s84_ : ∀ s_, y4_ = .inr s_ → wl b_ n_ T_ s_.1 w44_ ∧ Sx39_.1 13 0 33 = (o_mk s_.1 : Int) ∧ vs mo_ s_.2.1 Sx39_ := fun s_ hs_ => ⟨(s80_ s_ hs_).1, (hFx41_.1 13 0 33 rfl).trans (s80_ s_ hs_).2.1, vs_fr (s80_ s_ hs_).2.2 hFx41_ rfl rfl rfl⟩
            refine sm_T_go 1 (c1 := (88, [some (.inr (.inr (some (13, 0)))), some (.inl a_), some (.inl vx20_)], [.inl 0], Sx39_)) rfl ?_
            refine sm_T_ri rfl ⟨_, _, rfl, _, rfl, hIx40_, hFx43_, ?_⟩
            first | (exfalso; omega) | (rw [hst_, b1_h l1_ (fun s_ hs_ => by first | (left; omega) | (right; intro z_; have z2_ := (wl_tp (wl44_ s_ hs_) (s44_ s_ hs_).2.2.1).2.2.1.mpr z_; omega))]; exact rq_h ⟨l1_, l3_.1⟩ (rp_rtp ht_ hi2_ (by omega)) s84_ ws84_ m84_ (by omega) g84_)
          · have cx30_ : ¬ (vx20_ ≠ 4) := of_decide_eq_false cx30_
            refine sm_T_go 1 (c1 := (57, [some (.inr (.inr (some (13, 0)))), some (.inl a_), some (.inl vx20_)], [.inr (.inr (some (13, 0)))], Sx23_)) rfl ?_
            refine sm_T_cal (d1 := 0) (Q1 := vq_312 w44_ Sx23_) rfl rfl (by decide) (vc_312 w44_ Sx23_ hIx24_ (by exact ws44_)) (fun u_ Sx44_ px47_ => ?_)
            obtain ⟨rfl, vx49_, rfl, px47_⟩ := px47_
            have e57_ := px47_
            refine sm_T_go 1 (c1 := (63, [some (.inr (.inr (some (13, 0)))), some (.inl a_), some (.inl vx20_)], [.inl 257, .inl vx49_], Sx23_)) rfl ?_
            refine sm_T_br (a := 0) (z := 26) rfl (fun cx50_ => ?_) (fun cx50_ => ?_)
            · have cx50_ : vx49_ = 257 := of_decide_eq_true cx50_
              refine sm_T_go 0 (c1 := (89, [some (.inr (.inr (some (13, 0)))), some (.inl a_), some (.inl vx20_)], [], Sx23_)) rfl ?_
              refine sm_T_wk [some (.inr (.inr (some (13, 0)))), some (.inl a_), none] (by exact ⟨rfl, rfl, trivial⟩) ?_
              refine (vl_320 a_ b_ n_ T_ mo_ p_ o_ g_ c_ A_ M_ K_ f_ S0_ ha_ ht_ hx_ hok_ hmo_ _).1  Sx23_ hIx24_ hFx27_ ⟨?_, trivial⟩ (Nat.lt_succ_self _)
              · first | (exact ⟨y4_, r44_, hst2_⟩) | (exfalso; omega) | (exact ⟨y4_, r44_, by rw [hst_]; exact b1_2 (fun s_ hs_ => ⟨by omega, (wl_tp (wl44_ s_ hs_) (s44_ s_ hs_).2.2.1).2.2.1.mp (by omega)⟩)⟩)
            · have cx50_ : ¬ (vx49_ = 257) := of_decide_eq_false cx50_
              have bx51_ : 0 ≤ Sx23_.1 13 0 9 ∧ Sx23_.1 13 0 9 ≤ 1280 := hIx24_.1 13 0 9 rfl
              refine sm_T_go 5 (c1 := (75, [some (.inr (.inr (some (13, 0)))), some (.inl a_), some (.inl vx20_)], [.inl (Sx23_.1 13 0 9), .inr (.inr (some (121, 0))), .inr (.inr (some (13, 0)))], Sx23_)) rfl ?_
              refine sm_T_iald (n := 65537) rfl rfl (by omega) (by omega) ?_
              have bx52_ : (-2147483648) ≤ Sx23_.2.2.1 121 0 (Sx23_.1 13 0 9).toNat ∧ Sx23_.2.2.1 121 0 (Sx23_.1 13 0 9).toNat ≤ 2147483647 := hIx24_.2 121 0 _
              refine sm_T_go 2 (c1 := (80, [some (.inr (.inr (some (13, 0)))), some (.inl a_), some (.inl vx20_)], [.inl (Sx23_.1 13 0 9), .inl (Sx23_.2.2.1 121 0 (Sx23_.1 13 0 9).toNat), .inr (.inr (some (13, 0)))], Sx23_)) rfl ?_
              refine sm_T_cal (d1 := 0) (Q1 := vq_311 (Sx23_.2.2.1 121 0 (Sx23_.1 13 0 9).toNat) (Sx23_.1 13 0 9) w44_ Sx23_) rfl rfl (by decide) (vc_311 (Sx23_.2.2.1 121 0 (Sx23_.1 13 0 9).toNat) (Sx23_.1 13 0 9) w44_ Sx23_ hIx24_ (by exact ws44_) (by omega) (by omega) (by omega)) (fun u_ Sx53_ px56_ => ?_)
              obtain ⟨rfl, hIx54_, hFx55_, px56_⟩ := px56_
              have hFx57_ : ai_fr (sx_W vw_320) S0_ Sx53_ := ai_fr_tr hFx27_ (fr_le hFx55_ rfl)
              have ex58_ : Sx53_.1 13 0 9 = Sx23_.1 13 0 9 := hFx55_.1 13 0 9 rfl
              have ws80_ := px56_
              have g80_ := rg_fr g44_ hFx55_ rfl rfl rfl
              have t80_ := rtab_fr t44_ hFx55_ rfl rfl rfl rfl rfl
              have m80_ := (hFx55_.1 13 0 27 rfl).trans m44_
              have s80_ : ∀ s_, y4_ = .inr s_ → wl b_ n_ T_ s_.1 w44_ ∧ Sx53_.1 13 0 33 = (o_mk s_.1 : Int) ∧ vs mo_ s_.2.1 Sx53_ := fun s_ hs_ => ⟨wl44_ s_ hs_, (hFx55_.1 13 0 33 rfl).trans (s44_ s_ hs_).1, vs_fr (s44_ s_ hs_).2.1 hFx55_ rfl rfl rfl⟩
              rw [nb44_, at44_, n16_, hi1_] at ws80_
              refine sm_T_go 1 (c1 := (84, [some (.inr (.inr (some (13, 0)))), some (.inl a_), some (.inl vx20_)], [.inr (.inr (some (13, 0)))], Sx53_)) rfl ?_
              refine sm_T_cal (d1 := 2) (Q1 := vq_297 b_ n_ T_ (pb y4_ fun _ => .inr p_) Sx53_) rfl rfl (by decide) (vc_297 b_ n_ T_ (pb y4_ fun _ => .inr p_) Sx53_ hIx54_ (by exact t80_) (by exact g80_) (by (intro q_ e_; obtain ⟨a9_, z1_, z2_⟩ := pb_inr e_; cases z2_; omega))) (fun u_ Sx59_ px62_ => ?_)
              obtain ⟨rfl, hIx60_, hFx61_, px62_⟩ := px62_
              have hFx63_ : ai_fr (sx_W vw_320) S0_ Sx59_ := ai_fr_tr hFx57_ (fr_le hFx61_ rfl)
              have g84_ := px62_.1
              have ws84_ := ws_fr ws80_ hFx61_ rfl rfl rfl
              have wl84_ := ws84_.1
              simp only [List.length_cons] at wl84_
              have m84_ := (hFx61_.1 13 0 27 rfl).trans m80_
              have s84_ : ∀ s_, y4_ = .inr s_ → wl b_ n_ T_ s_.1 w44_ ∧ Sx59_.1 13 0 33 = (o_mk s_.1 : Int) ∧ vs mo_ s_.2.1 Sx59_ := fun s_ hs_ => ⟨(s80_ s_ hs_).1, (hFx61_.1 13 0 33 rfl).trans (s80_ s_ hs_).2.1, vs_fr (s80_ s_ hs_).2.2 hFx61_ rfl rfl rfl⟩
              refine sm_T_go 1 (c1 := (88, [some (.inr (.inr (some (13, 0)))), some (.inl a_), some (.inl vx20_)], [.inl 0], Sx59_)) rfl ?_
              refine sm_T_ri rfl ⟨_, _, rfl, _, rfl, hIx60_, hFx63_, ?_⟩
              first | (exfalso; omega) | (rw [hst_, b1_h l1_ (fun s_ hs_ => by first | (left; omega) | (right; intro z_; have z2_ := (wl_tp (wl44_ s_ hs_) (s44_ s_ hs_).2.2.1).2.2.1.mpr z_; omega))]; exact rq_h ⟨l1_, l3_.1⟩ (rp_rtp ht_ hi2_ (by omega)) s84_ ws84_ m84_ (by omega) g84_)
    · have cx21_ : ¬ (vx20_ ≠ 4) := of_decide_eq_false cx21_
      refine sm_T_go 2 (c1 := (44, [some (.inr (.inr (some (13, 0)))), some (.inl a_), some (.inl vx20_)], [.inl 5, .inr (.inr (some (13, 0)))], S0_)) rfl ?_
      refine sm_T_cal (d1 := 2) (Q1 := vq_315 5 b_ n_ T_ mo_ p_ (.inr (o_, g_, c_)) S0_) rfl rfl (by decide) (vc_315 5 b_ n_ T_ mo_ p_ (.inr (o_, g_, c_)) S0_ hI_ (by exact ht_) (by exact ⟨hx_, hok_.2.1⟩) (by omega) (by exact hmo_)) (fun u_ Sx64_ px67_ => ?_)
      obtain ⟨rfl, hIx65_, hFx66_, px67_⟩ := px67_
      have hFx68_ : ai_fr (sx_W vw_320) S0_ Sx64_ := ai_fr_tr hF_ (fr_le hFx66_ rfl)
      have ex69_ : Sx64_.1 13 0 9 = S0_.1 13 0 9 := hFx66_.1 13 0 9 rfl
      have wa44_ := px67_.2
      obtain ⟨y4_, hy4_, r44_⟩ := ry_ob px67_.1
      obtain ⟨w44_, ws44_, wl44_⟩ := ry_ws r44_ hIx65_
      have g44_ := ry_rg r44_
      have s44_ := ry_s r44_
      have m44_ := (ry_mo r44_).1
      have t44_ := rtab_fr ht_ hFx66_ rfl rfl rfl rfl rfl
      have at44_ := hFx66_.1 13 0 9 rfl
      have nb44_ : Sx64_.2.2.1 121 0 (Sx64_.1 13 0 9).toNat = S0_.2.2.1 121 0 (S0_.1 13 0 9).toNat := by rw [fr_arr hFx66_ rfl, at44_]
      have op44_ := hFx66_.1 13 0 33 rfl
      have wl4_ := ws44_.1
      first | (have hst_ : p_st b_ n_ (mdo mo_) (p_pm b_ n_ (mdo mo_) A_ M_ K_ f_) (1, false, p_, o_, g_, c_) = pb y4_ (p_B1 b_ n_ (mdo mo_) p_ (p_lv (mdo mo_) (lx_kd b_ n_ p_))) := by rw [pB_l l1_, if_pos (by omega), hy4_]; rfl) | (have hst_ : p_st b_ n_ (mdo mo_) (p_pm b_ n_ (mdo mo_) A_ M_ K_ f_) (1, false, p_, o_, g_, c_) = pb y4_ (p_B1 b_ n_ (mdo mo_) p_ (p_lv (mdo mo_) (lx_kd b_ n_ p_))) := by rw [pB_l l1_, if_neg (by omega), hy4_, l16_]; rfl) | (have hst2_ : p_st b_ n_ (mdo mo_) (p_pm b_ n_ (mdo mo_) A_ M_ K_ f_) (1, false, p_, o_, g_, c_) = pb y4_ (p_B2 b_ n_ (mdo mo_) p_) := by rw [pB_n l0_, hy4_]; show _ = pb (p_se (mdo mo_) 6 o_ g_ c_) _; rw [p_se_st (by have z9_ : -4 ≤ o_tp o_ ∧ o_tp o_ ≤ 5 := o_tp5 hok_.2.1.1; omega)]; rfl)
      refine sm_T_go 1 (c1 := (48, [some (.inr (.inr (some (13, 0)))), some (.inl a_), some (.inl vx20_)], [.inl vx20_], Sx64_)) rfl ?_
      refine sm_T_b0 (a := 5) (z := 41) rfl (fun cx70_ => ?_) (fun cx70_ => ?_)
      · have cx70_ : vx20_ ≤ 0 := of_decide_eq_true cx70_
        exfalso; omega
      · have cx70_ : ¬ (vx20_ ≤ 0) := of_decide_eq_false cx70_
        refine sm_T_go 2 (c1 := (53, [some (.inr (.inr (some (13, 0)))), some (.inl a_), some (.inl vx20_)], [.inl 4, .inl vx20_], Sx64_)) rfl ?_
        refine sm_T_br (a := 1) (z := 13) rfl (fun cx71_ => ?_) (fun cx71_ => ?_)
        · have cx71_ : vx20_ ≠ 4 := of_decide_eq_true cx71_
          exfalso; omega
        · have cx71_ : ¬ (vx20_ ≠ 4) := of_decide_eq_false cx71_
          refine sm_T_go 1 (c1 := (57, [some (.inr (.inr (some (13, 0)))), some (.inl a_), some (.inl vx20_)], [.inr (.inr (some (13, 0)))], Sx64_)) rfl ?_
          refine sm_T_cal (d1 := 0) (Q1 := vq_312 w44_ Sx64_) rfl rfl (by decide) (vc_312 w44_ Sx64_ hIx65_ (by exact ws44_)) (fun u_ Sx72_ px75_ => ?_)
          obtain ⟨rfl, vx77_, rfl, px75_⟩ := px75_
          have e57_ := px75_
          refine sm_T_go 1 (c1 := (63, [some (.inr (.inr (some (13, 0)))), some (.inl a_), some (.inl vx20_)], [.inl 257, .inl vx77_], Sx64_)) rfl ?_
          refine sm_T_br (a := 0) (z := 26) rfl (fun cx78_ => ?_) (fun cx78_ => ?_)
          · have cx78_ : vx77_ = 257 := of_decide_eq_true cx78_
            refine sm_T_go 0 (c1 := (89, [some (.inr (.inr (some (13, 0)))), some (.inl a_), some (.inl vx20_)], [], Sx64_)) rfl ?_
            refine sm_T_wk [some (.inr (.inr (some (13, 0)))), some (.inl a_), none] (by exact ⟨rfl, rfl, trivial⟩) ?_
            refine (vl_320 a_ b_ n_ T_ mo_ p_ o_ g_ c_ A_ M_ K_ f_ S0_ ha_ ht_ hx_ hok_ hmo_ _).1  Sx64_ hIx65_ hFx68_ ⟨?_, trivial⟩ (Nat.lt_succ_self _)
            · first | (exact ⟨y4_, r44_, hst2_⟩) | (exfalso; omega) | (exact ⟨y4_, r44_, by rw [hst_]; exact b1_2 (fun s_ hs_ => ⟨by omega, (wl_tp (wl44_ s_ hs_) (s44_ s_ hs_).2.2.1).2.2.1.mp (by omega)⟩)⟩)
          · have cx78_ : ¬ (vx77_ = 257) := of_decide_eq_false cx78_
            have bx79_ : 0 ≤ Sx64_.1 13 0 9 ∧ Sx64_.1 13 0 9 ≤ 1280 := hIx65_.1 13 0 9 rfl
            refine sm_T_go 5 (c1 := (75, [some (.inr (.inr (some (13, 0)))), some (.inl a_), some (.inl vx20_)], [.inl (Sx64_.1 13 0 9), .inr (.inr (some (121, 0))), .inr (.inr (some (13, 0)))], Sx64_)) rfl ?_
            refine sm_T_iald (n := 65537) rfl rfl (by omega) (by omega) ?_
            have bx80_ : (-2147483648) ≤ Sx64_.2.2.1 121 0 (Sx64_.1 13 0 9).toNat ∧ Sx64_.2.2.1 121 0 (Sx64_.1 13 0 9).toNat ≤ 2147483647 := hIx65_.2 121 0 _
            refine sm_T_go 2 (c1 := (80, [some (.inr (.inr (some (13, 0)))), some (.inl a_), some (.inl vx20_)], [.inl (Sx64_.1 13 0 9), .inl (Sx64_.2.2.1 121 0 (Sx64_.1 13 0 9).toNat), .inr (.inr (some (13, 0)))], Sx64_)) rfl ?_
            refine sm_T_cal (d1 := 0) (Q1 := vq_311 (Sx64_.2.2.1 121 0 (Sx64_.1 13 0 9).toNat) (Sx64_.1 13 0 9) w44_ Sx64_) rfl rfl (by decide) (vc_311 (Sx64_.2.2.1 121 0 (Sx64_.1 13 0 9).toNat) (Sx64_.1 13 0 9) w44_ Sx64_ hIx65_ (by exact ws44_) (by omega) (by omega) (by omega)) (fun u_ Sx81_ px84_ => ?_)
            obtain ⟨rfl, hIx82_, hFx83_, px84_⟩ := px84_
            have hFx85_ : ai_fr (sx_W vw_320) S0_ Sx81_ := ai_fr_tr hFx68_ (fr_le hFx83_ rfl)
            have ex86_ : Sx81_.1 13 0 9 = Sx64_.1 13 0 9 := hFx83_.1 13 0 9 rfl
            have ws80_ := px84_
            have g80_ := rg_fr g44_ hFx83_ rfl rfl rfl
            have t80_ := rtab_fr t44_ hFx83_ rfl rfl rfl rfl rfl
            have m80_ := (hFx83_.1 13 0 27 rfl).trans m44_
            have s80_ : ∀ s_, y4_ = .inr s_ → wl b_ n_ T_ s_.1 w44_ ∧ Sx81_.1 13 0 33 = (o_mk s_.1 : Int) ∧ vs mo_ s_.2.1 Sx81_ := fun s_ hs_ => ⟨wl44_ s_ hs_, (hFx83_.1 13 0 33 rfl).trans (s44_ s_ hs_).1, vs_fr (s44_ s_ hs_).2.1 hFx83_ rfl rfl rfl⟩
            rw [nb44_, at44_, n16_, hi1_] at ws80_
            refine sm_T_go 1 (c1 := (84, [some (.inr (.inr (some (13, 0)))), some (.inl a_), some (.inl vx20_)], [.inr (.inr (some (13, 0)))], Sx81_)) rfl ?_
            refine sm_T_cal (d1 := 2) (Q1 := vq_297 b_ n_ T_ (pb y4_ fun _ => .inr p_) Sx81_) rfl rfl (by decide) (vc_297 b_ n_ T_ (pb y4_ fun _ => .inr p_) Sx81_ hIx82_ (by exact t80_) (by exact g80_) (by (intro q_ e_; obtain ⟨a9_, z1_, z2_⟩ := pb_inr e_; cases z2_; omega))) (fun u_ Sx87_ px90_ => ?_)
            obtain ⟨rfl, hIx88_, hFx89_, px90_⟩ := px90_
            have hFx91_ : ai_fr (sx_W vw_320) S0_ Sx87_ := ai_fr_tr hFx85_ (fr_le hFx89_ rfl)
            have g84_ := px90_.1
            have ws84_ := ws_fr ws80_ hFx89_ rfl rfl rfl
            have wl84_ := ws84_.1
            simp only [List.length_cons] at wl84_
            have m84_ := (hFx89_.1 13 0 27 rfl).trans m80_
            have s84_ : ∀ s_, y4_ = .inr s_ → wl b_ n_ T_ s_.1 w44_ ∧ Sx87_.1 13 0 33 = (o_mk s_.1 : Int) ∧ vs mo_ s_.2.1 Sx87_ := fun s_ hs_ => ⟨(s80_ s_ hs_).1, (hFx89_.1 13 0 33 rfl).trans (s80_ s_ hs_).2.1, vs_fr (s80_ s_ hs_).2.2 hFx89_ rfl rfl rfl⟩
            refine sm_T_go 1 (c1 := (88, [some (.inr (.inr (some (13, 0)))), some (.inl a_), some (.inl vx20_)], [.inl 0], Sx87_)) rfl ?_
            refine sm_T_ri rfl ⟨_, _, rfl, _, rfl, hIx88_, hFx91_, ?_⟩
            first | (exfalso; omega) | (rw [hst_, b1_h l1_ (fun s_ hs_ => by first | (left; omega) | (right; intro z_; have z2_ := (wl_tp (wl44_ s_ hs_) (s44_ s_ hs_).2.2.1).2.2.1.mpr z_; omega))]; exact rq_h ⟨l1_, l3_.1⟩ (rp_rtp ht_ hi2_ (by omega)) s84_ ws84_ m84_ (by omega) g84_)
