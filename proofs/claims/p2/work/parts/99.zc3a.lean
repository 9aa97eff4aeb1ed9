/-! the reference: applying, second pass; written by wip/p55/gen/vg -/

/-! the_ second pass: what is_ held -/
def o_wd : List (Int × Nat) → List Int → Prop
  | [], _ => True
  | x_ :: o_, h_ => if x_.1 = -3 then (match h_ with
      | c_ :: l_ => c_ = 1 ∧ o_wd o_ l_
      | [] => False) else if x_.1 = -4 then (match h_ with
      | _ :: c_ :: l_ => c_ = 1 ∧ o_wd o_ l_
      | _ => False) else if x_.1 < 0 then o_wd o_ h_ else (match h_ with
      | _ :: l_ => o_wd o_ l_
      | [] => False)
def xg (F_ I_ : Nat) (A_ : pA) (X_ : Nat → gQ → gE → Option (gQ × gE)) (m_ : Nat) (s0_ : gS) (h_ c_ : List Int) (S_ : sm_S) : Prop := ∃ G_ V_, ev F_ I_ A_ X_ m_ s0_ c_ = some ((G_, s0_.1.2), s0_.2.1, s0_.2.2.1, V_) ∧ V_.map (fun v_ => (v_.length : Int)) = h_ ∧ rgl F_ G_ S_ ∧ svl (G_.length ≤ 1001) (S_.2.2.1 139 0) (S_.2.2.1 138 0) V_
def rz (b_ : Nat → Int) (n_ T_ p_ F_ I_ : Nat) (A_ : pA) (X_ : Nat → gQ → gE → Option (gQ × gE)) (m_ : Nat) (s0_ : gS) (s_ : pO) (S_ : sm_S) : Prop := ry b_ n_ T_ 1 p_ (.inr s_) S_ ∧ xg F_ I_ A_ X_ m_ s0_ s_.2.1 s_.2.2 S_ ∧ o_wd s_.1 s_.2.1.tail
theorem mp_c {f_ : List Int → Int} {V_ : gV} {x_ : Int} {h_ : List Int} (e_ : V_.map f_ = x_ :: h_) : ∃ v_ W_, V_ = v_ :: W_ ∧ f_ v_ = x_ ∧ W_.map f_ = h_ := by
  cases V_ with
  | nil => cases e_
  | cons v_ W_ => rw [List.map_cons] at e_; cases e_; exact ⟨v_, W_, rfl, rfl, rfl⟩
theorem ap2_r {k_ x_ y_ : Int} {q_ : Nat} {o_ : List (Int × Nat)} {g_ c_ : List Int} {s_ : pO} (h_ : p_ap2 false k_ q_ o_ x_ y_ g_ c_ = .inr s_) : x_ = y_ ∧ s_ = (o_, (if k_ = 4 then 1 else x_) :: g_, k_ :: c_) := by
  unfold p_ap2 p_ap at h_
  rw [if_neg (by decide)] at h_
  by_cases e_ : x_ = y_
  · rw [if_pos e_] at h_
    exact ⟨e_, (Sum.inr.inj h_).symm⟩
  · rw [if_neg e_] at h_
    cases h_
theorem ch2_r {q_ : Nat} {o_ : List (Int × Nat)} {x_ y_ z_ : Int} {g_ c_ : List Int} {s_ : pO} (h_ : p_ch2 q_ o_ (x_ :: y_ :: z_ :: g_) c_ = .inr s_) : x_ = y_ ∧ s_ = (o_, y_ :: g_, 7 :: c_) := by
  unfold p_ch2 at h_
  by_cases e_ : y_ = x_
  · rw [show p_ch q_ (x_ :: y_ :: z_ :: g_) c_ = .inr (y_ :: g_, 7 :: c_) from if_pos e_] at h_
    exact ⟨e_.symm, (Sum.inr.inj h_).symm⟩
  · rw [show p_ch q_ (x_ :: y_ :: z_ :: g_) c_ = .inl (13, q_) from if_neg e_] at h_
    cases h_
theorem w_sg5 {k_ : Int} (h_ : 1 ≤ k_ ∧ k_ ≤ 5) : (w_sg k_ = 124 ∧ k_ = 1) ∨ (w_sg k_ = 94 ∧ k_ = 2) ∨ (w_sg k_ = 38 ∧ k_ = 3) ∨ (w_sg k_ = 257 ∧ k_ = 4) ∨ (w_sg k_ = 43 ∧ k_ = 5) := by
  have e_ : k_ = 1 ∨ k_ = 2 ∨ k_ = 3 ∨ k_ = 4 ∨ k_ = 5 := by omega
  rcases e_ with e_ | e_ | e_ | e_ | e_ <;> subst e_ <;> decide
theorem stk_cg0 {f_ g_ : Nat → Int} {l_ : List Int} (h_ : stk f_ l_) (e_ : ∀ j_, j_ < l_.length → g_ j_ = f_ j_) : stk g_ l_ := stk_cg e_ h_
theorem o_wd_b {k_ : Int} {q_ : Nat} {o_ : List (Int × Nat)} {x_ : Int} {g_ : List Int} (h_ : o_wd ((k_, q_) :: o_) (x_ :: g_)) (hk_ : 1 ≤ k_) : o_wd o_ g_ := by
  unfold o_wd at h_
  rw [if_neg (by show ¬ k_ = -3; omega), if_neg (by show ¬ k_ = -4; omega), if_neg (by show ¬ k_ < 0; omega)] at h_
  exact h_
theorem o_wd_4 {q_ : Nat} {o_ : List (Int × Nat)} {y_ z_ : Int} {g_ : List Int} (h_ : o_wd ((-4, q_) :: o_) (y_ :: z_ :: g_)) : z_ = 1 ∧ o_wd o_ g_ := by
  unfold o_wd at h_
  rw [if_neg (by show ¬ (-4 : Int) = -3; decide), if_pos rfl] at h_
  exact h_
theorem svl_stk {ok_ : Prop} {st_ wd_ : Nat → Int} : ∀ {V_ : gV}, svl ok_ st_ wd_ V_ → stk wd_ (V_.map fun v_ => (v_.length : Int))
  | [], _ => trivial
  | v_ :: l_, h_ => by
    refine ⟨?_, svl_stk h_.2.2.2⟩
    show wd_ (l_.map fun v_ => (v_.length : Int)).length = (v_.length : Int)
    rw [List.length_map]
    exact h_.1
theorem rz_mk {b_ : Nat → Int} {n_ T_ p_ F_ I_ m_ : Nat} {A_ : pA} {X_ : Nat → gQ → gE → Option (gQ × gE)} {s0_ : gS} {o_ : List (Int × Nat)} {g_ c_ : List Int} {w_ : List (Int × Int)} {G_ : pGr} {V_ : gV} {S_ : sm_S} (hg_ : rg b_ n_ T_ (.inr p_) S_) (hw_ : ws w_ S_) (hwl_ : wl b_ n_ T_ o_ w_) (ho_ : S_.1 13 0 33 = (o_mk o_ : Int)) (hv_ : S_.1 13 0 34 = (V_.length : Int)) (hm_ : S_.1 13 0 27 = 1) (hs_ : s_ok false 1 (o_, g_, c_)) (he_ : ev F_ I_ A_ X_ m_ s0_ c_ = some ((G_, s0_.1.2), s0_.2.1, s0_.2.2.1, V_)) (hl_ : V_.map (fun v_ => (v_.length : Int)) = g_) (hr_ : rgl F_ G_ S_) (hx_ : svl (G_.length ≤ 1001) (S_.2.2.1 139 0) (S_.2.2.1 138 0) V_) (hd_ : o_wd o_ g_.tail) : rz b_ n_ T_ p_ F_ I_ A_ X_ m_ s0_ (o_, g_, c_) S_ := by
  refine ⟨⟨⟨hg_, ⟨w_, hw_, Or.inr ⟨rfl, hwl_⟩⟩, ho_, ⟨?_, fun _ => ?_, fun z_ => absurd z_ (by decide)⟩, hm_⟩, hs_⟩, ⟨G_, V_, he_, hl_, hr_, hx_⟩, hd_⟩
  · rw [hv_, ← hl_, List.length_map]
  · rw [← hl_]
    exact svl_stk hx_
/-! M_.apply -/
def vw_313g : sx_Wl := ([(13, 32), (13, 34), (13, 37)], [138, 139, 140, 141, 142, 143], [])
def vq_313g (b_ : Nat → Int) (n_ : Nat) (T_ : Nat) (p_ : Nat) (F_ : Nat) (I_ : Nat) (A_ : pA) (X_ : Nat → gQ → gE → Option (gQ × gE)) (m_ : Nat) (s0_ : gS) (k_ : Int) (q_ : Nat) (o_ : List (Int × Nat)) (x_ : Int) (y_ : Int) (g_ : List Int) (c_ : List Int) (S0_ : sm_S) (u_ : Option sm_V) (S1_ : sm_S) : Prop := u_ = none ∧ gi S1_ ∧ ai_fr (sx_W vw_313g) S0_ S1_ ∧ (rz b_ n_ T_ p_ F_ I_ A_ X_ m_ s0_ (o_, (if k_ = 4 then 1 else x_) :: g_, k_ :: c_) S1_ ∧ (S1_.1 13 0 32) = (S0_.1 13 0 32) - 1)
set_option maxHeartbeats 1500000 in
set_option maxRecDepth 20000 in
theorem vc_313g {sc_ : Nat × (Nat → Int)} (b_ : Nat → Int) (n_ : Nat) (T_ : Nat) (p_ : Nat) (F_ : Nat) (I_ : Nat) (A_ : pA) (X_ : Nat → gQ → gE → Option (gQ × gE)) (m_ : Nat) (s0_ : gS) (k_ : Int) (q_ : Nat) (o_ : List (Int × Nat)) (x_ : Int) (y_ : Int) (g_ : List Int) (c_ : List Int) (S0_ : sm_S) (hI_ : gi S0_) (ht_ : rtab b_ n_ T_ S0_) (hz_ : rz b_ n_ T_ p_ F_ I_ A_ X_ m_ s0_ ((k_, q_) :: o_, y_ :: x_ :: g_, c_) S0_) (hk_ : 1 ≤ k_) (hxy_ : x_ = y_) : sm_T (mt_P sc_) 4 313 (0, [some (.inr (.inr (some (13, 0)))), none, none, none, none, none, none], [], S0_) (fun ro9_ => ∃ u_ S1_, ro9_ = (.inl u_, S1_, 0) ∧ vq_313g b_ n_ T_ p_ F_ I_ A_ X_ m_ s0_ k_ q_ o_ x_ y_ g_ c_ S0_ u_ S1_) := by
  have hF_ : ai_fr (sx_W vw_313g) S0_ S0_ := ai_fr_rf
  obtain ⟨⟨hg_, ⟨w0_, hw_, hwl_⟩, hop_, hv_, hmo1_⟩, hs_⟩ := id hz_.1
  have hwl_ : wl b_ n_ T_ ((k_, q_) :: o_) w0_ := by rcases hwl_ with z_ | z_; (exact absurd z_.1 (by decide)); (exact z_.2)
  obtain ⟨tq_, u0_, rfl, hq_, hwr_⟩ := hwl_
  have hT_ := ht_.2.1
  have hq1_ := rtp_at ht_ hq_
  obtain ⟨v1_, v2_, v3_⟩ := id hv_
  have w1_ := ws_tp hw_ (by rw [hw_.1, List.length_cons]; push_cast; omega)
  obtain ⟨y9_, u9_, w3_, w4_, w5_⟩ := w1_.2
  cases w3_
  have hwl1_ : S0_.1 13 0 32 = (u0_.length : Int) + 1 := by rw [hw_.1, List.length_cons]; push_cast; rfl
  have hf0_ := hg_.1
  have hol_ := o_lim hs_.1 hs_.2.1
  obtain ⟨Gr_, V0_, xe_, xm_, xr, xv_⟩ := id hz_.2.1
  obtain ⟨vy_, V1_, rfl, ly_, xm1_⟩ := mp_c xm_
  obtain ⟨vx_, V_, rfl, lx_, xm2_⟩ := mp_c xm1_
  have hwr1_ : wl b_ n_ T_ o_ u0_ := by rcases hwr_ with z_ | z_; (exact z_.2); (exact absurd z_.1 (by omega))
  clear hwr_
  have v4_ : S0_.1 13 0 34 = (g_.length : Int) + 2 := by rw [v1_]; simp only [List.length_cons]; push_cast; omega
  have Vl_ : V_.length = g_.length := by rw [← xm2_, List.length_map]
  have l1_ : (S0_.1 13 0 34 - 2).toNat = V_.length := by omega
  have l2_ : (S0_.1 13 0 34 - 1).toNat = (vx_ :: V_).length := by simp only [List.length_cons]; omega
  have e1_ : S0_.2.2.1 138 0 (S0_.1 13 0 34 - 2).toNat = (vx_.length : Int) := by rw [l1_]; exact xv_.2.2.2.1
  have e2_ : S0_.2.2.1 138 0 (S0_.1 13 0 34 - 1).toNat = (vy_.length : Int) := by rw [l2_]; exact xv_.1
  have wsg_ : S0_.2.2.1 136 0 (S0_.1 13 0 32 - 1).toNat = w_sg k_ := w1_.1
  have hul_ : u0_.length ≤ 731 := by have := wl_len hwr1_; have h9_ : ((k_, q_) :: o_).length ≤ 365 := hol_.1; simp only [List.length_cons] at h9_; omega
  have hgl_ : (y_ :: x_ :: g_).length = o_hl ((k_, q_) :: o_) + 1 := hs_.2.2.1
  have hgl2_ : o_hl ((k_, q_) :: o_) ≤ 425 := hol_.2
  simp only [List.length_cons] at hgl_
  have k5_ : k_ ≤ 5 := (o_ok_lt hs_.1 hk_).2
  have w5_ := w_sg5 (k_ := k_) ⟨hk_, k5_⟩
  have lxy_ : vx_.length = vy_.length := by omega
  have x8_ := xv_.2.2.2.2.1
  obtain ⟨Gn_, hGn_⟩ : ∃ z_, z_ = (g_op F_ k_ Gr_ vx_ vy_).2 := ⟨_, rfl⟩
  have ogl_ := g_op_le (F_ := F_) (k_ := k_) (x_ := vx_) (y_ := vy_) (G_ := Gr_)
  have oln_ := g_op_ln (F_ := F_) (k_ := k_) (x_ := vx_) (y_ := vy_) (G_ := Gr_) lxy_ x8_.1
  have evn_ := ev_op xe_ ⟨hk_, k5_⟩ lxy_ x8_.1
  have bx1_ : 0 ≤ S0_.1 13 0 32 ∧ S0_.1 13 0 32 ≤ 1023 := hI_.1 13 0 32 rfl
  refine sm_T_go 5 (c1 := (9, [some (.inr (.inr (some (13, 0)))), none, none, none, none, none, none], [.inl 1, .inl (S0_.1 13 0 32), .inr (.inr (some (136, 0)))], S0_)) rfl ?_
  refine sm_T_bin (w := (S0_.1 13 0 32) - 1) rfl (bi_sub (by omega) (by omega) (by omega)) ?_
  refine sm_T_iald (n := 1024) rfl rfl (by omega) (by omega) ?_
  have bx2_ : (-2147483648) ≤ S0_.2.2.1 136 0 ((S0_.1 13 0 32) - 1).toNat ∧ S0_.2.2.1 136 0 ((S0_.1 13 0 32) - 1).toNat ≤ 2147483647 := hI_.2 136 0 _
  refine sm_T_go 6 (c1 := (21, [some (.inr (.inr (some (13, 0)))), some (.inl (S0_.2.2.1 136 0 ((S0_.1 13 0 32) - 1).toNat)), none, none, none, none, none], [.inl 1, .inl (S0_.1 13 0 32), .inr (.inr (some (137, 0)))], S0_)) rfl ?_
  refine sm_T_bin (w := (S0_.1 13 0 32) - 1) rfl (bi_sub (by omega) (by omega) (by omega)) ?_
  refine sm_T_iald (n := 1024) rfl rfl (by omega) (by omega) ?_
  have bx3_ : 0 ≤ S0_.2.2.1 137 0 ((S0_.1 13 0 32) - 1).toNat ∧ S0_.2.2.1 137 0 ((S0_.1 13 0 32) - 1).toNat ≤ 1280 := hI_.2 137 0 _
  refine sm_T_go 5 (c1 := (30, [some (.inr (.inr (some (13, 0)))), some (.inl (S0_.2.2.1 136 0 ((S0_.1 13 0 32) - 1).toNat)), some (.inl (S0_.2.2.1 137 0 ((S0_.1 13 0 32) - 1).toNat)), none, none, none, none], [.inl 1, .inl (S0_.1 13 0 32), .inr (.inr (some (13, 0)))], S0_)) rfl ?_
  refine sm_T_bin (w := (S0_.1 13 0 32) - 1) rfl (bi_sub (by omega) (by omega) (by omega)) ?_
  have hIx4_ : gi (sm_pI S0_ 13 0 32 ((S0_.1 13 0 32) - 1)) := gi_pI hI_ (show 0 ≤ (S0_.1 13 0 32) - 1 ∧ (S0_.1 13 0 32) - 1 ≤ 1023 from ⟨by omega, by omega⟩)
  have hFx5_ : ai_fr (sx_W vw_313g) S0_ (sm_pI S0_ 13 0 32 ((S0_.1 13 0 32) - 1)) := ai_fr_tr hF_ (ai_fr_pI rfl)
  have bx6_ : 0 ≤ S0_.1 13 0 34 ∧ S0_.1 13 0 34 ≤ 1023 := hI_.1 13 0 34 rfl
  refine sm_T_go 4 (c1 := (39, [some (.inr (.inr (some (13, 0)))), some (.inl (S0_.2.2.1 136 0 ((S0_.1 13 0 32) - 1).toNat)), some (.inl (S0_.2.2.1 137 0 ((S0_.1 13 0 32) - 1).toNat)), none, none, none, none], [.inl 2, .inl (S0_.1 13 0 34)], sm_pI S0_ 13 0 32 ((S0_.1 13 0 32) - 1))) rfl ?_
  refine sm_T_bin (w := (S0_.1 13 0 34) - 2) rfl (bi_sub (by omega) (by omega) (by omega)) ?_
  refine sm_T_go 4 (c1 := (46, [some (.inr (.inr (some (13, 0)))), some (.inl (S0_.2.2.1 136 0 ((S0_.1 13 0 32) - 1).toNat)), some (.inl (S0_.2.2.1 137 0 ((S0_.1 13 0 32) - 1).toNat)), some (.inl ((S0_.1 13 0 34) - 2)), none, none, none], [.inl 1, .inl (S0_.1 13 0 34)], sm_pI S0_ 13 0 32 ((S0_.1 13 0 32) - 1))) rfl ?_
  refine sm_T_bin (w := (S0_.1 13 0 34) - 1) rfl (bi_sub (by omega) (by omega) (by omega)) ?_
  have bx7_ : 0 ≤ S0_.1 13 0 27 ∧ S0_.1 13 0 27 ≤ 2 := hI_.1 13 0 27 rfl
  refine sm_T_go 4 (c1 := (54, [some (.inr (.inr (some (13, 0)))), some (.inl (S0_.2.2.1 136 0 ((S0_.1 13 0 32) - 1).toNat)), some (.inl (S0_.2.2.1 137 0 ((S0_.1 13 0 32) - 1).toNat)), some (.inl ((S0_.1 13 0 34) - 2)), some (.inl ((S0_.1 13 0 34) - 1)), none, none], [.inl 2, .inl (S0_.1 13 0 27)], sm_pI S0_ 13 0 32 ((S0_.1 13 0 32) - 1))) rfl ?_
  refine sm_T_br (a := 3) (z := 26) rfl (fun cx8_ => ?_) (fun cx8_ => ?_)
  · have cx8_ : 2 ≤ (S0_.1 13 0 27) := of_decide_eq_true cx8_
    exfalso; omega
  · have cx8_ : ¬ (2 ≤ (S0_.1 13 0 27)) := of_decide_eq_false cx8_
    refine sm_T_go 3 (c1 := (62, [some (.inr (.inr (some (13, 0)))), some (.inl (S0_.2.2.1 136 0 ((S0_.1 13 0 32) - 1).toNat)), some (.inl (S0_.2.2.1 137 0 ((S0_.1 13 0 32) - 1).toNat)), some (.inl ((S0_.1 13 0 34) - 2)), some (.inl ((S0_.1 13 0 34) - 1)), none, none], [.inl ((S0_.1 13 0 34) - 2), .inr (.inr (some (138, 0)))], sm_pI S0_ 13 0 32 ((S0_.1 13 0 32) - 1))) rfl ?_
    refine sm_T_iald (n := 1024) rfl rfl (by omega) (by omega) ?_
    have bx9_ : (-2147483648) ≤ S0_.2.2.1 138 0 ((S0_.1 13 0 34) - 2).toNat ∧ S0_.2.2.1 138 0 ((S0_.1 13 0 34) - 2).toNat ≤ 2147483647 := hI_.2 138 0 _
    refine sm_T_go 3 (c1 := (69, [some (.inr (.inr (some (13, 0)))), some (.inl (S0_.2.2.1 136 0 ((S0_.1 13 0 32) - 1).toNat)), some (.inl (S0_.2.2.1 137 0 ((S0_.1 13 0 32) - 1).toNat)), some (.inl ((S0_.1 13 0 34) - 2)), some (.inl ((S0_.1 13 0 34) - 1)), none, none], [.inl ((S0_.1 13 0 34) - 1), .inr (.inr (some (138, 0))), .inl (S0_.2.2.1 138 0 ((S0_.1 13 0 34) - 2).toNat)], sm_pI S0_ 13 0 32 ((S0_.1 13 0 32) - 1))) rfl ?_
    refine sm_T_iald (n := 1024) rfl rfl (by omega) (by omega) ?_
    have bx10_ : (-2147483648) ≤ S0_.2.2.1 138 0 ((S0_.1 13 0 34) - 1).toNat ∧ S0_.2.2.1 138 0 ((S0_.1 13 0 34) - 1).toNat ≤ 2147483647 := hI_.2 138 0 _
    refine sm_T_go 0 (c1 := (70, [some (.inr (.inr (some (13, 0)))), some (.inl (S0_.2.2.1 136 0 ((S0_.1 13 0 32) - 1).toNat)), some (.inl (S0_.2.2.1 137 0 ((S0_.1 13 0 32) - 1).toNat)), some (.inl ((S0_.1 13 0 34) - 2)), some (.inl ((S0_.1 13 0 34) - 1)), none, none], [.inl (S0_.2.2.1 138 0 ((S0_.1 13 0 34) - 1).toNat), .inl (S0_.2.2.1 138 0 ((S0_.1 13 0 34) - 2).toNat)], sm_pI S0_ 13 0 32 ((S0_.1 13 0 32) - 1))) rfl ?_
    refine sm_T_br (a := 0) (z := 10) rfl (fun cx11_ => ?_) (fun cx11_ => ?_)
    · have cx11_ : (S0_.2.2.1 138 0 ((S0_.1 13 0 34) - 2).toNat) = (S0_.2.2.1 138 0 ((S0_.1 13 0 34) - 1).toNat) := of_decide_eq_true cx11_
      refine sm_T_go 3 (c1 := (85, [some (.inr (.inr (some (13, 0)))), some (.inl (S0_.2.2.1 136 0 ((S0_.1 13 0 32) - 1).toNat)), some (.inl (S0_.2.2.1 137 0 ((S0_.1 13 0 32) - 1).toNat)), some (.inl ((S0_.1 13 0 34) - 2)), some (.inl ((S0_.1 13 0 34) - 1)), none, none], [.inl 1, .inl (S0_.1 13 0 27)], sm_pI S0_ 13 0 32 ((S0_.1 13 0 32) - 1))) rfl ?_
      refine sm_T_br (a := 1) (z := 11) rfl (fun cx12_ => ?_) (fun cx12_ => ?_)
      · have cx12_ : (S0_.1 13 0 27) ≠ 1 := of_decide_eq_true cx12_
        exfalso; omega
      · have cx12_ : ¬ ((S0_.1 13 0 27) ≠ 1) := of_decide_eq_false cx12_
        refine sm_T_go 4 (c1 := (93, [some (.inr (.inr (some (13, 0)))), some (.inl (S0_.2.2.1 136 0 ((S0_.1 13 0 32) - 1).toNat)), some (.inl (S0_.2.2.1 137 0 ((S0_.1 13 0 32) - 1).toNat)), some (.inl ((S0_.1 13 0 34) - 2)), some (.inl ((S0_.1 13 0 34) - 1)), none, none], [.inl ((S0_.1 13 0 34) - 1), .inl ((S0_.1 13 0 34) - 2), .inl (S0_.2.2.1 136 0 ((S0_.1 13 0 32) - 1).toNat), .inr (.inr (some (13, 0)))], sm_pI S0_ 13 0 32 ((S0_.1 13 0 32) - 1))) rfl ?_
        refine sm_T_cal (d1 := 3) (Q1 := vq_331 (S0_.2.2.1 136 0 ((S0_.1 13 0 32) - 1).toNat) ((S0_.1 13 0 34) - 2) ((S0_.1 13 0 34) - 1) F_ Gr_ vx_ vy_ k_ (sm_pI S0_ 13 0 32 ((S0_.1 13 0 32) - 1))) rfl rfl (by decide) (vc_331 (S0_.2.2.1 136 0 ((S0_.1 13 0 32) - 1).toNat) ((S0_.1 13 0 34) - 2) ((S0_.1 13 0 34) - 1) F_ Gr_ vx_ vy_ k_ (sm_pI S0_ 13 0 32 ((S0_.1 13 0 32) - 1)) hIx4_ (by exact rgl_fr (w_ := ([(13, 32)], [], [])) xr (ai_fr_pI rfl) rfl rfl rfl rfl rfl rfl) (by omega) (by exact e1_) (by exact ⟨lxy_, x8_⟩) (by (intro z_; rw [l1_, l2_]; exact ⟨xv_.2.2.2.2.2.1 z_, xv_.2.2.1 z_⟩)) (by omega)) (fun u_ Sx13_ px16_ => ?_)
        obtain ⟨rfl, hIx14_, hFx15_, px16_⟩ := px16_
        have hFx17_ : ai_fr (sx_W vw_313g) S0_ Sx13_ := ai_fr_tr hFx5_ (fr_le hFx15_ rfl)
        have e93_ := px16_
        have m93_ : Sx13_.1 13 0 27 = 1 := (hFx15_.1 13 0 27 rfl).trans hmo1_
        have v93_ : Sx13_.1 13 0 34 = S0_.1 13 0 34 := hFx15_.1 13 0 34 rfl
        have w93_ : Sx13_.1 13 0 32 = S0_.1 13 0 32 - 1 := hFx15_.1 13 0 32 rfl
        have d93_ : Sx13_.2.2.1 138 0 = S0_.2.2.1 138 0 := by have q9_ := fr_arr (t := 138) (i := 0) hFx15_ rfl; exact q9_
        have g93_ : rg b_ n_ T_ (.inr p_) Sx13_ := rg_fr (show rg b_ n_ T_ (.inr p_) (sm_pI S0_ 13 0 32 ((S0_.1 13 0 32) - 1)) from hg_) hFx15_ rfl rfl rfl
        have k136_ : Sx13_.2.2.1 136 0 = S0_.2.2.1 136 0 := by have q9_ := fr_arr (t := 136) (i := 0) hFx15_ rfl; exact q9_
        have k137_ : Sx13_.2.2.1 137 0 = S0_.2.2.1 137 0 := by have q9_ := fr_arr (t := 137) (i := 0) hFx15_ rfl; exact q9_
        have b93_ : Sx13_.2.2.1 138 0 (S0_.1 13 0 34 - 2).toNat = (vx_.length : Int) := by rw [d93_]; exact e1_
        have o93_ : Sx13_.1 13 0 33 = (o_mk o_ : Int) := (hFx15_.1 13 0 33 rfl).trans (hop_.trans (by show (((if k_ < 0 then 1 else 0) + o_mk o_ : Nat) : Int) = _; rw [if_neg (by omega)]; simp))
        have bx18_ : 0 ≤ Sx13_.1 13 0 27 ∧ Sx13_.1 13 0 27 ≤ 2 := hIx14_.1 13 0 27 rfl
        refine sm_T_go 3 (c1 := (101, [some (.inr (.inr (some (13, 0)))), some (.inl (S0_.2.2.1 136 0 ((S0_.1 13 0 32) - 1).toNat)), some (.inl (S0_.2.2.1 137 0 ((S0_.1 13 0 32) - 1).toNat)), some (.inl ((S0_.1 13 0 34) - 2)), some (.inl ((S0_.1 13 0 34) - 1)), none, none], [.inl 2, .inl (Sx13_.1 13 0 27)], Sx13_)) rfl ?_
        refine sm_T_br (a := 1) (z := 68) rfl (fun cx19_ => ?_) (fun cx19_ => ?_)
        · have cx19_ : (Sx13_.1 13 0 27) ≠ 2 := of_decide_eq_true cx19_
          refine sm_T_go 5 (c1 := (178, [some (.inr (.inr (some (13, 0)))), some (.inl (S0_.2.2.1 136 0 ((S0_.1 13 0 32) - 1).toNat)), some (.inl (S0_.2.2.1 137 0 ((S0_.1 13 0 32) - 1).toNat)), some (.inl ((S0_.1 13 0 34) - 2)), some (.inl ((S0_.1 13 0 34) - 1)), none, none], [.inl 257, .inl (S0_.2.2.1 136 0 ((S0_.1 13 0 32) - 1).toNat), .inl ((S0_.1 13 0 34) - 2), .inr (.inr (some (138, 0)))], Sx13_)) rfl ?_
          refine sm_T_br (a := 1) (z := 7) rfl (fun cx20_ => ?_) (fun cx20_ => ?_)
          · have cx20_ : (S0_.2.2.1 136 0 ((S0_.1 13 0 32) - 1).toNat) ≠ 257 := of_decide_eq_true cx20_
            refine sm_T_go 3 (c1 := (190, [some (.inr (.inr (some (13, 0)))), some (.inl (S0_.2.2.1 136 0 ((S0_.1 13 0 32) - 1).toNat)), some (.inl (S0_.2.2.1 137 0 ((S0_.1 13 0 32) - 1).toNat)), some (.inl ((S0_.1 13 0 34) - 2)), some (.inl ((S0_.1 13 0 34) - 1)), none, none], [.inl ((S0_.1 13 0 34) - 2), .inr (.inr (some (138, 0))), .inl ((S0_.1 13 0 34) - 2), .inr (.inr (some (138, 0)))], Sx13_)) rfl ?_
            refine sm_T_iald (n := 1024) rfl rfl (by omega) (by omega) ?_
            have bx21_ : (-2147483648) ≤ Sx13_.2.2.1 138 0 ((S0_.1 13 0 34) - 2).toNat ∧ Sx13_.2.2.1 138 0 ((S0_.1 13 0 34) - 2).toNat ≤ 2147483647 := hIx14_.2 138 0 _
            refine sm_T_iast (n := 1024) rfl rfl (by omega) (by omega) ?_
            have hIx22_ : gi (sm_aI Sx13_ 138 0 ((S0_.1 13 0 34) - 2).toNat (Sx13_.2.2.1 138 0 ((S0_.1 13 0 34) - 2).toNat)) := gi_aI hIx14_ (show (-2147483648) ≤ (Sx13_.2.2.1 138 0 ((S0_.1 13 0 34) - 2).toNat) ∧ (Sx13_.2.2.1 138 0 ((S0_.1 13 0 34) - 2).toNat) ≤ 2147483647 from ⟨by omega, by omega⟩)
            have hFx23_ : ai_fr (sx_W vw_313g) S0_ (sm_aI Sx13_ 138 0 ((S0_.1 13 0 34) - 2).toNat (Sx13_.2.2.1 138 0 ((S0_.1 13 0 34) - 2).toNat)) := ai_fr_tr hFx17_ (ai_fr_aI rfl)
            have bx24_ : 0 ≤ Sx13_.1 13 0 34 ∧ Sx13_.1 13 0 34 ≤ 1023 := hIx14_.1 13 0 34 rfl
            refine sm_T_go 4 (c1 := (198, [some (.inr (.inr (some (13, 0)))), some (.inl (S0_.2.2.1 136 0 ((S0_.1 13 0 32) - 1).toNat)), some (.inl (S0_.2.2.1 137 0 ((S0_.1 13 0 32) - 1).toNat)), some (.inl ((S0_.1 13 0 34) - 2)), some (.inl ((S0_.1 13 0 34) - 1)), none, none], [.inl 1, .inl (Sx13_.1 13 0 34), .inr (.inr (some (13, 0)))], sm_aI Sx13_ 138 0 ((S0_.1 13 0 34) - 2).toNat (Sx13_.2.2.1 138 0 ((S0_.1 13 0 34) - 2).toNat))) rfl ?_
            refine sm_T_bin (w := (Sx13_.1 13 0 34) - 1) rfl (bi_sub (by omega) (by omega) (by omega)) ?_
            have hIx25_ : gi (sm_pI (sm_aI Sx13_ 138 0 ((S0_.1 13 0 34) - 2).toNat (Sx13_.2.2.1 138 0 ((S0_.1 13 0 34) - 2).toNat)) 13 0 34 ((Sx13_.1 13 0 34) - 1)) := gi_pI hIx22_ (show 0 ≤ (Sx13_.1 13 0 34) - 1 ∧ (Sx13_.1 13 0 34) - 1 ≤ 1023 from ⟨by omega, by omega⟩)
            have hFx26_ : ai_fr (sx_W vw_313g) S0_ (sm_pI (sm_aI Sx13_ 138 0 ((S0_.1 13 0 34) - 2).toNat (Sx13_.2.2.1 138 0 ((S0_.1 13 0 34) - 2).toNat)) 13 0 34 ((Sx13_.1 13 0 34) - 1)) := ai_fr_tr hFx23_ (ai_fr_pI rfl)
            refine sm_T_go 1 (c1 := (202, [some (.inr (.inr (some (13, 0)))), some (.inl (S0_.2.2.1 136 0 ((S0_.1 13 0 32) - 1).toNat)), some (.inl (S0_.2.2.1 137 0 ((S0_.1 13 0 32) - 1).toNat)), some (.inl ((S0_.1 13 0 34) - 2)), some (.inl ((S0_.1 13 0 34) - 1)), none, none], [], sm_pI (sm_aI Sx13_ 138 0 ((S0_.1 13 0 34) - 2).toNat (Sx13_.2.2.1 138 0 ((S0_.1 13 0 34) - 2).toNat)) 13 0 34 ((Sx13_.1 13 0 34) - 1))) rfl ?_
            refine sm_T_rv rfl ⟨_, _, rfl, rfl, hIx25_, hFx26_, ?_⟩
            refine ⟨?_, by (try simp only [rd_eq, rd_ne, rf_eq, rf_nk, rf_nt, rd_fa, rd_af, rd_fl, rd_al, rd_lf, rd_la, rd_leq, rd_lne, rd_fr, rd_ar, ne_eq, Nat.reduceEqDiff, not_false_eq_true]); omega⟩
            have nw_ : (if k_ = 4 then (1 : Int) else x_) = ((g_op F_ k_ Gr_ vx_ vy_).1.length : Int) := by rw [oln_]; by_cases z_ : k_ = 4; (rw [if_pos z_, if_pos z_]; rfl); (rw [if_neg z_, if_neg z_]; omega)
            rw [nw_]
            refine rz_mk (w_ := u0_) (V_ := (g_op F_ k_ Gr_ vx_ vy_).1 :: V_) g93_ ⟨?_, ?_, ?_⟩ hwr1_ o93_ ?_ m93_ ?_ evn_ (by rw [List.map_cons, xm2_]) ?_ ?_ (o_wd_b hz_.2.2 hk_)
            · (try simp only [rd_eq, rd_ne, rf_eq, rf_nk, rf_nt, rd_fa, rd_af, rd_fl, rd_al, rd_lf, rd_la, rd_leq, rd_lne, rd_fr, rd_ar, ne_eq, Nat.reduceEqDiff, not_false_eq_true]); omega
            · exact stk_cg (fun j_ _ => by (try simp only [rd_eq, rd_ne, rf_eq, rf_nk, rf_nt, rd_fa, rd_af, rd_fl, rd_al, rd_lf, rd_la, rd_leq, rd_lne, rd_fr, rd_ar, ne_eq, Nat.reduceEqDiff, not_false_eq_true]); rw [k136_]) hw_.2.1.2
            · exact stk_cg (fun j_ _ => by (try simp only [rd_eq, rd_ne, rf_eq, rf_nk, rf_nt, rd_fa, rd_af, rd_fl, rd_al, rd_lf, rd_la, rd_leq, rd_lne, rd_fr, rd_ar, ne_eq, Nat.reduceEqDiff, not_false_eq_true]); rw [k137_]) hw_.2.2.2
            · (try simp only [rd_eq, rd_ne, rf_eq, rf_nk, rf_nt, rd_fa, rd_af, rd_fl, rd_al, rd_lf, rd_la, rd_leq, rd_lne, rd_fr, rd_ar, ne_eq, Nat.reduceEqDiff, not_false_eq_true]); simp only [List.length_cons]; push_cast; omega
            · rw [← nw_]; exact s_ok_ap hk_ (by have xb_ := (h_ok_c.mp (h_ok_c.mp hs_.2.2.2).2).1; split; decide; exact xb_) hs_
            · exact rgl_fr (w_ := ([(13, 34)], [138], [])) e93_.1 (ai_fr_tr (ai_fr_aI rfl) (ai_fr_pI rfl)) rfl rfl rfl rfl rfl rfl
            · refine svl_tp xv_.2.2.2.2.2.2 (fun z_ => Nat.le_trans ogl_ z_) (fun j_ hj_ => ?_) (fun j_ hj_ => ?_) ?_ (by rw [oln_]; split <;> omega) (fun z_ => ?_)
              · (try simp only [rd_eq, rd_ne, rf_eq, rf_nk, rf_nt, rd_fa, rd_af, rd_fl, rd_al, rd_lf, rd_la, rd_leq, rd_lne, rd_fr, rd_ar, ne_eq, Nat.reduceEqDiff, not_false_eq_true]); exact e93_.2.2 j_ (by omega)
              · (try simp only [rd_eq, rd_ne, rf_eq, rf_nk, rf_nt, rd_fa, rd_af, rd_fl, rd_al, rd_lf, rd_la, rd_leq, rd_lne, rd_fr, rd_ar, ne_eq, Nat.reduceEqDiff, not_false_eq_true]); rw [if_neg (by omega), d93_]
              · rw [← nw_]; (try simp only [rd_eq, rd_ne, rf_eq, rf_nk, rf_nt, rd_fa, rd_af, rd_fl, rd_al, rd_lf, rd_la, rd_leq, rd_lne, rd_fr, rd_ar, ne_eq, Nat.reduceEqDiff, not_false_eq_true]); rw [if_pos l1_.symm]; first | (rw [if_pos (by omega)]; done) | (rw [if_neg (by omega)]; omega)
              · have q9_ := e93_.2.1 z_; rw [l1_] at q9_; exact q9_
          · have cx20_ : ¬ ((S0_.2.2.1 136 0 ((S0_.1 13 0 32) - 1).toNat) ≠ 257) := of_decide_eq_false cx20_
            refine sm_T_go 2 (c1 := (191, [some (.inr (.inr (some (13, 0)))), some (.inl (S0_.2.2.1 136 0 ((S0_.1 13 0 32) - 1).toNat)), some (.inl (S0_.2.2.1 137 0 ((S0_.1 13 0 32) - 1).toNat)), some (.inl ((S0_.1 13 0 34) - 2)), some (.inl ((S0_.1 13 0 34) - 1)), none, none], [.inl 1, .inl ((S0_.1 13 0 34) - 2), .inr (.inr (some (138, 0)))], Sx13_)) rfl ?_
            refine sm_T_iast (n := 1024) rfl rfl (by omega) (by omega) ?_
            have hIx27_ : gi (sm_aI Sx13_ 138 0 ((S0_.1 13 0 34) - 2).toNat 1) := gi_aI hIx14_ (show (-2147483648) ≤ 1 ∧ 1 ≤ 2147483647 from ⟨by omega, by omega⟩)
            have hFx28_ : ai_fr (sx_W vw_313g) S0_ (sm_aI Sx13_ 138 0 ((S0_.1 13 0 34) - 2).toNat 1) := ai_fr_tr hFx17_ (ai_fr_aI rfl)
            have bx29_ : 0 ≤ Sx13_.1 13 0 34 ∧ Sx13_.1 13 0 34 ≤ 1023 := hIx14_.1 13 0 34 rfl
            refine sm_T_go 4 (c1 := (198, [some (.inr (.inr (some (13, 0)))), some (.inl (S0_.2.2.1 136 0 ((S0_.1 13 0 32) - 1).toNat)), some (.inl (S0_.2.2.1 137 0 ((S0_.1 13 0 32) - 1).toNat)), some (.inl ((S0_.1 13 0 34) - 2)), some (.inl ((S0_.1 13 0 34) - 1)), none, none], [.inl 1, .inl (Sx13_.1 13 0 34), .inr (.inr (some (13, 0)))], sm_aI Sx13_ 138 0 ((S0_.1 13 0 34) - 2).toNat 1)) rfl ?_
            refine sm_T_bin (w := (Sx13_.1 13 0 34) - 1) rfl (bi_sub (by omega) (by omega) (by omega)) ?_
            have hIx30_ : gi (sm_pI (sm_aI Sx13_ 138 0 ((S0_.1 13 0 34) - 2).toNat 1) 13 0 34 ((Sx13_.1 13 0 34) - 1)) := gi_pI hIx27_ (show 0 ≤ (Sx13_.1 13 0 34) - 1 ∧ (Sx13_.1 13 0 34) - 1 ≤ 1023 from ⟨by omega, by omega⟩)
            have hFx31_ : ai_fr (sx_W vw_313g) S0_ (sm_pI (sm_aI Sx13_ 138 0 ((S0_.1 13 0 34) - 2).toNat 1) 13 0 34 ((Sx13_.1 13 0 34) - 1)) := ai_fr_tr hFx28_ (ai_fr_pI rfl)
            refine sm_T_go 1 (c1 := (202, [some (.inr (.inr (some (13, 0)))), some (.inl (S0_.2.2.1 136 0 ((S0_.1 13 0 32) - 1).toNat)), some (.inl (S0_.2.2.1 137 0 ((S0_.1 13 0 32) - 1).toNat)), some (.inl ((S0_.1 13 0 34) - 2)), some (.inl ((S0_.1 13 0 34) - 1)), none, none], [], sm_pI (sm_aI Sx13_ 138 0 ((S0_.1 13 0 34) - 2).toNat 1) 13 0 34 ((Sx13_.1 13 0 34) - 1))) rfl ?_
            refine sm_T_rv rfl ⟨_, _, rfl, rfl, hIx30_, hFx31_, ?_⟩
            refine ⟨?_, by (try simp only [rd_eq, rd_ne, rf_eq, rf_nk, rf_nt, rd_fa, rd_af, rd_fl, rd_al, rd_lf, rd_la, rd_leq, rd_lne, rd_fr, rd_ar, ne_eq, Nat.reduceEqDiff, not_false_eq_true]); omega⟩
            have nw_ : (if k_ = 4 then (1 : Int) else x_) = ((g_op F_ k_ Gr_ vx_ vy_).1.length : Int) := by rw [oln_]; by_cases z_ : k_ = 4; (rw [if_pos z_, if_pos z_]; rfl); (rw [if_neg z_, if_neg z_]; omega)
            rw [nw_]
            refine rz_mk (w_ := u0_) (V_ := (g_op F_ k_ Gr_ vx_ vy_).1 :: V_) g93_ ⟨?_, ?_, ?_⟩ hwr1_ o93_ ?_ m93_ ?_ evn_ (by rw [List.map_cons, xm2_]) ?_ ?_ (o_wd_b hz_.2.2 hk_)
            · (try simp only [rd_eq, rd_ne, rf_eq, rf_nk, rf_nt, rd_fa, rd_af, rd_fl, rd_al, rd_lf, rd_la, rd_leq, rd_lne, rd_fr, rd_ar, ne_eq, Nat.reduceEqDiff, not_false_eq_true]); omega
            · exact stk_cg (fun j_ _ => by (try simp only [rd_eq, rd_ne, rf_eq, rf_nk, rf_nt, rd_fa, rd_af, rd_fl, rd_al, rd_lf, rd_la, rd_leq, rd_lne, rd_fr, rd_ar, ne_eq, Nat.reduceEqDiff, not_false_eq_true]); rw [k136_]) hw_.2.1.2
            · exact stk_cg (fun j_ _ => by (try simp only [rd_eq, rd_ne, rf_eq, rf_nk, rf_nt, rd_fa, rd_af, rd_fl, rd_al, rd_lf, rd_la, rd_leq, rd_lne, rd_fr, rd_ar, ne_eq, Nat.reduceEqDiff, not_false_eq_true]); rw [k137_]) hw_.2.2.2
            · (try simp only [rd_eq, rd_ne, rf_eq, rf_nk, rf_nt, rd_fa, rd_af, rd_fl, rd_al, rd_lf, rd_la, rd_leq, rd_lne, rd_fr, rd_ar, ne_eq, Nat.reduceEqDiff, not_false_eq_true]); simp only [List.length_cons]; push_cast; omega
            · rw [← nw_]; exact s_ok_ap hk_ (by have xb_ := (h_ok_c.mp (h_ok_c.mp hs_.2.2.2).2).1; split; decide; exact xb_) hs_
            · exact rgl_fr (w_ := ([(13, 34)], [138], [])) e93_.1 (ai_fr_tr (ai_fr_aI rfl) (ai_fr_pI rfl)) rfl rfl rfl rfl rfl rfl
            · refine svl_tp xv_.2.2.2.2.2.2 (fun z_ => Nat.le_trans ogl_ z_) (fun j_ hj_ => ?_) (fun j_ hj_ => ?_) ?_ (by rw [oln_]; split <;> omega) (fun z_ => ?_)
              · (try simp only [rd_eq, rd_ne, rf_eq, rf_nk, rf_nt, rd_fa, rd_af, rd_fl, rd_al, rd_lf, rd_la, rd_leq, rd_lne, rd_fr, rd_ar, ne_eq, Nat.reduceEqDiff, not_false_eq_true]); exact e93_.2.2 j_ (by omega)
              · (try simp only [rd_eq, rd_ne, rf_eq, rf_nk, rf_nt, rd_fa, rd_af, rd_fl, rd_al, rd_lf, rd_la, rd_leq, rd_lne, rd_fr, rd_ar, ne_eq, Nat.reduceEqDiff, not_false_eq_true]); rw [if_neg (by omega), d93_]
              · rw [← nw_]; (try simp only [rd_eq, rd_ne, rf_eq, rf_nk, rf_nt, rd_fa, rd_af, rd_fl, rd_al, rd_lf, rd_la, rd_leq, rd_lne, rd_fr, rd_ar, ne_eq, Nat.reduceEqDiff, not_false_eq_true]); rw [if_pos l1_.symm]; first | (rw [if_pos (by omega)]; done) | (rw [if_neg (by omega)]; omega)
              · have q9_ := e93_.2.1 z_; rw [l1_] at q9_; exact q9_
        · have cx19_ : ¬ ((Sx13_.1 13 0 27) ≠ 2) := of_decide_eq_false cx19_
          exfalso; omega
    · have cx11_ : ¬ ((S0_.2.2.1 138 0 ((S0_.1 13 0 34) - 2).toNat) = (S0_.2.2.1 138 0 ((S0_.1 13 0 34) - 1).toNat)) := of_decide_eq_false cx11_
      exfalso; omega
