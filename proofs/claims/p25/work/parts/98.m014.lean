/-! 99.zc3a -/
section
/-! the reference: applying, second pass; written by wip/p55/gen/vg -/

/-! the_ second pass: what is_ held -/
def o_wd : List (Int × Nat) → List Int → Prop
  | [], _ => True
  | x_ :: o_, h_ => if x_.1 = -3 then (match h_ with
      | c_ :: l_ => c_ = 1 ∧ o_wd o_ l_
      | [] => False) else if x_.1 = -4 then (match h_ with
      | _ :: c_ :: l_ => c_ = 1 ∧ o_wd o_ l_
      | _ => False) else if x_.1 < 0 then o_wd o_ h_ else (match h_ with
      | _ :: l_ => o_wd o_ l_
      | [] => False)
def xg (F_ I_ : Nat) (A_ : pA) (X_ : Nat → gQ → gE → Option (gQ × gE)) (m_ : Nat) (s0_ : gS) (h_ c_ : List Int) (S_ : sm_S) : Prop := ∃ G_ V_, ev F_ I_ A_ X_ m_ s0_ c_ = some ((G_, s0_.1.2), s0_.2.1, s0_.2.2.1, V_) ∧ V_.map (fun v_ => (v_.length : Int)) = h_ ∧ rgl F_ G_ S_ ∧ svl (G_.length ≤ 1001) (S_.2.2.1 139 0) (S_.2.2.1 138 0) V_
def rz (b_ : Nat → Int) (n_ T_ p_ F_ I_ : Nat) (A_ : pA) (X_ : Nat → gQ → gE → Option (gQ × gE)) (m_ : Nat) (s0_ : gS) (s_ : pO) (S_ : sm_S) : Prop := ry b_ n_ T_ 1 p_ (.inr s_) S_ ∧ xg F_ I_ A_ X_ m_ s0_ s_.2.1 s_.2.2 S_ ∧ o_wd s_.1 s_.2.1.tail
theorem mp_c {f_ : List Int → Int} {V_ : gV} {x_ : Int} {h_ : List Int} (e_ : V_.map f_ = x_ :: h_) : ∃ v_ W_, V_ = v_ :: W_ ∧ f_ v_ = x_ ∧ W_.map f_ = h_ := by
  cases V_ with
  | nil => cases e_
  | cons v_ W_ => rw [List.map_cons] at e_; cases e_; exact ⟨v_, W_, rfl, rfl, rfl⟩
theorem ap2_r {k_ x_ y_ : Int} {q_ : Nat} {o_ : List (Int × Nat)} {g_ c_ : List Int} {s_ : pO} (h_ : p_ap2 false k_ q_ o_ x_ y_ g_ c_ = .inr s_) : x_ = y_ ∧ s_ = (o_, (if k_ = 4 then 1 else x_) :: g_, k_ :: c_) := by
  unfold p_ap2 p_ap at h_
  rw [if_neg (by decide)] at h_
  by_cases e_ : x_ = y_
  · rw [if_pos e_] at h_
    exact ⟨e_, (Sum.inr.inj h_).symm⟩
  · rw [if_neg e_] at h_
    cases h_
theorem ch2_r {q_ : Nat} {o_ : List (Int × Nat)} {x_ y_ z_ : Int} {g_ c_ : List Int} {s_ : pO} (h_ : p_ch2 q_ o_ (x_ :: y_ :: z_ :: g_) c_ = .inr s_) : x_ = y_ ∧ s_ = (o_, y_ :: g_, 7 :: c_) := by
  unfold p_ch2 at h_
  by_cases e_ : y_ = x_
  · rw [show p_ch q_ (x_ :: y_ :: z_ :: g_) c_ = .inr (y_ :: g_, 7 :: c_) from if_pos e_] at h_
    exact ⟨e_.symm, (Sum.inr.inj h_).symm⟩
  · rw [show p_ch q_ (x_ :: y_ :: z_ :: g_) c_ = .inl (13, q_) from if_neg e_] at h_
    cases h_
theorem w_sg5 {k_ : Int} (h_ : 1 ≤ k_ ∧ k_ ≤ 5) : (w_sg k_ = 124 ∧ k_ = 1) ∨ (w_sg k_ = 94 ∧ k_ = 2) ∨ (w_sg k_ = 38 ∧ k_ = 3) ∨ (w_sg k_ = 257 ∧ k_ = 4) ∨ (w_sg k_ = 43 ∧ k_ = 5) := by
  have e_ : k_ = 1 ∨ k_ = 2 ∨ k_ = 3 ∨ k_ = 4 ∨ k_ = 5 := by omega
  rcases e_ with e_ | e_ | e_ | e_ | e_ <;> subst e_ <;> decide
theorem o_wd_b {k_ : Int} {q_ : Nat} {o_ : List (Int × Nat)} {x_ : Int} {g_ : List Int} (h_ : o_wd ((k_, q_) :: o_) (x_ :: g_)) (hk_ : 1 ≤ k_) : o_wd o_ g_ := by
  unfold o_wd at h_
  rw [if_neg (by show ¬ k_ = -3; omega), if_neg (by show ¬ k_ = -4; omega), if_neg (by show ¬ k_ < 0; omega)] at h_
  exact h_
theorem o_wd_4 {q_ : Nat} {o_ : List (Int × Nat)} {y_ z_ : Int} {g_ : List Int} (h_ : o_wd ((-4, q_) :: o_) (y_ :: z_ :: g_)) : z_ = 1 ∧ o_wd o_ g_ := by
  unfold o_wd at h_
  rw [if_neg (by show ¬ (-4 : Int) = -3; decide), if_pos rfl] at h_
  exact h_
theorem svl_stk {ok_ : Prop} {st_ wd_ : Nat → Int} : ∀ {V_ : gV}, svl ok_ st_ wd_ V_ → stk wd_ (V_.map fun v_ => (v_.length : Int))
  | [], _ => trivial
  | v_ :: l_, h_ => by
    refine ⟨?_, svl_stk h_.2.2.2⟩
    show wd_ (l_.map fun v_ => (v_.length : Int)).length = (v_.length : Int)
    rw [List.length_map]
    exact h_.1
theorem rz_mk {b_ : Nat → Int} {n_ T_ p_ F_ I_ m_ : Nat} {A_ : pA} {X_ : Nat → gQ → gE → Option (gQ × gE)} {s0_ : gS} {o_ : List (Int × Nat)} {g_ c_ : List Int} {w_ : List (Int × Int)} {G_ : pGr} {V_ : gV} {S_ : sm_S} (hg_ : rg b_ n_ T_ (.inr p_) S_) (hw_ : ws w_ S_) (hwl_ : wl b_ n_ T_ o_ w_) (ho_ : S_.1 13 0 33 = (o_mk o_ : Int)) (hv_ : S_.1 13 0 34 = (V_.length : Int)) (hm_ : S_.1 13 0 27 = 1) (hs_ : s_ok false 1 (o_, g_, c_)) (he_ : ev F_ I_ A_ X_ m_ s0_ c_ = some ((G_, s0_.1.2), s0_.2.1, s0_.2.2.1, V_)) (hl_ : V_.map (fun v_ => (v_.length : Int)) = g_) (hr_ : rgl F_ G_ S_) (hx_ : svl (G_.length ≤ 1001) (S_.2.2.1 139 0) (S_.2.2.1 138 0) V_) (hd_ : o_wd o_ g_.tail) : rz b_ n_ T_ p_ F_ I_ A_ X_ m_ s0_ (o_, g_, c_) S_ := by
  refine ⟨⟨⟨hg_, ⟨w_, hw_, Or.inr ⟨rfl, hwl_⟩⟩, ho_, ⟨?_, fun _ => ?_, fun z_ => absurd z_ (by decide)⟩, hm_⟩, hs_⟩, ⟨G_, V_, he_, hl_, hr_, hx_⟩, hd_⟩
  · rw [hv_, ← hl_, List.length_map]
  · rw [← hl_]
    exact svl_stk hx_
/-! M_.apply -/
def vw_313g : sx_Wl := ([(13, 32), (13, 34), (13, 37)], [138, 139, 140, 141, 142, 143], [])
def vq_313g (b_ : Nat → Int) (n_ : Nat) (T_ : Nat) (p_ : Nat) (F_ : Nat) (I_ : Nat) (A_ : pA) (X_ : Nat → gQ → gE → Option (gQ × gE)) (m_ : Nat) (s0_ : gS) (k_ : Int) (q_ : Nat) (o_ : List (Int × Nat)) (x_ : Int) (y_ : Int) (g_ : List Int) (c_ : List Int) (S0_ : sm_S) (u_ : Option sm_V) (S1_ : sm_S) : Prop := u_ = none ∧ gi S1_ ∧ ai_fr (sx_W vw_313g) S0_ S1_ ∧ (rz b_ n_ T_ p_ F_ I_ A_ X_ m_ s0_ (o_, (if k_ = 4 then 1 else x_) :: g_, k_ :: c_) S1_ ∧ (S1_.1 13 0 32) = (S0_.1 13 0 32) - 1)
set_option maxHeartbeats 1500000 in
set_option maxRecDepth 20000 in
theorem vc_313g {sc_ : Nat × (Nat → Int)} (b_ : Nat → Int) (n_ : Nat) (T_ : Nat) (p_ : Nat) (F_ : Nat) (I_ : Nat) (A_ : pA) (X_ : Nat → gQ → gE → Option (gQ × gE)) (m_ : Nat) (s0_ : gS) (k_ : Int) (q_ : Nat) (o_ : List (Int × Nat)) (x_ : Int) (y_ : Int) (g_ : List Int) (c_ : List Int) (S0_ : sm_S) (hI_ : gi S0_) (ht_ : rtab b_ n_ T_ S0_) (hz_ : rz b_ n_ T_ p_ F_ I_ A_ X_ m_ s0_ ((k_, q_) :: o_, y_ :: x_ :: g_, c_) S0_) (hk_ : 1 ≤ k_) (hxy_ : x_ = y_) : sm_T (mt_P sc_) 4 313 (0, [some (.inr (.inr (some (13, 0)))), none, none, none, none, none, none], [], S0_) (fun ro9_ => ∃ u_ S1_, ro9_ = (.inl u_, S1_, 0) ∧ vq_313g b_ n_ T_ p_ F_ I_ A_ X_ m_ s0_ k_ q_ o_ x_ y_ g_ c_ S0_ u_ S1_) := by
  have hF_ : ai_fr (sx_W vw_313g) S0_ S0_ := ai_fr_rf
  obtain ⟨⟨hg_, ⟨w0_, hw_, hwl_⟩, hop_, hv_, hmo1_⟩, hs_⟩ := id hz_.1
  have hwl_ : wl b_ n_ T_ ((k_, q_) :: o_) w0_ := by rcases hwl_ with z_ | z_; (exact absurd z_.1 (by decide)); (exact z_.2)
  obtain ⟨tq_, u0_, rfl, hq_, hwr_⟩ := hwl_
  have hT_ := ht_.2.1
  have hq1_ := rtp_at ht_ hq_
  obtain ⟨v1_, v2_, v3_⟩ := id hv_
  have w1_ := ws_tp hw_ (by rw [hw_.1, List.length_cons]; push_cast; omega)
  obtain ⟨y9_, u9_, w3_, w4_, w5_⟩ := w1_.2
  cases w3_
  have hwl1_ : S0_.1 13 0 32 = (u0_.length : Int) + 1 := by rw [hw_.1, List.length_cons]; push_cast; rfl
  have hf0_ := hg_.1
  have hol_ := o_lim hs_.1 hs_.2.1
  obtain ⟨Gr_, V0_, xe_, xm_, xr, xv_⟩ := id hz_.2.1
  obtain ⟨vy_, V1_, rfl, ly_, xm1_⟩ := mp_c xm_
  obtain ⟨vx_, V_, rfl, lx_, xm2_⟩ := mp_c xm1_
  have hwr1_ : wl b_ n_ T_ o_ u0_ := by rcases hwr_ with z_ | z_; (exact z_.2); (exact absurd z_.1 (by omega))
  clear hwr_
  have v4_ : S0_.1 13 0 34 = (g_.length : Int) + 2 := by rw [v1_]; simp only [List.length_cons]; push_cast; omega
  have Vl_ : V_.length = g_.length := by rw [← xm2_, List.length_map]
  have l1_ : (S0_.1 13 0 34 - 2).toNat = V_.length := by omega
  have l2_ : (S0_.1 13 0 34 - 1).toNat = (vx_ :: V_).length := by simp only [List.length_cons]; omega
  have e1_ : S0_.2.2.1 138 0 (S0_.1 13 0 34 - 2).toNat = (vx_.length : Int) := by rw [l1_]; exact xv_.2.2.2.1
  have e2_ : S0_.2.2.1 138 0 (S0_.1 13 0 34 - 1).toNat = (vy_.length : Int) := by rw [l2_]; exact xv_.1
  have wsg_ : S0_.2.2.1 136 0 (S0_.1 13 0 32 - 1).toNat = w_sg k_ := w1_.1
  have hul_ : u0_.length ≤ 731 := by have := wl_len hwr1_; have h9_ : ((k_, q_) :: o_).length ≤ 365 := hol_.1; simp only [List.length_cons] at h9_; omega
  have hgl_ : (y_ :: x_ :: g_).length = o_hl ((k_, q_) :: o_) + 1 := hs_.2.2.1
  have hgl2_ : o_hl ((k_, q_) :: o_) ≤ 425 := hol_.2
  simp only [List.length_cons] at hgl_
  have k5_ : k_ ≤ 5 := (o_ok_lt hs_.1 hk_).2
  have w5_ := w_sg5 (k_ := k_) ⟨hk_, k5_⟩
  have lxy_ : vx_.length = vy_.length := by omega
  have x8_ := xv_.2.2.2.2.1
  obtain ⟨Gn_, hGn_⟩ : ∃ z_, z_ = (g_op F_ k_ Gr_ vx_ vy_).2 := ⟨_, rfl⟩
  have ogl_ := g_op_le (F_ := F_) (k_ := k_) (x_ := vx_) (y_ := vy_) (G_ := Gr_)
  have oln_ := g_op_ln (F_ := F_) (k_ := k_) (x_ := vx_) (y_ := vy_) (G_ := Gr_) lxy_ x8_.1
  have evn_ := ev_op xe_ ⟨hk_, k5_⟩ lxy_ x8_.1
  have bx1_ : 0 ≤ S0_.1 13 0 32 ∧ S0_.1 13 0 32 ≤ 1023 := hI_.1 13 0 32 rfl
  refine sm_T_go 5 (c1 := (9, [some (.inr (.inr (some (13, 0)))), none, none, none, none, none, none], [.inl 1, .inl (S0_.1 13 0 32), .inr (.inr (some (136, 0)))], S0_)) rfl ?_
  refine sm_T_bin (w := (S0_.1 13 0 32) - 1) rfl (bi_sub (by omega) (by omega) (by omega)) ?_
  refine sm_T_iald (n := 1024) rfl rfl (by omega) (by omega) ?_
  have bx2_ : (-2147483648) ≤ S0_.2.2.1 136 0 ((S0_.1 13 0 32) - 1).toNat ∧ S0_.2.2.1 136 0 ((S0_.1 13 0 32) - 1).toNat ≤ 2147483647 := hI_.2 136 0 _
  refine sm_T_go 6 (c1 := (21, [some (.inr (.inr (some (13, 0)))), some (.inl (S0_.2.2.1 136 0 ((S0_.1 13 0 32) - 1).toNat)), none, none, none, none, none], [.inl 1, .inl (S0_.1 13 0 32), .inr (.inr (some (137, 0)))], S0_)) rfl ?_
  refine sm_T_bin (w := (S0_.1 13 0 32) - 1) rfl (bi_sub (by omega) (by omega) (by omega)) ?_
  refine sm_T_iald (n := 1024) rfl rfl (by omega) (by omega) ?_
  have bx3_ : 0 ≤ S0_.2.2.1 137 0 ((S0_.1 13 0 32) - 1).toNat ∧ S0_.2.2.1 137 0 ((S0_.1 13 0 32) - 1).toNat ≤ 1280 := hI_.2 137 0 _
  refine sm_T_go 5 (c1 := (30, [some (.inr (.inr (some (13, 0)))), some (.inl (S0_.2.2.1 136 0 ((S0_.1 13 0 32) - 1).toNat)), some (.inl (S0_.2.2.1 137 0 ((S0_.1 13 0 32) - 1).toNat)), none, none, none, none], [.inl 1, .inl (S0_.1 13 0 32), .inr (.inr (some (13, 0)))], S0_)) rfl ?_
  refine sm_T_bin (w := (S0_.1 13 0 32) - 1) rfl (bi_sub (by omega) (by omega) (by omega)) ?_
  have hIx4_ : gi (sm_pI S0_ 13 0 32 ((S0_.1 13 0 32) - 1)) := gi_pI hI_ (show 0 ≤ (S0_.1 13 0 32) - 1 ∧ (S0_.1 13 0 32) - 1 ≤ 1023 from ⟨by omega, by omega⟩)
  have hFx5_ : ai_fr (sx_W vw_313g) S0_ (sm_pI S0_ 13 0 32 ((S0_.1 13 0 32) - 1)) := ai_fr_tr hF_ (ai_fr_pI rfl)
  have bx6_ : 0 ≤ S0_.1 13 0 34 ∧ S0_.1 13 0 34 ≤ 1023 := hI_.1 13 0 34 rfl
  refine sm_T_go 4 (c1 := (39, [some (.inr (.inr (some (13, 0)))), some (.inl (S0_.2.2.1 136 0 ((S0_.1 13 0 32) - 1).toNat)), some (.inl (S0_.2.2.1 137 0 ((S0_.1 13 0 32) - 1).toNat)), none, none, none, none], [.inl 2, .inl (S0_.1 13 0 34)], sm_pI S0_ 13 0 32 ((S0_.1 13 0 32) - 1))) rfl ?_
  refine sm_T_bin (w := (S0_.1 13 0 34) - 2) rfl (bi_sub (by omega) (by omega) (by omega)) ?_
  refine sm_T_go 4 (c1 := (46, [some (.inr (.inr (some (13, 0)))), some (.inl (S0_.2.2.1 136 0 ((S0_.1 13 0 32) - 1).toNat)), some (.inl (S0_.2.2.1 137 0 ((S0_.1 13 0 32) - 1).toNat)), some (.inl ((S0_.1 13 0 34) - 2)), none, none, none], [.inl 1, .inl (S0_.1 13 0 34)], sm_pI S0_ 13 0 32 ((S0_.1 13 0 32) - 1))) rfl ?_
  refine sm_T_bin (w := (S0_.1 13 0 34) - 1) rfl (bi_sub (by omega) (by omega) (by omega)) ?_
  have bx7_ : 0 ≤ S0_.1 13 0 27 ∧ S0_.1 13 0 27 ≤ 2 := hI_.1 13 0 27 rfl
  refine sm_T_go 4 (c1 := (54, [some (.inr (.inr (some (13, 0)))), some (.inl (S0_.2.2.1 136 0 ((S0_.1 13 0 32) - 1).toNat)), some (.inl (S0_.2.2.1 137 0 ((S0_.1 13 0 32) - 1).toNat)), some (.inl ((S0_.1 13 0 34) - 2)), some (.inl ((S0_.1 13 0 34) - 1)), none, none], [.inl 2, .inl (S0_.1 13 0 27)], sm_pI S0_ 13 0 32 ((S0_.1 13 0 32) - 1))) rfl ?_
  refine sm_T_br (a := 3) (z := 26) rfl (fun cx8_ => ?_) (fun cx8_ => ?_)
  · have cx8_ : 2 ≤ (S0_.1 13 0 27) := of_decide_eq_true cx8_
    exfalso; omega
  · have cx8_ : ¬ (2 ≤ (S0_.1 13 0 27)) := of_decide_eq_false cx8_
    refine sm_T_go 3 (c1 := (62, [some (.inr (.inr (some (13, 0)))), some (.inl (S0_.2.2.1 136 0 ((S0_.1 13 0 32) - 1).toNat)), some (.inl (S0_.2.2.1 137 0 ((S0_.1 13 0 32) - 1).toNat)), some (.inl ((S0_.1 13 0 34) - 2)), some (.inl ((S0_.1 13 0 34) - 1)), none, none], [.inl ((S0_.1 13 0 34) - 2), .inr (.inr (some (138, 0)))], sm_pI S0_ 13 0 32 ((S0_.1 13 0 32) - 1))) rfl ?_
    refine sm_T_iald (n := 1024) rfl rfl (by omega) (by omega) ?_
    have bx9_ : (-2147483648) ≤ S0_.2.2.1 138 0 ((S0_.1 13 0 34) - 2).toNat ∧ S0_.2.2.1 138 0 ((S0_.1 13 0 34) - 2).toNat ≤ 2147483647 := hI_.2 138 0 _
    refine sm_T_go 3 (c1 := (69, [some (.inr (.inr (some (13, 0)))), some (.inl (S0_.2.2.1 136 0 ((S0_.1 13 0 32) - 1).toNat)), some (.inl (S0_.2.2.1 137 0 ((S0_.1 13 0 32) - 1).toNat)), some (.inl ((S0_.1 13 0 34) - 2)), some (.inl ((S0_.1 13 0 34) - 1)), none, none], [.inl ((S0_.1 13 0 34) - 1), .inr (.inr (some (138, 0))), .inl (S0_.2.2.1 138 0 ((S0_.1 13 0 34) - 2).toNat)], sm_pI S0_ 13 0 32 ((S0_.1 13 0 32) - 1))) rfl ?_
    refine sm_T_iald (n := 1024) rfl rfl (by omega) (by omega) ?_
    have bx10_ : (-2147483648) ≤ S0_.2.2.1 138 0 ((S0_.1 13 0 34) - 1).toNat ∧ S0_.2.2.1 138 0 ((S0_.1 13 0 34) - 1).toNat ≤ 2147483647 := hI_.2 138 0 _
    refine sm_T_go 0 (c1 := (70, [some (.inr (.inr (some (13, 0)))), some (.inl (S0_.2.2.1 136 0 ((S0_.1 13 0 32) - 1).toNat)), some (.inl (S0_.2.2.1 137 0 ((S0_.1 13 0 32) - 1).toNat)), some (.inl ((S0_.1 13 0 34) - 2)), some (.inl ((S0_.1 13 0 34) - 1)), none, none], [.inl (S0_.2.2.1 138 0 ((S0_.1 13 0 34) - 1).toNat), .inl (S0_.2.2.1 138 0 ((S0_.1 13 0 34) - 2).toNat)], sm_pI S0_ 13 0 32 ((S0_.1 13 0 32) - 1))) rfl ?_
    refine sm_T_br (a := 0) (z := 10) rfl (fun cx11_ => ?_) (fun cx11_ => ?_)
    · have cx11_ : (S0_.2.2.1 138 0 ((S0_.1 13 0 34) - 2).toNat) = (S0_.2.2.1 138 0 ((S0_.1 13 0 34) - 1).toNat) := of_decide_eq_true cx11_
      refine sm_T_go 3 (c1 := (85, [some (.inr (.inr (some (13, 0)))), some (.inl (S0_.2.2.1 136 0 ((S0_.1 13 0 32) - 1).toNat)), some (.inl (S0_.2.2.1 137 0 ((S0_.1 13 0 32) - 1).toNat)), some (.inl ((S0_.1 13 0 34) - 2)), some (.inl ((S0_.1 13 0 34) - 1)), none, none], [.inl 1, .inl (S0_.1 13 0 27)], sm_pI S0_ 13 0 32 ((S0_.1 13 0 32) - 1))) rfl ?_
      refine sm_T_br (a := 1) (z := 11) rfl (fun cx12_ => ?_) (fun cx12_ => ?_)
      · have cx12_ : (S0_.1 13 0 27) ≠ 1 := of_decide_eq_true cx12_
        exfalso; omega
      · have cx12_ : ¬ ((S0_.1 13 0 27) ≠ 1) := of_decide_eq_false cx12_
        refine sm_T_go 4 (c1 := (93, [some (.inr (.inr (some (13, 0)))), some (.inl (S0_.2.2.1 136 0 ((S0_.1 13 0 32) - 1).toNat)), some (.inl (S0_.2.2.1 137 0 ((S0_.1 13 0 32) - 1).toNat)), some (.inl ((S0_.1 13 0 34) - 2)), some (.inl ((S0_.1 13 0 34) - 1)), none, none], [.inl ((S0_.1 13 0 34) - 1), .inl ((S0_.1 13 0 34) - 2), .inl (S0_.2.2.1 136 0 ((S0_.1 13 0 32) - 1).toNat), .inr (.inr (some (13, 0)))], sm_pI S0_ 13 0 32 ((S0_.1 13 0 32) - 1))) rfl ?_
        refine sm_T_cal (d1 := 3) (Q1 := vq_331 (S0_.2.2.1 136 0 ((S0_.1 13 0 32) - 1).toNat) ((S0_.1 13 0 34) - 2) ((S0_.1 13 0 34) - 1) F_ Gr_ vx_ vy_ k_ (sm_pI S0_ 13 0 32 ((S0_.1 13 0 32) - 1))) rfl rfl (by decide) (vc_331 (S0_.2.2.1 136 0 ((S0_.1 13 0 32) - 1).toNat) ((S0_.1 13 0 34) - 2) ((S0_.1 13 0 34) - 1) F_ Gr_ vx_ vy_ k_ (sm_pI S0_ 13 0 32 ((S0_.1 13 0 32) - 1)) hIx4_ (by exact rgl_fr (w_ := ([(13, 32)], [], [])) xr (ai_fr_pI rfl) rfl rfl rfl rfl rfl rfl) (by omega) (by exact e1_) (by exact ⟨lxy_, x8_⟩) (by (intro z_; rw [l1_, l2_]; exact ⟨xv_.2.2.2.2.2.1 z_, xv_.2.2.1 z_⟩)) (by omega)) (fun u_ Sx13_ px16_ => ?_)
        obtain ⟨rfl, hIx14_, hFx15_, px16_⟩ := px16_
        have hFx17_ : ai_fr (sx_W vw_313g) S0_ Sx13_ := ai_fr_tr hFx5_ (fr_le hFx15_ rfl)
        have e93_ := px16_
        have m93_ : Sx13_.1 13 0 27 = 1 := (hFx15_.1 13 0 27 rfl).trans hmo1_
        have v93_ : Sx13_.1 13 0 34 = S0_.1 13 0 34 := hFx15_.1 13 0 34 rfl
        have w93_ : Sx13_.1 13 0 32 = S0_.1 13 0 32 - 1 := hFx15_.1 13 0 32 rfl
        have d93_ : Sx13_.2.2.1 138 0 = S0_.2.2.1 138 0 := by have q9_ := fr_arr (t := 138) (i := 0) hFx15_ rfl; exact q9_
        have g93_ : rg b_ n_ T_ (.inr p_) Sx13_ := rg_fr (show rg b_ n_ T_ (.inr p_) (sm_pI S0_ 13 0 32 ((S0_.1 13 0 32) - 1)) from hg_) hFx15_ rfl rfl rfl
        have k136_ : Sx13_.2.2.1 136 0 = S0_.2.2.1 136 0 := by have q9_ := fr_arr (t := 136) (i := 0) hFx15_ rfl; exact q9_
        have k137_ : Sx13_.2.2.1 137 0 = S0_.2.2.1 137 0 := by have q9_ := fr_arr (t := 137) (i := 0) hFx15_ rfl; exact q9_
        have b93_ : Sx13_.2.2.1 138 0 (S0_.1 13 0 34 - 2).toNat = (vx_.length : Int) := by rw [d93_]; exact e1_
        have o93_ : Sx13_.1 13 0 33 = (o_mk o_ : Int) := (hFx15_.1 13 0 33 rfl).trans (hop_.trans (by show (((if k_ < 0 then 1 else 0) + o_mk o_ : Nat) : Int) = _; rw [if_neg (by omega)]; simp))
        have bx18_ : 0 ≤ Sx13_.1 13 0 27 ∧ Sx13_.1 13 0 27 ≤ 2 := hIx14_.1 13 0 27 rfl
        refine sm_T_go 3 (c1 := (101, [some (.inr (.inr (some (13, 0)))), some (.inl (S0_.2.2.1 136 0 ((S0_.1 13 0 32) - 1).toNat)), some (.inl (S0_.2.2.1 137 0 ((S0_.1 13 0 32) - 1).toNat)), some (.inl ((S0_.1 13 0 34) - 2)), some (.inl ((S0_.1 13 0 34) - 1)), none, none], [.inl 2, .inl (Sx13_.1 13 0 27)], Sx13_)) rfl ?_
        refine sm_T_br (a := 1) (z := 68) rfl (fun cx19_ => ?_) (fun cx19_ => ?_)
        · have cx19_ : (Sx13_.1 13 0 27) ≠ 2 := of_decide_eq_true cx19_
          refine sm_T_go 5 (c1 := (178, [some (.inr (.inr (some (13, 0)))), some (.inl (S0_.2.2.1 136 0 ((S0_.1 13 0 32) - 1).toNat)), some (.inl (S0_.2.2.1 137 0 ((S0_.1 13 0 32) - 1).toNat)), some (.inl ((S0_.1 13 0 34) - 2)), some (.inl ((S0_.1 13 0 34) - 1)), none, none], [.inl 257, .inl (S0_.2.2.1 136 0 ((S0_.1 13 0 32) - 1).toNat), .inl ((S0_.1 13 0 34) - 2), .inr (.inr (some (138, 0)))], Sx13_)) rfl ?_
          refine sm_T_br (a := 1) (z := 7) rfl (fun cx20_ => ?_) (fun cx20_ => ?_)
          · have cx20_ : (S0_.2.2.1 136 0 ((S0_.1 13 0 32) - 1).toNat) ≠ 257 := of_decide_eq_true cx20_
            refine sm_T_go 3 (c1 := (190, [some (.inr (.inr (some (13, 0)))), some (.inl (S0_.2.2.1 136 0 ((S0_.1 13 0 32) - 1).toNat)), some (.inl (S0_.2.2.1 137 0 ((S0_.1 13 0 32) - 1).toNat)), some (.inl ((S0_.1 13 0 34) - 2)), some (.inl ((S0_.1 13 0 34) - 1)), none, none], [.inl ((S0_.1 13 0 34) - 2), .inr (.inr (some (138, 0))), .inl ((S0_.1 13 0 34) - 2), .inr (.inr (some (138, 0)))], Sx13_)) rfl ?_
            refine sm_T_iald (n := 1024) rfl rfl (by omega) (by omega) ?_
            have bx21_ : (-2147483648) ≤ Sx13_.2.2.1 138 0 ((S0_.1 13 0 34) - 2).toNat ∧ Sx13_.2.2.1 138 0 ((S0_.1 13 0 34) - 2).toNat ≤ 2147483647 := hIx14_.2 138 0 _
            refine sm_T_iast (n := 1024) rfl rfl (by omega) (by omega) ?_
            have hIx22_ : gi (sm_aI Sx13_ 138 0 ((S0_.1 13 0 34) - 2).toNat (Sx13_.2.2.1 138 0 ((S0_.1 13 0 34) - 2).toNat)) := gi_aI hIx14_ (show (-2147483648) ≤ (Sx13_.2.2.1 138 0 ((S0_.1 13 0 34) - 2).toNat) ∧ (Sx13_.2.2.1 138 0 ((S0_.1 13 0 34) - 2).toNat) ≤ 2147483647 from ⟨by omega, by omega⟩)
            have hFx23_ : ai_fr (sx_W vw_313g) S0_ (sm_aI Sx13_ 138 0 ((S0_.1 13 0 34) - 2).toNat (Sx13_.2.2.1 138 0 ((S0_.1 13 0 34) - 2).toNat)) := ai_fr_tr hFx17_ (ai_fr_aI rfl)
            have bx24_ : 0 ≤ Sx13_.1 13 0 34 ∧ Sx13_.1 13 0 34 ≤ 1023 := hIx14_.1 13 0 34 rfl
            refine sm_T_go 4 (c1 := (198, [some (.inr (.inr (some (13, 0)))), some (.inl (S0_.2.2.1 136 0 ((S0_.1 13 0 32) - 1).toNat)), some (.inl (S0_.2.2.1 137 0 ((S0_.1 13 0 32) - 1).toNat)), some (.inl ((S0_.1 13 0 34) - 2)), some (.inl ((S0_.1 13 0 34) - 1)), none, none], [.inl 1, .inl (Sx13_.1 13 0 34), .inr (.inr (some (13, 0)))], sm_aI Sx13_ 138 0 ((S0_.1 13 0 34) - 2).toNat (Sx13_.2.2.1 138 0 ((S0_.1 13 0 34) - 2).toNat))) rfl ?_
            refine sm_T_bin (w := (Sx13_.1 13 0 34) - 1) rfl (bi_sub (by omega) (by omega) (by omega)) ?_
            have hIx25_ : gi (sm_pI (sm_aI Sx13_ 138 0 ((S0_.1 13 0 34) - 2).toNat (Sx13_.2.2.1 138 0 ((S0_.1 13 0 34) - 2).toNat)) 13 0 34 ((Sx13_.1 13 0 34) - 1)) := gi_pI hIx22_ (show 0 ≤ (Sx13_.1 13 0 34) - 1 ∧ (Sx13_.1 13 0 34) - 1 ≤ 1023 from ⟨by omega, by omega⟩)
            have hFx26_ : ai_fr (sx_W vw_313g) S0_ (sm_pI (sm_aI Sx13_ 138 0 ((S0_.1 13 0 34) - 2).toNat (Sx13_.2.2.1 138 0 ((S0_.1 13 0 34) - 2).toNat)) 13 0 34 ((Sx13_.1 13 0 34) - 1)) := ai_fr_tr hFx23_ (ai_fr_pI rfl)
            refine sm_T_go 1 (c1 := (202, [some (.inr (.inr (some (13, 0)))), some (.inl (S0_.2.2.1 136 0 ((S0_.1 13 0 32) - 1).toNat)), some (.inl (S0_.2.2.1 137 0 ((S0_.1 13 0 32) - 1).toNat)), some (.inl ((S0_.1 13 0 34) - 2)), some (.inl ((S0_.1 13 0 34) - 1)), none, none], [], sm_pI (sm_aI Sx13_ 138 0 ((S0_.1 13 0 34) - 2).toNat (Sx13_.2.2.1 138 0 ((S0_.1 13 0 34) - 2).toNat)) 13 0 34 ((Sx13_.1 13 0 34) - 1))) rfl ?_
            refine sm_T_rv rfl ⟨_, _, rfl, rfl, hIx25_, hFx26_, ?_⟩
            refine ⟨?_, by (try simp only [rd_eq, rd_ne, rf_eq, rf_nk, rf_nt, rd_fa, rd_af, rd_fl, rd_al, rd_lf, rd_la, rd_leq, rd_lne, rd_fr, rd_ar, ne_eq, Nat.reduceEqDiff, not_false_eq_true]); omega⟩
            have nw_ : (if k_ = 4 then (1 : Int) else x_) = ((g_op F_ k_ Gr_ vx_ vy_).1.length : Int) := by rw [oln_]; by_cases z_ : k_ = 4; (rw [if_pos z_, if_pos z_]; rfl); (rw [if_neg z_, if_neg z_]; omega)
            rw [nw_]
            refine rz_mk (w_ := u0_) (V_ := (g_op F_ k_ Gr_ vx_ vy_).1 :: V_) g93_ ⟨?_, ?_, ?_⟩ hwr1_ o93_ ?_ m93_ ?_ evn_ (by rw [List.map_cons, xm2_]) ?_ ?_ (o_wd_b hz_.2.2 hk_)
            · (try simp only [rd_eq, rd_ne, rf_eq, rf_nk, rf_nt, rd_fa, rd_af, rd_fl, rd_al, rd_lf, rd_la, rd_leq, rd_lne, rd_fr, rd_ar, ne_eq, Nat.reduceEqDiff, not_false_eq_true]); omega
            · exact stk_cg (fun j_ _ => by (try simp only [rd_eq, rd_ne, rf_eq, rf_nk, rf_nt, rd_fa, rd_af, rd_fl, rd_al, rd_lf, rd_la, rd_leq, rd_lne, rd_fr, rd_ar, ne_eq, Nat.reduceEqDiff, not_false_eq_true]); rw [k136_]) hw_.2.1.2
            · exact stk_cg (fun j_ _ => by (try simp only [rd_eq, rd_ne, rf_eq, rf_nk, rf_nt, rd_fa, rd_af, rd_fl, rd_al, rd_lf, rd_la, rd_leq, rd_lne, rd_fr, rd_ar, ne_eq, Nat.reduceEqDiff, not_false_eq_true]); rw [k137_]) hw_.2.2.2
            · (try simp only [rd_eq, rd_ne, rf_eq, rf_nk, rf_nt, rd_fa, rd_af, rd_fl, rd_al, rd_lf, rd_la, rd_leq, rd_lne, rd_fr, rd_ar, ne_eq, Nat.reduceEqDiff, not_false_eq_true]); simp only [List.length_cons]; push_cast; omega
            · rw [← nw_]; exact s_ok_ap hk_ (by have xb_ := (h_ok_c.mp (h_ok_c.mp hs_.2.2.2).2).1; split; decide; exact xb_) hs_
            · exact rgl_fr (w_ := ([(13, 34)], [138], [])) e93_.1 (ai_fr_tr (ai_fr_aI rfl) (ai_fr_pI rfl)) rfl rfl rfl rfl rfl rfl
            · refine svl_tp xv_.2.2.2.2.2.2 (fun z_ => Nat.le_trans ogl_ z_) (fun j_ hj_ => ?_) (fun j_ hj_ => ?_) ?_ (by rw [oln_]; split <;> omega) (fun z_ => ?_)
              · (try simp only [rd_eq, rd_ne, rf_eq, rf_nk, rf_nt, rd_fa, rd_af, rd_fl, rd_al, rd_lf, rd_la, rd_leq, rd_lne, rd_fr, rd_ar, ne_eq, Nat.reduceEqDiff, not_false_eq_true]); exact e93_.2.2 j_ (by omega)
              · (try simp only [rd_eq, rd_ne, rf_eq, rf_nk, rf_nt, rd_fa, rd_af, rd_fl, rd_al, rd_lf, rd_la, rd_leq, rd_lne, rd_fr, rd_ar, ne_eq, Nat.reduceEqDiff, not_false_eq_true]); rw [if_neg (by omega), d93_]
              · rw [← nw_]; (try simp only [rd_eq, rd_ne, rf_eq, rf_nk, rf_nt, rd_fa, rd_af, rd_fl, rd_al, rd_lf, rd_la, rd_leq, rd_lne, rd_fr, rd_ar, ne_eq, Nat.reduceEqDiff, not_false_eq_true]); rw [if_pos l1_.symm]; first | (rw [if_pos (by omega)]; done) | (rw [if_neg (by omega)]; omega)
              · have q9_ := e93_.2.1 z_; rw [l1_] at q9_; exact q9_
          · have cx20_ : ¬ ((S0_.2.2.1 136 0 ((S0_.1 13 0 32) - 1).toNat) ≠ 257) := of_decide_eq_false cx20_
            refine sm_T_go 2 (c1 := (191, [some (.inr (.inr (some (13, 0)))), some (.inl (S0_.2.2.1 136 0 ((S0_.1 13 0 32) - 1).toNat)), some (.inl (S0_.2.2.1 137 0 ((S0_.1 13 0 32) - 1).toNat)), some (.inl ((S0_.1 13 0 34) - 2)), some (.inl ((S0_.1 13 0 34) - 1)), none, none], [.inl 1, .inl ((S0_.1 13 0 34) - 2), .inr (.inr (some (138, 0)))], Sx13_)) rfl ?_
            refine sm_T_iast (n := 1024) rfl rfl (by omega) (by omega) ?_
            have hIx27_ : gi (sm_aI Sx13_ 138 0 ((S0_.1 13 0 34) - 2).toNat 1) := gi_aI hIx14_ (show (-2147483648) ≤ 1 ∧ 1 ≤ 2147483647 from ⟨by omega, by omega⟩)
            have hFx28_ : ai_fr (sx_W vw_313g) S0_ (sm_aI Sx13_ 138 0 ((S0_.1 13 0 34) - 2).toNat 1) := ai_fr_tr hFx17_ (ai_fr_aI rfl)
            have bx29_ : 0 ≤ Sx13_.1 13 0 34 ∧ Sx13_.1 13 0 34 ≤ 1023 := hIx14_.1 13 0 34 rfl
            refine sm_T_go 4 (c1 := (198, [some (.inr (.inr (some (13, 0)))), some (.inl (S0_.2.2.1 136 0 ((S0_.1 13 0 32) - 1).toNat)), some (.inl (S0_.2.2.1 137 0 ((S0_.1 13 0 32) - 1).toNat)), some (.inl ((S0_.1 13 0 34) - 2)), some (.inl ((S0_.1 13 0 34) - 1)), none, none], [.inl 1, .inl (Sx13_.1 13 0 34), .inr (.inr (some (13, 0)))], sm_aI Sx13_ 138 0 ((S0_.1 13 0 34) - 2).toNat 1)) rfl ?_
            refine sm_T_bin (w := (Sx13_.1 13 0 34) - 1) rfl (bi_sub (by omega) (by omega) (by omega)) ?_
            have hIx30_ : gi (sm_pI (sm_aI Sx13_ 138 0 ((S0_.1 13 0 34) - 2).toNat 1) 13 0 34 ((Sx13_.1 13 0 34) - 1)) := gi_pI hIx27_ (show 0 ≤ (Sx13_.1 13 0 34) - 1 ∧ (Sx13_.1 13 0 34) - 1 ≤ 1023 from ⟨by omega, by omega⟩)
            have hFx31_ : ai_fr (sx_W vw_313g) S0_ (sm_pI (sm_aI Sx13_ 138 0 ((S0_.1 13 0 34) - 2).toNat 1) 13 0 34 ((Sx13_.1 13 0 34) - 1)) := ai_fr_tr hFx28_ (ai_fr_pI rfl)
            refine sm_T_go 1 (c1 := (202, [some (.inr (.inr (some (13, 0)))), some (.inl (S0_.2.2.1 136 0 ((S0_.1 13 0 32) - 1).toNat)), some (.inl (S0_.2.2.1 137 0 ((S0_.1 13 0 32) - 1).toNat)), some (.inl ((S0_.1 13 0 34) - 2)), some (.inl ((S0_.1 13 0 34) - 1)), none, none], [], sm_pI (sm_aI Sx13_ 138 0 ((S0_.1 13 0 34) - 2).toNat 1) 13 0 34 ((Sx13_.1 13 0 34) - 1))) rfl ?_
            refine sm_T_rv rfl ⟨_, _, rfl, rfl, hIx30_, hFx31_, ?_⟩
            refine ⟨?_, by (try simp only [rd_eq, rd_ne, rf_eq, rf_nk, rf_nt, rd_fa, rd_af, rd_fl, rd_al, rd_lf, rd_la, rd_leq, rd_lne, rd_fr, rd_ar, ne_eq, Nat.reduceEqDiff, not_false_eq_true]); omega⟩
            have nw_ : (if k_ = 4 then (1 : Int) else x_) = ((g_op F_ k_ Gr_ vx_ vy_).1.length : Int) := by rw [oln_]; by_cases z_ : k_ = 4; (rw [if_pos z_, if_pos z_]; rfl); (rw [if_neg z_, if_neg z_]; omega)
            rw [nw_]
            refine rz_mk (w_ := u0_) (V_ := (g_op F_ k_ Gr_ vx_ vy_).1 :: V_) g93_ ⟨?_, ?_, ?_⟩ hwr1_ o93_ ?_ m93_ ?_ evn_ (by rw [List.map_cons, xm2_]) ?_ ?_ (o_wd_b hz_.2.2 hk_)
            · (try simp only [rd_eq, rd_ne, rf_eq, rf_nk, rf_nt, rd_fa, rd_af, rd_fl, rd_al, rd_lf, rd_la, rd_leq, rd_lne, rd_fr, rd_ar, ne_eq, Nat.reduceEqDiff, not_false_eq_true]); omega
            · exact stk_cg (fun j_ _ => by (try simp only [rd_eq, rd_ne, rf_eq, rf_nk, rf_nt, rd_fa, rd_af, rd_fl, rd_al, rd_lf, rd_la, rd_leq, rd_lne, rd_fr, rd_ar, ne_eq, Nat.reduceEqDiff, not_false_eq_true]); rw [k136_]) hw_.2.1.2
            · exact stk_cg (fun j_ _ => by (try simp only [rd_eq, rd_ne, rf_eq, rf_nk, rf_nt, rd_fa, rd_af, rd_fl, rd_al, rd_lf, rd_la, rd_leq, rd_lne, rd_fr, rd_ar, ne_eq, Nat.reduceEqDiff, not_false_eq_true]); rw [k137_]) hw_.2.2.2
            · (try simp only [rd_eq, rd_ne, rf_eq, rf_nk, rf_nt, rd_fa, rd_af, rd_fl, rd_al, rd_lf, rd_la, rd_leq, rd_lne, rd_fr, rd_ar, ne_eq, Nat.reduceEqDiff, not_false_eq_true]); simp only [List.length_cons]; push_cast; omega
            · rw [← nw_]; exact s_ok_ap hk_ (by have xb_ := (h_ok_c.mp (h_ok_c.mp hs_.2.2.2).2).1; split; decide; exact xb_) hs_
            · exact rgl_fr (w_ := ([(13, 34)], [138], [])) e93_.1 (ai_fr_tr (ai_fr_aI rfl) (ai_fr_pI rfl)) rfl rfl rfl rfl rfl rfl
            · refine svl_tp xv_.2.2.2.2.2.2 (fun z_ => Nat.le_trans ogl_ z_) (fun j_ hj_ => ?_) (fun j_ hj_ => ?_) ?_ (by rw [oln_]; split <;> omega) (fun z_ => ?_)
              · (try simp only [rd_eq, rd_ne, rf_eq, rf_nk, rf_nt, rd_fa, rd_af, rd_fl, rd_al, rd_lf, rd_la, rd_leq, rd_lne, rd_fr, rd_ar, ne_eq, Nat.reduceEqDiff, not_false_eq_true]); exact e93_.2.2 j_ (by omega)
              · (try simp only [rd_eq, rd_ne, rf_eq, rf_nk, rf_nt, rd_fa, rd_af, rd_fl, rd_al, rd_lf, rd_la, rd_leq, rd_lne, rd_fr, rd_ar, ne_eq, Nat.reduceEqDiff, not_false_eq_true]); rw [if_neg (by omega), d93_]
              · rw [← nw_]; (try simp only [rd_eq, rd_ne, rf_eq, rf_nk, rf_nt, rd_fa, rd_af, rd_fl, rd_al, rd_lf, rd_la, rd_leq, rd_lne, rd_fr, rd_ar, ne_eq, Nat.reduceEqDiff, not_false_eq_true]); rw [if_pos l1_.symm]; first | (rw [if_pos (by omega)]; done) | (rw [if_neg (by omega)]; omega)
              · have q9_ := e93_.2.1 z_; rw [l1_] at q9_; exact q9_
        · have cx19_ : ¬ ((Sx13_.1 13 0 27) ≠ 2) := of_decide_eq_false cx19_
          exfalso; omega
    · have cx11_ : ¬ ((S0_.2.2.1 138 0 ((S0_.1 13 0 34) - 2).toNat) = (S0_.2.2.1 138 0 ((S0_.1 13 0 34) - 1).toNat)) := of_decide_eq_false cx11_
      exfalso; omega
end
/-! 99.zc3b -/
section
/-! M_.choose -/
def vw_314g : sx_Wl := ([(13, 32), (13, 33), (13, 34), (13, 37)], [138, 139, 140, 141, 142, 143], [])
def vq_314g (b_ : Nat → Int) (n_ : Nat) (T_ : Nat) (p_ : Nat) (F_ : Nat) (I_ : Nat) (A_ : pA) (X_ : Nat → gQ → gE → Option (gQ × gE)) (m_ : Nat) (s0_ : gS) (q_ : Nat) (o_ : List (Int × Nat)) (x_ : Int) (y_ : Int) (z_ : Int) (g_ : List Int) (c_ : List Int) (S0_ : sm_S) (u_ : Option sm_V) (S1_ : sm_S) : Prop := u_ = none ∧ gi S1_ ∧ ai_fr (sx_W vw_314g) S0_ S1_ ∧ (rz b_ n_ T_ p_ F_ I_ A_ X_ m_ s0_ (o_, y_ :: g_, 7 :: c_) S1_ ∧ (S1_.1 13 0 32) = (S0_.1 13 0 32) - 1)
set_option maxHeartbeats 1500000 in
theorem vc_314g {sc_ : Nat × (Nat → Int)} (b_ : Nat → Int) (n_ : Nat) (T_ : Nat) (p_ : Nat) (F_ : Nat) (I_ : Nat) (A_ : pA) (X_ : Nat → gQ → gE → Option (gQ × gE)) (m_ : Nat) (s0_ : gS) (q_ : Nat) (o_ : List (Int × Nat)) (x_ : Int) (y_ : Int) (z_ : Int) (g_ : List Int) (c_ : List Int) (S0_ : sm_S) (hI_ : gi S0_) (ht_ : rtab b_ n_ T_ S0_) (hz_ : rz b_ n_ T_ p_ F_ I_ A_ X_ m_ s0_ ((-4, q_) :: o_, x_ :: y_ :: z_ :: g_, c_) S0_) (hxy_ : x_ = y_) : sm_T (mt_P sc_) 4 314 (0, [some (.inr (.inr (some (13, 0)))), none, none], [], S0_) (fun ro9_ => ∃ u_ S1_, ro9_ = (.inl u_, S1_, 0) ∧ vq_314g b_ n_ T_ p_ F_ I_ A_ X_ m_ s0_ q_ o_ x_ y_ z_ g_ c_ S0_ u_ S1_) := by
  have hF_ : ai_fr (sx_W vw_314g) S0_ S0_ := ai_fr_rf
  obtain ⟨⟨hg_, ⟨w0_, hw_, hwl_⟩, hop_, hv_, hmo1_⟩, hs_⟩ := id hz_.1
  have hwl_ : wl b_ n_ T_ ((-4, q_) :: o_) w0_ := by rcases hwl_ with z_ | z_; (exact absurd z_.1 (by decide)); (exact z_.2)
  obtain ⟨tq_, u0_, rfl, hq_, hwr_⟩ := hwl_
  have hT_ := ht_.2.1
  have hq1_ := rtp_at ht_ hq_
  obtain ⟨v1_, v2_, v3_⟩ := id hv_
  have w1_ := ws_tp hw_ (by rw [hw_.1, List.length_cons]; push_cast; omega)
  obtain ⟨y9_, u9_, w3_, w4_, w5_⟩ := w1_.2
  cases w3_
  have hwl1_ : S0_.1 13 0 32 = (u0_.length : Int) + 1 := by rw [hw_.1, List.length_cons]; push_cast; rfl
  have hf0_ := hg_.1
  have hol_ := o_lim hs_.1 hs_.2.1
  obtain ⟨Gr_, V0_, xe_, xm_, xr, xv_⟩ := id hz_.2.1
  obtain ⟨vy_, V1_, rfl, ly_, xm1_⟩ := mp_c xm_
  obtain ⟨vx_, Vq_, rfl, lx_, xm2_⟩ := mp_c xm1_
  obtain ⟨vz_, V_, rfl, lz_, xm3_⟩ := mp_c xm2_
  have hwr1_ : wl b_ n_ T_ o_ u0_ := by rcases hwr_ with z9_ | z9_; (exact z9_.2); (exact absurd z9_.1 (by decide))
  clear hwr_
  have hop1_ : S0_.1 13 0 33 = (o_mk o_ : Int) + 1 := by rw [hop_]; show ((1 + o_mk o_ : Nat) : Int) = _; push_cast; omega
  have v4_ : S0_.1 13 0 34 = (g_.length : Int) + 3 := by rw [v1_]; simp only [List.length_cons]; push_cast; omega
  have Vl_ : V_.length = g_.length := by rw [← xm3_, List.length_map]
  have l1_ : (S0_.1 13 0 34 - 3).toNat = V_.length := by omega
  have l2_ : (S0_.1 13 0 34 - 2).toNat = (vz_ :: V_).length := by simp only [List.length_cons]; omega
  have l3_ : (S0_.1 13 0 34 - 1).toNat = (vx_ :: vz_ :: V_).length := by simp only [List.length_cons]; omega
  have e2_ : S0_.2.2.1 138 0 (S0_.1 13 0 34 - 2).toNat = (vx_.length : Int) := by rw [l2_]; exact xv_.2.2.2.1
  have e3_ : S0_.2.2.1 138 0 (S0_.1 13 0 34 - 1).toNat = (vy_.length : Int) := by rw [l3_]; exact xv_.1
  have hul_ : u0_.length ≤ 731 := by have := wl_len hwr1_; have h9_ : ((-4, q_) :: o_).length ≤ 365 := hol_.1; simp only [List.length_cons] at h9_; omega
  have hgl_ : (x_ :: y_ :: z_ :: g_).length = o_hl ((-4, q_) :: o_) + 1 := hs_.2.2.1
  have hgl2_ : o_hl ((-4, q_) :: o_) ≤ 425 := hol_.2
  simp only [List.length_cons] at hgl_
  have lxy_ : vx_.length = vy_.length := by omega
  have x8_ := xv_.2.2.2.2.1
  have ow_ := o_wd_4 hz_.2.2
  obtain ⟨cc_, rfl⟩ : ∃ cc_, vz_ = [cc_] := by cases vz_ with | nil => (simp only [List.length_nil] at lz_; omega) | cons a1_ a2_ => (cases a2_ with | nil => exact ⟨a1_, rfl⟩ | cons a3_ a4_ => (simp only [List.length_cons] at lz_; push_cast at lz_; omega))
  have evn_ := ev_ch xe_ lxy_ x8_.1
  have ogl_ : Gr_.length ≤ (g_ch F_ cc_ Gr_ vx_ vy_).2.length := g_z2_le (fun G_ a_ b_ => g_c3_le) _ _ _
  have oln_ : (g_ch F_ cc_ Gr_ vx_ vy_).1.length = vx_.length := g_z2_ln _ _ _ lxy_
  have bx1_ : 0 ≤ S0_.1 13 0 32 ∧ S0_.1 13 0 32 ≤ 1023 := hI_.1 13 0 32 rfl
  refine sm_T_go 5 (c1 := (9, [some (.inr (.inr (some (13, 0)))), none, none], [.inl 1, .inl (S0_.1 13 0 32), .inr (.inr (some (137, 0)))], S0_)) rfl ?_
  refine sm_T_bin (w := (S0_.1 13 0 32) - 1) rfl (bi_sub (by omega) (by omega) (by omega)) ?_
  refine sm_T_iald (n := 1024) rfl rfl (by omega) (by omega) ?_
  have bx2_ : 0 ≤ S0_.2.2.1 137 0 ((S0_.1 13 0 32) - 1).toNat ∧ S0_.2.2.1 137 0 ((S0_.1 13 0 32) - 1).toNat ≤ 1280 := hI_.2 137 0 _
  refine sm_T_go 5 (c1 := (18, [some (.inr (.inr (some (13, 0)))), some (.inl (S0_.2.2.1 137 0 ((S0_.1 13 0 32) - 1).toNat)), none], [.inl 1, .inl (S0_.1 13 0 32), .inr (.inr (some (13, 0)))], S0_)) rfl ?_
  refine sm_T_bin (w := (S0_.1 13 0 32) - 1) rfl (bi_sub (by omega) (by omega) (by omega)) ?_
  have hIx3_ : gi (sm_pI S0_ 13 0 32 ((S0_.1 13 0 32) - 1)) := gi_pI hI_ (show 0 ≤ (S0_.1 13 0 32) - 1 ∧ (S0_.1 13 0 32) - 1 ≤ 1023 from ⟨by omega, by omega⟩)
  have hFx4_ : ai_fr (sx_W vw_314g) S0_ (sm_pI S0_ 13 0 32 ((S0_.1 13 0 32) - 1)) := ai_fr_tr hF_ (ai_fr_pI rfl)
  have bx5_ : 0 ≤ S0_.1 13 0 33 ∧ S0_.1 13 0 33 ≤ 60 := hI_.1 13 0 33 rfl
  refine sm_T_go 5 (c1 := (28, [some (.inr (.inr (some (13, 0)))), some (.inl (S0_.2.2.1 137 0 ((S0_.1 13 0 32) - 1).toNat)), none], [.inl 1, .inl (S0_.1 13 0 33), .inr (.inr (some (13, 0)))], sm_pI S0_ 13 0 32 ((S0_.1 13 0 32) - 1))) rfl ?_
  refine sm_T_bin (w := (S0_.1 13 0 33) - 1) rfl (bi_sub (by omega) (by omega) (by omega)) ?_
  have hIx6_ : gi (sm_pI (sm_pI S0_ 13 0 32 ((S0_.1 13 0 32) - 1)) 13 0 33 ((S0_.1 13 0 33) - 1)) := gi_pI hIx3_ (show 0 ≤ (S0_.1 13 0 33) - 1 ∧ (S0_.1 13 0 33) - 1 ≤ 60 from ⟨by omega, by omega⟩)
  have hFx7_ : ai_fr (sx_W vw_314g) S0_ (sm_pI (sm_pI S0_ 13 0 32 ((S0_.1 13 0 32) - 1)) 13 0 33 ((S0_.1 13 0 33) - 1)) := ai_fr_tr hFx4_ (ai_fr_pI rfl)
  have bx8_ : 0 ≤ S0_.1 13 0 34 ∧ S0_.1 13 0 34 ≤ 1023 := hI_.1 13 0 34 rfl
  refine sm_T_go 4 (c1 := (37, [some (.inr (.inr (some (13, 0)))), some (.inl (S0_.2.2.1 137 0 ((S0_.1 13 0 32) - 1).toNat)), none], [.inl 3, .inl (S0_.1 13 0 34)], sm_pI (sm_pI S0_ 13 0 32 ((S0_.1 13 0 32) - 1)) 13 0 33 ((S0_.1 13 0 33) - 1))) rfl ?_
  refine sm_T_bin (w := (S0_.1 13 0 34) - 3) rfl (bi_sub (by omega) (by omega) (by omega)) ?_
  refine sm_T_go 5 (c1 := (45, [some (.inr (.inr (some (13, 0)))), some (.inl (S0_.2.2.1 137 0 ((S0_.1 13 0 32) - 1).toNat)), some (.inl ((S0_.1 13 0 34) - 3))], [.inl 1, .inl ((S0_.1 13 0 34) - 3), .inr (.inr (some (138, 0)))], sm_pI (sm_pI S0_ 13 0 32 ((S0_.1 13 0 32) - 1)) 13 0 33 ((S0_.1 13 0 33) - 1))) rfl ?_
  refine sm_T_bin (w := (S0_.1 13 0 34) - 2) rfl (bi_add (by omega) (by omega) (by omega)) ?_
  refine sm_T_iald (n := 1024) rfl rfl (by omega) (by omega) ?_
  have bx9_ : (-2147483648) ≤ S0_.2.2.1 138 0 ((S0_.1 13 0 34) - 2).toNat ∧ S0_.2.2.1 138 0 ((S0_.1 13 0 34) - 2).toNat ≤ 2147483647 := hI_.2 138 0 _
  refine sm_T_go 4 (c1 := (53, [some (.inr (.inr (some (13, 0)))), some (.inl (S0_.2.2.1 137 0 ((S0_.1 13 0 32) - 1).toNat)), some (.inl ((S0_.1 13 0 34) - 3))], [.inl 2, .inl ((S0_.1 13 0 34) - 3), .inr (.inr (some (138, 0))), .inl (S0_.2.2.1 138 0 ((S0_.1 13 0 34) - 2).toNat)], sm_pI (sm_pI S0_ 13 0 32 ((S0_.1 13 0 32) - 1)) 13 0 33 ((S0_.1 13 0 33) - 1))) rfl ?_
  refine sm_T_bin (w := (S0_.1 13 0 34) - 1) rfl (bi_add (by omega) (by omega) (by omega)) ?_
  refine sm_T_iald (n := 1024) rfl rfl (by omega) (by omega) ?_
  have bx10_ : (-2147483648) ≤ S0_.2.2.1 138 0 ((S0_.1 13 0 34) - 1).toNat ∧ S0_.2.2.1 138 0 ((S0_.1 13 0 34) - 1).toNat ≤ 2147483647 := hI_.2 138 0 _
  refine sm_T_go 0 (c1 := (55, [some (.inr (.inr (some (13, 0)))), some (.inl (S0_.2.2.1 137 0 ((S0_.1 13 0 32) - 1).toNat)), some (.inl ((S0_.1 13 0 34) - 3))], [.inl (S0_.2.2.1 138 0 ((S0_.1 13 0 34) - 1).toNat), .inl (S0_.2.2.1 138 0 ((S0_.1 13 0 34) - 2).toNat)], sm_pI (sm_pI S0_ 13 0 32 ((S0_.1 13 0 32) - 1)) 13 0 33 ((S0_.1 13 0 33) - 1))) rfl ?_
  refine sm_T_br (a := 0) (z := 10) rfl (fun cx11_ => ?_) (fun cx11_ => ?_)
  · have cx11_ : (S0_.2.2.1 138 0 ((S0_.1 13 0 34) - 2).toNat) = (S0_.2.2.1 138 0 ((S0_.1 13 0 34) - 1).toNat) := of_decide_eq_true cx11_
    have bx12_ : 0 ≤ S0_.1 13 0 27 ∧ S0_.1 13 0 27 ≤ 2 := hI_.1 13 0 27 rfl
    refine sm_T_go 3 (c1 := (70, [some (.inr (.inr (some (13, 0)))), some (.inl (S0_.2.2.1 137 0 ((S0_.1 13 0 32) - 1).toNat)), some (.inl ((S0_.1 13 0 34) - 3))], [.inl 1, .inl (S0_.1 13 0 27)], sm_pI (sm_pI S0_ 13 0 32 ((S0_.1 13 0 32) - 1)) 13 0 33 ((S0_.1 13 0 33) - 1))) rfl ?_
    refine sm_T_br (a := 1) (z := 8) rfl (fun cx13_ => ?_) (fun cx13_ => ?_)
    · have cx13_ : (S0_.1 13 0 27) ≠ 1 := of_decide_eq_true cx13_
      exfalso; omega
    · have cx13_ : ¬ ((S0_.1 13 0 27) ≠ 1) := of_decide_eq_false cx13_
      refine sm_T_go 2 (c1 := (75, [some (.inr (.inr (some (13, 0)))), some (.inl (S0_.2.2.1 137 0 ((S0_.1 13 0 32) - 1).toNat)), some (.inl ((S0_.1 13 0 34) - 3))], [.inl ((S0_.1 13 0 34) - 3), .inr (.inr (some (13, 0)))], sm_pI (sm_pI S0_ 13 0 32 ((S0_.1 13 0 32) - 1)) 13 0 33 ((S0_.1 13 0 33) - 1))) rfl ?_
      refine sm_T_cal (d1 := 3) (Q1 := vq_332 ((S0_.1 13 0 34) - 3) F_ Gr_ cc_ vx_ vy_ (sm_pI (sm_pI S0_ 13 0 32 ((S0_.1 13 0 32) - 1)) 13 0 33 ((S0_.1 13 0 33) - 1))) rfl rfl (by decide) (vc_332 ((S0_.1 13 0 34) - 3) F_ Gr_ cc_ vx_ vy_ (sm_pI (sm_pI S0_ 13 0 32 ((S0_.1 13 0 32) - 1)) 13 0 33 ((S0_.1 13 0 33) - 1)) hIx6_ (by exact rgl_fr (w_ := ([(13, 32), (13, 33)], [], [])) xr (ai_fr_tr (ai_fr_pI rfl) (ai_fr_pI rfl)) rfl rfl rfl rfl rfl rfl) (by omega) (by (rw [l1_]; exact xv_.2.2.2.1)) (by exact ⟨lxy_, x8_.2⟩) (by (intro z9_; rw [l1_]; exact ⟨xv_.2.2.2.2.2.2.2.2.1 z9_, xv_.2.2.2.2.2.1 z9_, xv_.2.2.1 z9_⟩))) (fun u_ Sx14_ px17_ => ?_)
      obtain ⟨rfl, hIx15_, hFx16_, px17_⟩ := px17_
      have hFx18_ : ai_fr (sx_W vw_314g) S0_ Sx14_ := ai_fr_tr hFx7_ (fr_le hFx16_ rfl)
      have e93_ := px17_
      have m93_ : Sx14_.1 13 0 27 = 1 := (hFx16_.1 13 0 27 rfl).trans hmo1_
      have v93_ : Sx14_.1 13 0 34 = S0_.1 13 0 34 := hFx16_.1 13 0 34 rfl
      have w93_ : Sx14_.1 13 0 32 = S0_.1 13 0 32 - 1 := hFx16_.1 13 0 32 rfl
      have d93_ : Sx14_.2.2.1 138 0 = S0_.2.2.1 138 0 := by have q9_ := fr_arr (t := 138) (i := 0) hFx16_ rfl; exact q9_
      have g93_ : rg b_ n_ T_ (.inr p_) Sx14_ := rg_fr (show rg b_ n_ T_ (.inr p_) (sm_pI (sm_pI S0_ 13 0 32 ((S0_.1 13 0 32) - 1)) 13 0 33 ((S0_.1 13 0 33) - 1)) from hg_) hFx16_ rfl rfl rfl
      have k136_ : Sx14_.2.2.1 136 0 = S0_.2.2.1 136 0 := by have q9_ := fr_arr (t := 136) (i := 0) hFx16_ rfl; exact q9_
      have k137_ : Sx14_.2.2.1 137 0 = S0_.2.2.1 137 0 := by have q9_ := fr_arr (t := 137) (i := 0) hFx16_ rfl; exact q9_
      have b93_ : Sx14_.2.2.1 138 0 (S0_.1 13 0 34 - 2).toNat = (vx_.length : Int) := by rw [d93_]; exact e2_
      have o93_ : Sx14_.1 13 0 33 = (o_mk o_ : Int) := (hFx16_.1 13 0 33 rfl).trans (by show S0_.1 13 0 33 - 1 = _; omega)
      refine sm_T_go 7 (c1 := (89, [some (.inr (.inr (some (13, 0)))), some (.inl (S0_.2.2.1 137 0 ((S0_.1 13 0 32) - 1).toNat)), some (.inl ((S0_.1 13 0 34) - 3))], [.inl 1, .inl ((S0_.1 13 0 34) - 3), .inr (.inr (some (138, 0))), .inl ((S0_.1 13 0 34) - 3), .inr (.inr (some (138, 0)))], Sx14_)) rfl ?_
      refine sm_T_bin (w := (S0_.1 13 0 34) - 2) rfl (bi_add (by omega) (by omega) (by omega)) ?_
      refine sm_T_iald (n := 1024) rfl rfl (by omega) (by omega) ?_
      have bx19_ : (-2147483648) ≤ Sx14_.2.2.1 138 0 ((S0_.1 13 0 34) - 2).toNat ∧ Sx14_.2.2.1 138 0 ((S0_.1 13 0 34) - 2).toNat ≤ 2147483647 := hIx15_.2 138 0 _
      refine sm_T_iast (n := 1024) rfl rfl (by omega) (by omega) ?_
      have hIx20_ : gi (sm_aI Sx14_ 138 0 ((S0_.1 13 0 34) - 3).toNat (Sx14_.2.2.1 138 0 ((S0_.1 13 0 34) - 2).toNat)) := gi_aI hIx15_ (show (-2147483648) ≤ (Sx14_.2.2.1 138 0 ((S0_.1 13 0 34) - 2).toNat) ∧ (Sx14_.2.2.1 138 0 ((S0_.1 13 0 34) - 2).toNat) ≤ 2147483647 from ⟨by omega, by omega⟩)
      have hFx21_ : ai_fr (sx_W vw_314g) S0_ (sm_aI Sx14_ 138 0 ((S0_.1 13 0 34) - 3).toNat (Sx14_.2.2.1 138 0 ((S0_.1 13 0 34) - 2).toNat)) := ai_fr_tr hFx18_ (ai_fr_aI rfl)
      have bx22_ : 0 ≤ Sx14_.1 13 0 34 ∧ Sx14_.1 13 0 34 ≤ 1023 := hIx15_.1 13 0 34 rfl
      refine sm_T_go 4 (c1 := (98, [some (.inr (.inr (some (13, 0)))), some (.inl (S0_.2.2.1 137 0 ((S0_.1 13 0 32) - 1).toNat)), some (.inl ((S0_.1 13 0 34) - 3))], [.inl 2, .inl (Sx14_.1 13 0 34), .inr (.inr (some (13, 0)))], sm_aI Sx14_ 138 0 ((S0_.1 13 0 34) - 3).toNat (Sx14_.2.2.1 138 0 ((S0_.1 13 0 34) - 2).toNat))) rfl ?_
      refine sm_T_bin (w := (Sx14_.1 13 0 34) - 2) rfl (bi_sub (by omega) (by omega) (by omega)) ?_
      have hIx23_ : gi (sm_pI (sm_aI Sx14_ 138 0 ((S0_.1 13 0 34) - 3).toNat (Sx14_.2.2.1 138 0 ((S0_.1 13 0 34) - 2).toNat)) 13 0 34 ((Sx14_.1 13 0 34) - 2)) := gi_pI hIx20_ (show 0 ≤ (Sx14_.1 13 0 34) - 2 ∧ (Sx14_.1 13 0 34) - 2 ≤ 1023 from ⟨by omega, by omega⟩)
      have hFx24_ : ai_fr (sx_W vw_314g) S0_ (sm_pI (sm_aI Sx14_ 138 0 ((S0_.1 13 0 34) - 3).toNat (Sx14_.2.2.1 138 0 ((S0_.1 13 0 34) - 2).toNat)) 13 0 34 ((Sx14_.1 13 0 34) - 2)) := ai_fr_tr hFx21_ (ai_fr_pI rfl)
      refine sm_T_go 1 (c1 := (102, [some (.inr (.inr (some (13, 0)))), some (.inl (S0_.2.2.1 137 0 ((S0_.1 13 0 32) - 1).toNat)), some (.inl ((S0_.1 13 0 34) - 3))], [], sm_pI (sm_aI Sx14_ 138 0 ((S0_.1 13 0 34) - 3).toNat (Sx14_.2.2.1 138 0 ((S0_.1 13 0 34) - 2).toNat)) 13 0 34 ((Sx14_.1 13 0 34) - 2))) rfl ?_
      refine sm_T_rv rfl ⟨_, _, rfl, rfl, hIx23_, hFx24_, ?_⟩
      refine ⟨?_, by (try simp only [rd_eq, rd_ne, rf_eq, rf_nk, rf_nt, rd_fa, rd_af, rd_fl, rd_al, rd_lf, rd_la, rd_leq, rd_lne, rd_fr, rd_ar, ne_eq, Nat.reduceEqDiff, not_false_eq_true]); omega⟩
      have nw_ : y_ = ((g_ch F_ cc_ Gr_ vx_ vy_).1.length : Int) := by rw [oln_]; omega
      refine rz_mk (w_ := u0_) (V_ := (g_ch F_ cc_ Gr_ vx_ vy_).1 :: V_) g93_ ⟨?_, ?_, ?_⟩ hwr1_ o93_ ?_ m93_ ?_ evn_ (by rw [List.map_cons, xm3_, ← nw_]) ?_ ?_ ow_.2
      · (try simp only [rd_eq, rd_ne, rf_eq, rf_nk, rf_nt, rd_fa, rd_af, rd_fl, rd_al, rd_lf, rd_la, rd_leq, rd_lne, rd_fr, rd_ar, ne_eq, Nat.reduceEqDiff, not_false_eq_true]); omega
      · exact stk_cg (fun j_ _ => by (try simp only [rd_eq, rd_ne, rf_eq, rf_nk, rf_nt, rd_fa, rd_af, rd_fl, rd_al, rd_lf, rd_la, rd_leq, rd_lne, rd_fr, rd_ar, ne_eq, Nat.reduceEqDiff, not_false_eq_true]); rw [k136_]) hw_.2.1.2
      · exact stk_cg (fun j_ _ => by (try simp only [rd_eq, rd_ne, rf_eq, rf_nk, rf_nt, rd_fa, rd_af, rd_fl, rd_al, rd_lf, rd_la, rd_leq, rd_lne, rd_fr, rd_ar, ne_eq, Nat.reduceEqDiff, not_false_eq_true]); rw [k137_]) hw_.2.2.2
      · (try simp only [rd_eq, rd_ne, rf_eq, rf_nk, rf_nt, rd_fa, rd_af, rd_fl, rd_al, rd_lf, rd_la, rd_leq, rd_lne, rd_fr, rd_ar, ne_eq, Nat.reduceEqDiff, not_false_eq_true]); simp only [List.length_cons]; push_cast; omega
      · obtain ⟨t1_, t2_, t3_, t4_⟩ := hs_; refine ⟨t1_.2.2, ?_, ?_, ?_⟩; (have t2_ : 1 + o_mk o_ ≤ 60 := t2_; show o_mk o_ ≤ 60; omega); (show (y_ :: g_).length = o_hl o_ + 1; have t3_ : (x_ :: y_ :: z_ :: g_).length = (2 + o_hl o_) + 1 := t3_; simp only [List.length_cons] at t3_ ⊢; omega); (exact h_ok_c.mpr ⟨(h_ok_c.mp (h_ok_c.mp t4_).2).1, (h_ok_c.mp (h_ok_c.mp (h_ok_c.mp t4_).2).2).2⟩)
      · exact rgl_fr (w_ := ([(13, 34)], [138], [])) e93_.1 (ai_fr_tr (ai_fr_aI rfl) (ai_fr_pI rfl)) rfl rfl rfl rfl rfl rfl
      · refine svl_tp xv_.2.2.2.2.2.2.2.2.2 (fun z9_ => Nat.le_trans ogl_ z9_) (fun j_ hj_ => ?_) (fun j_ hj_ => ?_) ?_ (by rw [oln_]; exact x8_) (fun z9_ => ?_)
        · (try simp only [rd_eq, rd_ne, rf_eq, rf_nk, rf_nt, rd_fa, rd_af, rd_fl, rd_al, rd_lf, rd_la, rd_leq, rd_lne, rd_fr, rd_ar, ne_eq, Nat.reduceEqDiff, not_false_eq_true]); exact e93_.2.2 j_ (by omega)
        · (try simp only [rd_eq, rd_ne, rf_eq, rf_nk, rf_nt, rd_fa, rd_af, rd_fl, rd_al, rd_lf, rd_la, rd_leq, rd_lne, rd_fr, rd_ar, ne_eq, Nat.reduceEqDiff, not_false_eq_true]); rw [if_neg (by omega), d93_]
        · rw [oln_]; (try simp only [rd_eq, rd_ne, rf_eq, rf_nk, rf_nt, rd_fa, rd_af, rd_fl, rd_al, rd_lf, rd_la, rd_leq, rd_lne, rd_fr, rd_ar, ne_eq, Nat.reduceEqDiff, not_false_eq_true]); rw [if_pos l1_.symm]; omega
        · have q9_ := e93_.2.1 z9_; rw [l1_] at q9_; exact q9_
  · have cx11_ : ¬ ((S0_.2.2.1 138 0 ((S0_.1 13 0 34) - 2).toNat) = (S0_.2.2.1 138 0 ((S0_.1 13 0 34) - 1).toNat)) := of_decide_eq_false cx11_
    exfalso; omega
end
/-! 99.zc4a -/
section
/-! the reference: settling, second pass; written by wip/p55/gen/vg -/

/-! settling, second pass -/
theorem rz_f {b_ : Nat → Int} {n_ T_ p_ F_ I_ m_ : Nat} {A_ : pA} {X_ : Nat → gQ → gE → Option (gQ × gE)} {s0_ : gS} {s_ : pO} {S_ : sm_S} (h_ : rz b_ n_ T_ p_ F_ I_ A_ X_ m_ s0_ s_ S_) : S_.1 13 0 10 = 0 := h_.1.1.1.1
theorem se1_ap {ls_ k_ x_ y_ : Int} {q_ : Nat} {o_ : List (Int × Nat)} {g_ c_ : List Int} {s_ : pO} (h_ : ls_ ≤ k_) (e_ : p_se2 1 ls_ ((k_, q_) :: o_, y_ :: x_ :: g_, c_) = .inr s_) : x_ = y_ ∧ p_se2 1 ls_ (o_, (if k_ = 4 then 1 else x_) :: g_, k_ :: c_) = .inr s_ := by
  rw [se2_ap h_] at e_
  obtain ⟨a_, h1_, h2_⟩ := pb_inr e_
  have q1_ := ap2_r (show p_ap2 false k_ q_ o_ x_ y_ g_ c_ = .inr a_ from h1_)
  rw [q1_.2] at h2_
  exact ⟨q1_.1, h2_⟩
theorem sa1_ch {q_ : Nat} {o_ : List (Int × Nat)} {x_ y_ z_ : Int} {g_ c_ : List Int} {s_ : pO} (e_ : p_sa2 1 ((-4, q_) :: o_, x_ :: y_ :: z_ :: g_, c_) = .inr s_) : x_ = y_ ∧ p_sa2 1 (o_, y_ :: g_, 7 :: c_) = .inr s_ := by
  rw [sa2_ch] at e_
  obtain ⟨a_, h1_, h2_⟩ := pb_inr e_
  have q1_ := ch2_r h1_
  rw [q1_.2] at h2_
  exact ⟨q1_.1, h2_⟩
theorem sa1_se {s_ s1_ : pO} (e_ : p_sa2 1 s_ = .inr s1_) : ∃ s2_, p_se2 1 1 s_ = .inr s2_ ∧ p_sa2 1 s2_ = .inr s1_ := by
  have h_ := sa2_se (mo_ := 1) (y_ := .inr s_)
  rw [pb_r rfl, pb_r rfl, e_] at h_
  obtain ⟨a_, h1_, h2_⟩ := pb_inr h_.symm
  exact ⟨a_, h1_, h2_⟩
theorem se1_lt {b_ : Nat → Int} {n_ T_ p_ F_ I_ m_ : Nat} {A_ : pA} {X_ : Nat → gQ → gE → Option (gQ × gE)} {s0_ : gS} {s_ s2_ : pO} {S_ : sm_S} (h_ : rz b_ n_ T_ p_ F_ I_ A_ X_ m_ s0_ s_ S_) (e_ : p_se2 1 1 s_ = .inr s2_) : o_tp s2_.1 < 1 := se2_lt h_.1 (show pb (.inr s_) (p_se2 1 1) = .inr s2_ from e_)
/-! M_.settle -/
def vw_315g : sx_Wl := ([(13, 32), (13, 34), (13, 37)], [138, 139, 140, 141, 142, 143], [])
def vq_315g (ls_ : Int) (b_ : Nat → Int) (n_ : Nat) (T_ : Nat) (p_ : Nat) (F_ : Nat) (I_ : Nat) (A_ : pA) (X_ : Nat → gQ → gE → Option (gQ × gE)) (m_ : Nat) (s0_ : gS) (s_ : pO) (s1_ : pO) (S0_ : sm_S) (u_ : Option sm_V) (S1_ : sm_S) : Prop := u_ = none ∧ gi S1_ ∧ ai_fr (sx_W vw_315g) S0_ S1_ ∧ (rz b_ n_ T_ p_ F_ I_ A_ X_ m_ s0_ s1_ S1_ ∧ (S1_.1 13 0 32) ≤ (S0_.1 13 0 32))
set_option maxHeartbeats 400000 in
theorem vl_315g {sc_ : Nat × (Nat → Int)} (ls_ : Int) (b_ : Nat → Int) (n_ : Nat) (T_ : Nat) (p_ : Nat) (F_ : Nat) (I_ : Nat) (A_ : pA) (X_ : Nat → gQ → gE → Option (gQ × gE)) (m_ : Nat) (s0_ : gS) (s_ : pO) (s1_ : pO) (S0_ : sm_S) (ht_ : rtab b_ n_ T_ S0_) (hz_ : rz b_ n_ T_ p_ F_ I_ A_ X_ m_ s0_ s_ S0_) (hls_ : 1 ≤ ls_) (hr_ : p_se2 1 ls_ s_ = .inr s1_) : ∀ nn_ : Nat, (∀  (S_ : sm_S), gi S_ → ai_fr (sx_W vw_315g) S0_ S_ → (((∃ s2_, rz b_ n_ T_ p_ F_ I_ A_ X_ m_ s0_ s2_ S_ ∧ p_se2 1 ls_ s2_ = .inr s1_) ∧ (S_.1 13 0 32) ≤ (S0_.1 13 0 32)) ∧ True) → (((S_.1 13 0 32)).toNat) < nn_ → sm_T (mt_P sc_) 5 315 (0, [some (.inr (.inr (some (13, 0)))), some (.inl ls_)], [], S_) (fun ro9_ => ∃ u_ S1_, ro9_ = (.inl u_, S1_, 0) ∧ vq_315g ls_ b_ n_ T_ p_ F_ I_ A_ X_ m_ s0_ s_ s1_ S0_ u_ S1_)) := by
  intro nn_
  induction nn_ with
  | zero => exact fun  _ _ _ _ h_ => absurd h_ (Nat.not_lt_zero _)
  | succ nn_ ih_ =>
    rintro  S_ hI_ hF_ ⟨h1_, -⟩ hm_
    obtain ⟨⟨s2_, z1_, z2_⟩, z9_⟩ := h1_
    have ht1_ := rtab_fr ht_ hF_ rfl rfl rfl rfl rfl
    have hf0_ := rz_f z1_
    obtain ⟨⟨⟨hg_, ⟨w0_, hw_, hwl_⟩, hop_, hv_, hmo1_⟩, hs_⟩, -, -⟩ := id z1_
    have hwl_ : wl b_ n_ T_ s2_.1 w0_ := by rcases hwl_ with z_ | z_; (exact absurd z_.1 (by decide)); (exact z_.2)
    have hwx_ := hw_.1
    have tp5_ := o_tp5 hs_.1
    have hwtp := wl_tp hwl_ hs_.1
    refine sm_T_go 1 (c1 := (1, [some (.inr (.inr (some (13, 0)))), some (.inl ls_)], [.inr (.inr (some (13, 0)))], S_)) rfl ?_
    refine sm_T_cal (d1 := 0) (Q1 := vq_292  S_) rfl rfl (by decide) (vc_292  S_ hI_ ) (fun u_ Sx1_ px4_ => ?_)
    obtain ⟨rfl, vx6_, rfl, px4_⟩ := px4_
    have e1x := px4_
    refine sm_T_b0 (a := 0) (z := 31) rfl (fun cx7_ => ?_) (fun cx7_ => ?_)
    · have cx7_ : vx6_ = 0 := of_decide_eq_true cx7_
      exfalso; (rw [if_pos hf0_] at e1x; omega)
    · have cx7_ : ¬ (vx6_ = 0) := of_decide_eq_false cx7_
      have wtp_ := hwtp.2.1
      refine sm_T_go 1 (c1 := (8, [some (.inr (.inr (some (13, 0)))), some (.inl ls_)], [.inr (.inr (some (13, 0)))], S_)) rfl ?_
      refine sm_T_cal (d1 := 0) (Q1 := vq_312 w0_ S_) rfl rfl (by decide) (vc_312 w0_ S_ hI_ (by exact hw_)) (fun u_ Sx8_ px11_ => ?_)
      obtain ⟨rfl, vx13_, rfl, px11_⟩ := px11_
      have e8_ := px11_
      refine sm_T_cal (d1 := 0) (Q1 := vq_309 vx13_ S_) rfl rfl (by decide) (vc_309 vx13_ S_ hI_ ) (fun u_ Sx14_ px17_ => ?_)
      obtain ⟨rfl, vx19_, rfl, px17_⟩ := px17_
      have e11 := px17_
      rw [e8_, wtp_] at e11
      refine sm_T_go 1 (c1 := (15, [some (.inr (.inr (some (13, 0)))), some (.inl ls_)], [.inl ls_, .inl vx19_], S_)) rfl ?_
      refine sm_T_br (a := 2) (z := 20) rfl (fun cx20_ => ?_) (fun cx20_ => ?_)
      · have cx20_ : vx19_ < ls_ := of_decide_eq_true cx20_
        refine sm_T_rv rfl ⟨_, _, rfl, rfl, hI_, hF_, ?_⟩
        refine ⟨?_, z9_⟩
        first | (exfalso; have h9_ := e11.trans e22_.symm; omega) | (have q9_ : p_se2 1 ls_ s2_ = .inr s2_ := p_se_st (lt_if e11 (by omega) hls_); rw [q9_] at z2_; cases z2_; exact z1_)
      · have cx20_ : ¬ (vx19_ < ls_) := of_decide_eq_false cx20_
        refine sm_T_go 1 (c1 := (19, [some (.inr (.inr (some (13, 0)))), some (.inl ls_)], [.inr (.inr (some (13, 0)))], S_)) rfl ?_
        refine sm_T_cal (d1 := 0) (Q1 := vq_312 w0_ S_) rfl rfl (by decide) (vc_312 w0_ S_ hI_ (by exact hw_)) (fun u_ Sx21_ px24_ => ?_)
        obtain ⟨rfl, vx26_, rfl, px24_⟩ := px24_
        have e19_ := px24_
        refine sm_T_cal (d1 := 0) (Q1 := vq_309 vx26_ S_) rfl rfl (by decide) (vc_309 vx26_ S_ hI_ ) (fun u_ Sx27_ px30_ => ?_)
        obtain ⟨rfl, vx32_, rfl, px30_⟩ := px30_
        have e22_ := px30_
        rw [e19_, wtp_] at e22_
        refine sm_T_b0 (a := 5) (z := 10) rfl (fun cx33_ => ?_) (fun cx33_ => ?_)
        · have cx33_ : vx32_ ≤ 0 := of_decide_eq_true cx33_
          refine sm_T_rv rfl ⟨_, _, rfl, rfl, hI_, hF_, ?_⟩
          refine ⟨?_, z9_⟩
          first | (exfalso; have h9_ := e11.trans e22_.symm; omega) | (have q9_ : p_se2 1 ls_ s2_ = .inr s2_ := p_se_st (lt_if e11 (by omega) hls_); rw [q9_] at z2_; cases z2_; exact z1_)
        · have cx33_ : ¬ (vx32_ ≤ 0) := of_decide_eq_false cx33_
          have otp_ : 1 ≤ o_tp s2_.1 ∧ ls_ ≤ o_tp s2_.1 := by by_cases z_ : 1 ≤ o_tp s2_.1; (rw [if_pos z_] at e11 e22_; omega); (rw [if_neg z_] at e11 e22_; omega)
          clear e11 e22_
          obtain ⟨so_, sg_, sc_⟩ := s2_
          obtain ⟨k1_, q1_, o2_, ho2_, hk2_⟩ := o_tp_c (o_ := so_) (by have := otp_.1; show o_tp so_ ≠ 0; intro z_; have z2_ : 1 ≤ o_tp so_ := this; omega)
          subst ho2_
          have hk3_ : ls_ ≤ k1_ := otp_.2
          obtain ⟨b1_, a1_, g2_, hg2_⟩ := s_ok_2 (show 1 ≤ k1_ by omega) hs_
          subst hg2_
          have wlen : 1 ≤ S_.1 13 0 32 := by have := (wl_len hwl_).2; simp only [List.length_cons] at this; omega
          have sea_ := se1_ap hk3_ z2_
          refine sm_T_go 1 (c1 := (29, [some (.inr (.inr (some (13, 0)))), some (.inl ls_)], [.inr (.inr (some (13, 0)))], S_)) rfl ?_
          refine sm_T_cal (d1 := 4) (Q1 := vq_313g b_ n_ T_ p_ F_ I_ A_ X_ m_ s0_ k1_ q1_ o2_ a1_ b1_ g2_ sc_ S_) rfl rfl (by decide) (vc_313g b_ n_ T_ p_ F_ I_ A_ X_ m_ s0_ k1_ q1_ o2_ a1_ b1_ g2_ sc_ S_ hI_ (by exact ht1_) (by exact z1_) (by omega) (by exact sea_.1)) (fun u_ Sx34_ px37_ => ?_)
          obtain ⟨rfl, hIx35_, hFx36_, px37_⟩ := px37_
          have hFx38_ : ai_fr (sx_W vw_315g) S0_ Sx34_ := ai_fr_tr hF_ (fr_le hFx36_ rfl)
          have e29_ := px37_
          refine sm_T_go 1 (c1 := (0, [some (.inr (.inr (some (13, 0)))), some (.inl ls_)], [], Sx34_)) rfl ?_
          refine ih_  Sx34_ hIx35_ hFx38_ ⟨?_, trivial⟩ ?_
          · have := e29_.2
            exact ⟨⟨_, e29_.1, sea_.2⟩, by omega⟩
          · (have := e29_.2); omega
set_option maxHeartbeats 400000 in
theorem vc_315g {sc_ : Nat × (Nat → Int)} (ls_ : Int) (b_ : Nat → Int) (n_ : Nat) (T_ : Nat) (p_ : Nat) (F_ : Nat) (I_ : Nat) (A_ : pA) (X_ : Nat → gQ → gE → Option (gQ × gE)) (m_ : Nat) (s0_ : gS) (s_ : pO) (s1_ : pO) (S0_ : sm_S) (hI_ : gi S0_) (ht_ : rtab b_ n_ T_ S0_) (hz_ : rz b_ n_ T_ p_ F_ I_ A_ X_ m_ s0_ s_ S0_) (hls_ : 1 ≤ ls_) (hr_ : p_se2 1 ls_ s_ = .inr s1_) : sm_T (mt_P sc_) 5 315 (0, [some (.inr (.inr (some (13, 0)))), some (.inl ls_)], [], S0_) (fun ro9_ => ∃ u_ S1_, ro9_ = (.inl u_, S1_, 0) ∧ vq_315g ls_ b_ n_ T_ p_ F_ I_ A_ X_ m_ s0_ s_ s1_ S0_ u_ S1_) := by
  have hF_ : ai_fr (sx_W vw_315g) S0_ S0_ := ai_fr_rf
  refine (vl_315g ls_ b_ n_ T_ p_ F_ I_ A_ X_ m_ s0_ s_ s1_ S0_ ht_ hz_ hls_ hr_ _)  S0_ hI_ hF_ ⟨?_, trivial⟩ (Nat.lt_succ_self _)
  · exact ⟨⟨s_, hz_, hr_⟩, Int.le_refl _⟩
end
/-! 99.zc4b -/
section
/-! M_.settleAll -/
def vw_316g : sx_Wl := ([(13, 32), (13, 33), (13, 34), (13, 37)], [138, 139, 140, 141, 142, 143], [])
def vq_316g (b_ : Nat → Int) (n_ : Nat) (T_ : Nat) (p_ : Nat) (F_ : Nat) (I_ : Nat) (A_ : pA) (X_ : Nat → gQ → gE → Option (gQ × gE)) (m_ : Nat) (s0_ : gS) (s_ : pO) (s1_ : pO) (S0_ : sm_S) (u_ : Option sm_V) (S1_ : sm_S) : Prop := u_ = none ∧ gi S1_ ∧ ai_fr (sx_W vw_316g) S0_ S1_ ∧ (rz b_ n_ T_ p_ F_ I_ A_ X_ m_ s0_ s1_ S1_)
set_option maxHeartbeats 400000 in
theorem vl_316g {sc_ : Nat × (Nat → Int)} (b_ : Nat → Int) (n_ : Nat) (T_ : Nat) (p_ : Nat) (F_ : Nat) (I_ : Nat) (A_ : pA) (X_ : Nat → gQ → gE → Option (gQ × gE)) (m_ : Nat) (s0_ : gS) (s_ : pO) (s1_ : pO) (S0_ : sm_S) (ht_ : rtab b_ n_ T_ S0_) (hz_ : rz b_ n_ T_ p_ F_ I_ A_ X_ m_ s0_ s_ S0_) (hr_ : p_sa2 1 s_ = .inr s1_) : ∀ nn_ : Nat, (∀  (S_ : sm_S), gi S_ → ai_fr (sx_W vw_316g) S0_ S_ → ((∃ s2_, rz b_ n_ T_ p_ F_ I_ A_ X_ m_ s0_ s2_ S_ ∧ p_sa2 1 s2_ = .inr s1_ ∧ o_tp s2_.1 < 1) ∧ True) → (((S_.1 13 0 32)).toNat) < nn_ → sm_T (mt_P sc_) 6 316 (5, [some (.inr (.inr (some (13, 0))))], [], S_) (fun ro9_ => ∃ u_ S1_, ro9_ = (.inl u_, S1_, 0) ∧ vq_316g b_ n_ T_ p_ F_ I_ A_ X_ m_ s0_ s_ s1_ S0_ u_ S1_)) := by
  intro nn_
  induction nn_ with
  | zero => exact fun  _ _ _ _ h_ => absurd h_ (Nat.not_lt_zero _)
  | succ nn_ ih_ =>
    rintro  S_ hI_ hF_ ⟨h1_, -⟩ hm_
    obtain ⟨s2_, z1_, z2_, z3_⟩ := h1_
    have ht1_ := rtab_fr ht_ hF_ rfl rfl rfl rfl rfl
    have hf0_ := rz_f z1_
    obtain ⟨⟨⟨hg_, ⟨w0_, hw_, hwl_⟩, hop_, hv_, hmo1_⟩, hs_⟩, -, -⟩ := id z1_
    have hwl_ : wl b_ n_ T_ s2_.1 w0_ := by rcases hwl_ with z_ | z_; (exact absurd z_.1 (by decide)); (exact z_.2)
    have hwx_ := hw_.1
    have tp5_ := o_tp5 hs_.1
    have hwtp := wl_tp hwl_ hs_.1
    refine sm_T_go 1 (c1 := (6, [some (.inr (.inr (some (13, 0))))], [.inr (.inr (some (13, 0)))], S_)) rfl ?_
    refine sm_T_cal (d1 := 0) (Q1 := vq_292  S_) rfl rfl (by decide) (vc_292  S_ hI_ ) (fun u_ Sx1_ px4_ => ?_)
    obtain ⟨rfl, vx6_, rfl, px4_⟩ := px4_
    have e1x := px4_
    refine sm_T_b0 (a := 0) (z := 24) rfl (fun cx7_ => ?_) (fun cx7_ => ?_)
    · have cx7_ : vx6_ = 0 := of_decide_eq_true cx7_
      exfalso; (rw [if_pos hf0_] at e1x; omega)
    · have cx7_ : ¬ (vx6_ = 0) := of_decide_eq_false cx7_
      have wtp_ := hwtp.2.2.2.1
      refine sm_T_go 1 (c1 := (13, [some (.inr (.inr (some (13, 0))))], [.inr (.inr (some (13, 0)))], S_)) rfl ?_
      refine sm_T_cal (d1 := 0) (Q1 := vq_312 w0_ S_) rfl rfl (by decide) (vc_312 w0_ S_ hI_ (by exact hw_)) (fun u_ Sx8_ px11_ => ?_)
      obtain ⟨rfl, vx13_, rfl, px11_⟩ := px11_
      have e13_ := px11_
      refine sm_T_go 1 (c1 := (18, [some (.inr (.inr (some (13, 0))))], [.inl 58, .inl vx13_], S_)) rfl ?_
      refine sm_T_br (a := 1) (z := 15) rfl (fun cx14_ => ?_) (fun cx14_ => ?_)
      · have cx14_ : vx13_ ≠ 58 := of_decide_eq_true cx14_
        refine sm_T_rv rfl ⟨_, _, rfl, rfl, hI_, hF_, ?_⟩
        have q9_ : p_sa2 1 s2_ = .inr s2_ := p_sa_st z3_ (fun z_ => by have := wtp_.mpr z_; omega)
        rw [q9_] at z2_
        cases z2_
        exact z1_
      · have cx14_ : ¬ (vx13_ ≠ 58) := of_decide_eq_false cx14_
        have otp_ : o_tp s2_.1 = -4 := wtp_.mp (by omega)
        obtain ⟨so_, sg_, sc_⟩ := s2_
        obtain ⟨k1_, q1_, o2_, ho2_, hk2_⟩ := o_tp_c (o_ := so_) (by intro z_; have z2_ : o_tp so_ = -4 := otp_; omega)
        subst ho2_
        have hk3_ : k1_ = -4 := otp_
        subst hk3_
        obtain ⟨x1_, x2_, x3_, g2_, hg2_⟩ := s_ok_3 hs_
        subst hg2_
        have wlen : 1 ≤ S_.1 13 0 32 := by have := (wl_len hwl_).2; simp only [List.length_cons] at this; omega
        have sac_ := sa1_ch z2_
        obtain ⟨sn_, hn1_, hn2_⟩ := sa1_se sac_.2
        refine sm_T_go 1 (c1 := (22, [some (.inr (.inr (some (13, 0))))], [.inr (.inr (some (13, 0)))], S_)) rfl ?_
        refine sm_T_cal (d1 := 4) (Q1 := vq_314g b_ n_ T_ p_ F_ I_ A_ X_ m_ s0_ q1_ o2_ x1_ x2_ x3_ g2_ sc_ S_) rfl rfl (by decide) (vc_314g b_ n_ T_ p_ F_ I_ A_ X_ m_ s0_ q1_ o2_ x1_ x2_ x3_ g2_ sc_ S_ hI_ (by exact ht1_) (by exact z1_) (by exact sac_.1)) (fun u_ Sx15_ px18_ => ?_)
        obtain ⟨rfl, hIx16_, hFx17_, px18_⟩ := px18_
        have hFx19_ : ai_fr (sx_W vw_316g) S0_ Sx15_ := ai_fr_tr hF_ (fr_le hFx17_ rfl)
        have e22_ := px18_
        have ht2_ := rtab_fr ht1_ hFx17_ rfl rfl rfl rfl rfl
        refine sm_T_go 2 (c1 := (27, [some (.inr (.inr (some (13, 0))))], [.inl 1, .inr (.inr (some (13, 0)))], Sx15_)) rfl ?_
        refine sm_T_cal (d1 := 5) (Q1 := vq_315g 1 b_ n_ T_ p_ F_ I_ A_ X_ m_ s0_ (o2_, x2_ :: g2_, 7 :: sc_) sn_ Sx15_) rfl rfl (by decide) (vc_315g 1 b_ n_ T_ p_ F_ I_ A_ X_ m_ s0_ (o2_, x2_ :: g2_, 7 :: sc_) sn_ Sx15_ hIx16_ (by exact ht2_) (by exact e22_.1) (by decide) (by exact hn1_)) (fun u_ Sx20_ px23_ => ?_)
        obtain ⟨rfl, hIx21_, hFx22_, px23_⟩ := px23_
        have hFx24_ : ai_fr (sx_W vw_316g) S0_ Sx20_ := ai_fr_tr hFx19_ (fr_le hFx22_ rfl)
        have e27_ := px23_
        refine sm_T_go 1 (c1 := (5, [some (.inr (.inr (some (13, 0))))], [], Sx20_)) rfl ?_
        refine ih_  Sx20_ hIx21_ hFx24_ ⟨?_, trivial⟩ ?_
        · exact ⟨_, e27_.1, hn2_, se1_lt e22_.1 hn1_⟩
        · (have := e22_.2); (have := e27_.2); omega
set_option maxHeartbeats 400000 in
theorem vc_316g {sc_ : Nat × (Nat → Int)} (b_ : Nat → Int) (n_ : Nat) (T_ : Nat) (p_ : Nat) (F_ : Nat) (I_ : Nat) (A_ : pA) (X_ : Nat → gQ → gE → Option (gQ × gE)) (m_ : Nat) (s0_ : gS) (s_ : pO) (s1_ : pO) (S0_ : sm_S) (hI_ : gi S0_) (ht_ : rtab b_ n_ T_ S0_) (hz_ : rz b_ n_ T_ p_ F_ I_ A_ X_ m_ s0_ s_ S0_) (hr_ : p_sa2 1 s_ = .inr s1_) : sm_T (mt_P sc_) 6 316 (0, [some (.inr (.inr (some (13, 0))))], [], S0_) (fun ro9_ => ∃ u_ S1_, ro9_ = (.inl u_, S1_, 0) ∧ vq_316g b_ n_ T_ p_ F_ I_ A_ X_ m_ s0_ s_ s1_ S0_ u_ S1_) := by
  have hF_ : ai_fr (sx_W vw_316g) S0_ S0_ := ai_fr_rf
  obtain ⟨sm_, hm1_, hm2_⟩ := sa1_se hr_
  refine sm_T_go 2 (c1 := (2, [some (.inr (.inr (some (13, 0))))], [.inl 1, .inr (.inr (some (13, 0)))], S0_)) rfl ?_
  refine sm_T_cal (d1 := 5) (Q1 := vq_315g 1 b_ n_ T_ p_ F_ I_ A_ X_ m_ s0_ s_ sm_ S0_) rfl rfl (by decide) (vc_315g 1 b_ n_ T_ p_ F_ I_ A_ X_ m_ s0_ s_ sm_ S0_ hI_ (by exact ht_) (by exact hz_) (by decide) (by exact hm1_)) (fun u_ Sx1_ px4_ => ?_)
  obtain ⟨rfl, hIx2_, hFx3_, px4_⟩ := px4_
  have hFx5_ : ai_fr (sx_W vw_316g) S0_ Sx1_ := ai_fr_tr hF_ (fr_le hFx3_ rfl)
  have e2_ := px4_
  refine sm_T_go 0 (c1 := (5, [some (.inr (.inr (some (13, 0))))], [], Sx1_)) rfl ?_
  refine (vl_316g b_ n_ T_ p_ F_ I_ A_ X_ m_ s0_ s_ s1_ S0_ ht_ hz_ hr_ _)  Sx1_ hIx2_ hFx5_ ⟨?_, trivial⟩ (Nat.lt_succ_self _)
  · exact ⟨_, e2_.1, hm2_, se1_lt hz_ hm1_⟩

/-! turning, second pass -/
theorem ti2 {t_ : Bool} {h_ c_ : List Int} : p_ti false t_ h_ c_ = (h_, if t_ = true then 6 :: c_ else c_) := by
  cases t_ <;> rfl
theorem rwv_gt {st_ st'_ : Nat → Int} {p_ q_ : Nat} {v_ : List Int} {z_ : Int} (h_ : rwv st_ p_ v_) (hq_ : p_ + v_.length ≤ q_) (hs_ : ∀ k_, st'_ k_ = if k_ = q_ then z_ else st_ k_) : rwv st'_ p_ v_ := rwv_cg h_ (fun k_ hk_ => by rw [hs_, if_neg (by omega)])
end
/-! 99.zc4c -/
section
/-! M_.turn -/
def vw_317g : sx_Wl := ([(13, 32)], [139], [])
def vq_317g (b_ : Nat → Int) (n_ : Nat) (T_ : Nat) (F_ : Nat) (I_ : Nat) (A_ : pA) (X_ : Nat → gQ → gE → Option (gQ × gE)) (m_ : Nat) (s0_ : gS) (t_ : Bool) (o_ : List (Int × Nat)) (x_ : Int) (g_ : List Int) (c_ : List Int) (w_ : List (Int × Int)) (S0_ : sm_S) (u_ : Option sm_V) (S1_ : sm_S) : Prop := u_ = none ∧ gi S1_ ∧ ai_fr (sx_W vw_317g) S0_ S1_ ∧ (∃ w1_, ws w1_ S1_ ∧ wl b_ n_ T_ o_ w1_ ∧ xg F_ I_ A_ X_ m_ s0_ (x_ :: g_) (p_ti false t_ (x_ :: g_) c_).2 S1_)
set_option maxHeartbeats 400000 in
set_option maxRecDepth 20000 in
theorem vl_317g {sc_ : Nat × (Nat → Int)} (b_ : Nat → Int) (n_ : Nat) (T_ : Nat) (F_ : Nat) (I_ : Nat) (A_ : pA) (X_ : Nat → gQ → gE → Option (gQ × gE)) (m_ : Nat) (s0_ : gS) (t_ : Bool) (o_ : List (Int × Nat)) (x_ : Int) (g_ : List Int) (c_ : List Int) (w_ : List (Int × Int)) (S0_ : sm_S) (hw_ : ws w_ S0_) (hwt_ : wt b_ n_ T_ t_ o_ w_) (ho_ : o_ok false o_) (hvl_ : (S0_.1 13 0 34) = (g_.length : Int) + 1) (hmo_ : (S0_.1 13 0 27) = 1) (hgl_ : g_.length ≤ 1000) (hX_ : xg F_ I_ A_ X_ m_ s0_ (x_ :: g_) c_ S0_) : ∀ nn_ : Nat, (∀  (S_ : sm_S), gi S_ → ai_fr (sx_W vw_317g) S0_ S_ → ((∃ t1_ w1_ c1_, ws w1_ S_ ∧ wt b_ n_ T_ t1_ o_ w1_ ∧ xg F_ I_ A_ X_ m_ s0_ (x_ :: g_) c1_ S_ ∧ (p_ti false t1_ (x_ :: g_) c1_).2 = (p_ti false t_ (x_ :: g_) c_).2) ∧ True) → ((20 * (S_.1 13 0 32) + 10).toNat) < nn_ → sm_T (mt_P sc_) 1 317 (0, [some (.inr (.inr (some (13, 0)))), none, none], [], S_) (fun ro9_ => ∃ u_ S1_, ro9_ = (.inl u_, S1_, 0) ∧ vq_317g b_ n_ T_ F_ I_ A_ X_ m_ s0_ t_ o_ x_ g_ c_ w_ S0_ u_ S1_)) ∧ (∀ (v_ : Int) (k_ : Int) (S_ : sm_S), gi S_ → ai_fr (sx_W vw_317g) S0_ S_ → ((0 ≤ k_ ∧ k_ ≤ 8 ∧ v_ = (g_.length : Int)) ∧ (∃ u1_ c1_, ws ((33, 1) :: u1_) S_ ∧ wl b_ n_ T_ o_ u1_ ∧ (p_ti false true (x_ :: g_) c1_).2 = (p_ti false t_ (x_ :: g_) c_).2 ∧ ∃ Gr_ vv_ V_ e1_ r_, ev F_ I_ A_ X_ m_ s0_ c1_ = some ((Gr_, s0_.1.2), s0_.2.1, s0_.2.2.1, vv_ :: V_) ∧ (vv_ :: V_).map (fun v_ => (v_.length : Int)) = x_ :: g_ ∧ rgl F_ Gr_ S_ ∧ svl (Gr_.length ≤ 1001) (S_.2.2.1 139 0) (S_.2.2.1 138 0) V_ ∧ S_.2.2.1 138 0 V_.length = (vv_.length : Int) ∧ (1 ≤ vv_.length ∧ vv_.length ≤ 8) ∧ vv_ = e1_ ++ r_ ∧ ((e1_.length : Int) = k_ ∨ (r_ = [] ∧ (e1_.length : Int) ≤ k_)) ∧ (imq (Gr_.length ≤ 1001) (rwv (S_.2.2.1 139 0) (8 * V_.length) (e1_.map (fun z_ => i_xor z_ 1) ++ r_)))) ∧ True) → ((20 * (S_.1 13 0 32) + 9 - k_).toNat) < nn_ → sm_T (mt_P sc_) 1 317 (33, [some (.inr (.inr (some (13, 0)))), some (.inl v_), some (.inl k_)], [], S_) (fun ro9_ => ∃ u_ S1_, ro9_ = (.inl u_, S1_, 0) ∧ vq_317g b_ n_ T_ F_ I_ A_ X_ m_ s0_ t_ o_ x_ g_ c_ w_ S0_ u_ S1_)) := by
  intro nn_
  induction nn_ with
  | zero => exact ⟨fun  _ _ _ _ h_ => absurd h_ (Nat.not_lt_zero _), fun _ _ _ _ _ _ h_ => absurd h_ (Nat.not_lt_zero _)⟩
  | succ nn_ ih_ =>
    refine ⟨?_, ?_⟩
    · rintro  S_ hI_ hF_ ⟨h1_, -⟩ hm_
      obtain ⟨t1_, w1_, c1_, y1_, y2_, y3_, y4_⟩ := h1_
      have hmo1_ : S_.1 13 0 27 = 1 := (hF_.1 13 0 27 rfl).trans hmo_
      have wt1_ := wt_tp y2_ ho_
      have v1_ : S_.1 13 0 34 = (g_.length : Int) + 1 := (hF_.1 13 0 34 rfl).trans hvl_
      refine sm_T_go 1 (c1 := (1, [some (.inr (.inr (some (13, 0)))), none, none], [.inr (.inr (some (13, 0)))], S_)) rfl ?_
      refine sm_T_cal (d1 := 0) (Q1 := vq_312 w1_ S_) rfl rfl (by decide) (vc_312 w1_ S_ hI_ (by exact y1_)) (fun u_ Sx1_ px4_ => ?_)
      obtain ⟨rfl, vx6_, rfl, px4_⟩ := px4_
      have e1_ := px4_
      refine sm_T_go 1 (c1 := (6, [some (.inr (.inr (some (13, 0)))), none, none], [.inl 33, .inl vx6_], S_)) rfl ?_
      refine sm_T_br (a := 1) (z := 81) rfl (fun cx7_ => ?_) (fun cx7_ => ?_)
      · have cx7_ : vx6_ ≠ 33 := of_decide_eq_true cx7_
        refine sm_T_rv rfl ⟨_, _, rfl, rfl, hI_, hF_, ?_⟩
        obtain ⟨q1_, q2_⟩ := wt1_.2 (by omega)
        subst q1_
        rw [ti2, if_neg (by decide)] at y4_
        rw [← y4_]
        exact ⟨w1_, y1_, q2_, y3_⟩
      · have cx7_ : ¬ (vx6_ ≠ 33) := of_decide_eq_false cx7_
        obtain ⟨u1_, hu1_, hu2_⟩ := wt1_.1 (by omega)
        subst hu1_
        have wx_ : S_.1 13 0 32 = (u1_.length : Int) + 1 := by rw [y1_.1, List.length_cons]; push_cast; rfl
        obtain ⟨-, y9_, u9_, w3_, w4_, w5_⟩ := ws_tp y1_ (by omega)
        cases w3_
        have w6_ : S_.2.2.1 137 0 (S_.1 13 0 32 - 1).toNat = (if t1_ = true then 1 else 0) := w4_
        have bx8_ : 0 ≤ S_.1 13 0 32 ∧ S_.1 13 0 32 ≤ 1023 := hI_.1 13 0 32 rfl
        refine sm_T_go 5 (c1 := (18, [some (.inr (.inr (some (13, 0)))), none, none], [.inl 1, .inl (S_.1 13 0 32), .inr (.inr (some (137, 0)))], S_)) rfl ?_
        refine sm_T_bin (w := (S_.1 13 0 32) - 1) rfl (bi_sub (by omega) (by omega) (by omega)) ?_
        refine sm_T_iald (n := 1024) rfl rfl (by omega) (by omega) ?_
        have bx9_ : 0 ≤ S_.2.2.1 137 0 ((S_.1 13 0 32) - 1).toNat ∧ S_.2.2.1 137 0 ((S_.1 13 0 32) - 1).toNat ≤ 1280 := hI_.2 137 0 _
        refine sm_T_go 1 (c1 := (21, [some (.inr (.inr (some (13, 0)))), none, none], [.inl 1, .inl (S_.2.2.1 137 0 ((S_.1 13 0 32) - 1).toNat)], S_)) rfl ?_
        refine sm_T_br (a := 1) (z := 53) rfl (fun cx10_ => ?_) (fun cx10_ => ?_)
        · have cx10_ : (S_.2.2.1 137 0 ((S_.1 13 0 32) - 1).toNat) ≠ 1 := of_decide_eq_true cx10_
          refine sm_T_go 4 (c1 := (80, [some (.inr (.inr (some (13, 0)))), none, none], [.inl 1, .inl (S_.1 13 0 32), .inr (.inr (some (13, 0)))], S_)) rfl ?_
          refine sm_T_bin (w := (S_.1 13 0 32) - 1) rfl (bi_sub (by omega) (by omega) (by omega)) ?_
          have hIx11_ : gi (sm_pI S_ 13 0 32 ((S_.1 13 0 32) - 1)) := gi_pI hI_ (show 0 ≤ (S_.1 13 0 32) - 1 ∧ (S_.1 13 0 32) - 1 ≤ 1023 from ⟨by omega, by omega⟩)
          have hFx12_ : ai_fr (sx_W vw_317g) S0_ (sm_pI S_ 13 0 32 ((S_.1 13 0 32) - 1)) := ai_fr_tr hF_ (ai_fr_pI rfl)
          refine sm_T_go 2 (c1 := (0, [some (.inr (.inr (some (13, 0)))), none, none], [], sm_pI S_ 13 0 32 ((S_.1 13 0 32) - 1))) rfl ?_
          refine ih_.1  (sm_pI S_ 13 0 32 ((S_.1 13 0 32) - 1)) hIx11_ hFx12_ ⟨?_, trivial⟩ ?_
          · have ht1_ : t1_ = false := by cases t1_; rfl; (rw [if_pos rfl] at w6_; omega)
            subst ht1_
            obtain ⟨Gr_, V0_, xe_, xm_, xr, xv_⟩ := y3_
            exact ⟨false, u1_, c1_, ws_pop y1_ rfl rfl rfl, Or.inl ⟨rfl, hu2_⟩, ⟨Gr_, V0_, xe_, xm_, rgl_fr (w_ := ([(13, 32)], [], [])) xr (ai_fr_pI rfl) rfl rfl rfl rfl rfl rfl, xv_⟩, y4_⟩
          · (try simp only [rd_eq, rd_ne, rf_eq, rf_nk, rf_nt, rd_fa, rd_af, ne_eq, Nat.reduceEqDiff, not_false_eq_true]); omega
        · have cx10_ : ¬ ((S_.2.2.1 137 0 ((S_.1 13 0 32) - 1).toNat) ≠ 1) := of_decide_eq_false cx10_
          have bx13_ : 0 ≤ S_.1 13 0 34 ∧ S_.1 13 0 34 ≤ 1023 := hI_.1 13 0 34 rfl
          refine sm_T_go 3 (c1 := (29, [some (.inr (.inr (some (13, 0)))), none, none], [.inl 1, .inl (S_.1 13 0 34)], S_)) rfl ?_
          refine sm_T_bin (w := (S_.1 13 0 34) - 1) rfl (bi_sub (by omega) (by omega) (by omega)) ?_
          refine sm_T_go 3 (c1 := (33, [some (.inr (.inr (some (13, 0)))), some (.inl ((S_.1 13 0 34) - 1)), some (.inl 0)], [], S_)) rfl ?_
          refine ih_.2 ((S_.1 13 0 34) - 1) 0 S_ hI_ hF_ ⟨?_, ?_, trivial⟩ ?_
          · omega
          · have ht1_ : t1_ = true := by cases t1_; (rw [if_neg (by decide)] at w6_; omega); rfl
            subst ht1_
            obtain ⟨Gr_, V0_, xe_, xm_, xr, xv_⟩ := y3_
            obtain ⟨vv_, V_, rfl, ly_, xm1_⟩ := mp_c xm_
            exact ⟨u1_, c1_, y1_, hu2_, y4_, Gr_, vv_, V_, [], vv_, xe_, xm_, xr, xv_.2.2.2, xv_.1, xv_.2.1, rfl, Or.inl rfl, fun z_ => xv_.2.2.1 z_⟩
          · omega
    · rintro v_ k_ S_ hI_ hF_ ⟨h0_, h1_, -⟩ hm_
      obtain ⟨u1_, c1_, y1_, y2_, y4_, Gr_, vv_, V_, e1_, r_, a1_, a2_, a3_, a4_, a5_, a6_, a7_, a8_, a9_⟩ := h1_
      have hmo1_ : S_.1 13 0 27 = 1 := (hF_.1 13 0 27 rfl).trans hmo_
      have wx_ : S_.1 13 0 32 = (u1_.length : Int) + 1 := by rw [y1_.1, List.length_cons]; push_cast; rfl
      have Vl_ : V_.length = g_.length := by have q9_ := congrArg List.length a2_; simp only [List.length_map, List.length_cons] at q9_; omega
      refine sm_T_go 2 (c1 := (36, [some (.inr (.inr (some (13, 0)))), some (.inl v_), some (.inl k_)], [.inl 8, .inl k_], S_)) rfl ?_
      refine sm_T_br (a := 3) (z := 38) rfl (fun cx1_ => ?_) (fun cx1_ => ?_)
      · have cx1_ : 8 ≤ k_ := of_decide_eq_true cx1_
        have bx2_ : 0 ≤ S_.1 13 0 32 ∧ S_.1 13 0 32 ≤ 1023 := hI_.1 13 0 32 rfl
        refine sm_T_go 4 (c1 := (80, [some (.inr (.inr (some (13, 0)))), some (.inl v_), some (.inl k_)], [.inl 1, .inl (S_.1 13 0 32), .inr (.inr (some (13, 0)))], S_)) rfl ?_
        refine sm_T_bin (w := (S_.1 13 0 32) - 1) rfl (bi_sub (by omega) (by omega) (by omega)) ?_
        have hIx3_ : gi (sm_pI S_ 13 0 32 ((S_.1 13 0 32) - 1)) := gi_pI hI_ (show 0 ≤ (S_.1 13 0 32) - 1 ∧ (S_.1 13 0 32) - 1 ≤ 1023 from ⟨by omega, by omega⟩)
        have hFx4_ : ai_fr (sx_W vw_317g) S0_ (sm_pI S_ 13 0 32 ((S_.1 13 0 32) - 1)) := ai_fr_tr hF_ (ai_fr_pI rfl)
        refine sm_T_go 2 (c1 := (0, [some (.inr (.inr (some (13, 0)))), some (.inl v_), some (.inl k_)], [], sm_pI S_ 13 0 32 ((S_.1 13 0 32) - 1))) rfl ?_
        refine sm_T_wk [some (.inr (.inr (some (13, 0)))), none, none] (by exact ⟨rfl, trivial⟩) ?_
        refine ih_.1  (sm_pI S_ 13 0 32 ((S_.1 13 0 32) - 1)) hIx3_ hFx4_ ⟨?_, trivial⟩ ?_
        · have r0_ : r_ = [] := by rcases a8_ with z_ | z_; (have q9_ := congrArg List.length a7_; rw [List.length_append] at q9_; exact List.eq_nil_of_length_eq_zero (by omega)); (exact z_.1)
          subst r0_
          rw [List.append_nil] at a7_
          subst a7_
          rw [ti2, if_pos rfl] at y4_
          refine ⟨false, u1_, 6 :: c1_, ws_pop y1_ rfl rfl rfl, Or.inl ⟨rfl, y2_⟩, ⟨Gr_, vv_.map (fun z_ => i_xor z_ 1) :: V_, ev_no a1_, ?_, rgl_fr (w_ := ([(13, 32)], [], [])) a3_ (ai_fr_pI rfl) rfl rfl rfl rfl rfl rfl, ?_⟩, y4_⟩
          · rw [← a2_, List.map_cons, List.map_cons, List.length_map]
          · refine ⟨by rw [List.length_map]; exact a5_, by rw [List.length_map]; exact a6_, fun z_ => ?_, a4_⟩; have q9_ := a9_ z_; rw [List.append_nil] at q9_; exact q9_
        · (try simp only [rd_eq, rd_ne, rf_eq, rf_nk, rf_nt, rd_fa, rd_af, ne_eq, Nat.reduceEqDiff, not_false_eq_true]); omega
      · have cx1_ : ¬ (8 ≤ k_) := of_decide_eq_false cx1_
        refine sm_T_go 4 (c1 := (46, [some (.inr (.inr (some (13, 0)))), some (.inl v_), some (.inl k_)], [.inl v_, .inl 8, .inr (.inr (some (139, 0)))], S_)) rfl ?_
        refine sm_T_bin (w := 8 * v_) rfl (bi_mul (by omega) (by omega) (by omega)) ?_
        refine sm_T_go 1 (c1 := (48, [some (.inr (.inr (some (13, 0)))), some (.inl v_), some (.inl k_)], [.inl k_, .inl (8 * v_), .inr (.inr (some (139, 0)))], S_)) rfl ?_
        refine sm_T_bin (w := 8 * v_ + k_) rfl (bi_add (by omega) (by omega) (by omega)) ?_
        refine sm_T_go 1 (c1 := (50, [some (.inr (.inr (some (13, 0)))), some (.inl v_), some (.inl k_)], [.inl (8 * v_ + k_), .inr (.inr (some (139, 0))), .inl (8 * v_ + k_), .inr (.inr (some (139, 0)))], S_)) rfl ?_
        refine sm_T_iald (n := 8192) rfl rfl (by omega) (by omega) ?_
        have bx5_ : 0 ≤ S_.2.2.1 139 0 (8 * v_ + k_).toNat ∧ S_.2.2.1 139 0 (8 * v_ + k_).toNat ≤ 2047 := hI_.2 139 0 _
        have bx6_ : 0 ≤ S_.1 13 0 27 ∧ S_.1 13 0 27 ≤ 2 := hI_.1 13 0 27 rfl
        refine sm_T_go 3 (c1 := (56, [some (.inr (.inr (some (13, 0)))), some (.inl v_), some (.inl k_)], [.inl 2, .inl (S_.1 13 0 27), .inl (S_.2.2.1 139 0 (8 * v_ + k_).toNat), .inl (8 * v_ + k_), .inr (.inr (some (139, 0)))], S_)) rfl ?_
        refine sm_T_br (a := 1) (z := 9) rfl (fun cx7_ => ?_) (fun cx7_ => ?_)
        · have cx7_ : (S_.1 13 0 27) ≠ 2 := of_decide_eq_true cx7_
          refine sm_T_go 1 (c1 := (66, [some (.inr (.inr (some (13, 0)))), some (.inl v_), some (.inl k_)], [.inl 1, .inl (S_.2.2.1 139 0 (8 * v_ + k_).toNat), .inl (8 * v_ + k_), .inr (.inr (some (139, 0)))], S_)) rfl ?_
          refine sm_T_bin (w := (i_xor (S_.2.2.1 139 0 (8 * v_ + k_).toNat) 1)) rfl rfl ?_
          have bx8_ := i_x1 (x_ := (S_.2.2.1 139 0 (8 * v_ + k_).toNat)) (by omega)
          refine sm_T_iast (n := 8192) rfl rfl (by omega) (by omega) ?_
          have hIx9_ : gi (sm_aI S_ 139 0 (8 * v_ + k_).toNat (i_xor (S_.2.2.1 139 0 (8 * v_ + k_).toNat) 1)) := gi_aI hI_ (show 0 ≤ (i_xor (S_.2.2.1 139 0 (8 * v_ + k_).toNat) 1) ∧ (i_xor (S_.2.2.1 139 0 (8 * v_ + k_).toNat) 1) ≤ 2047 from ⟨by omega, by omega⟩)
          have hFx10_ : ai_fr (sx_W vw_317g) S0_ (sm_aI S_ 139 0 (8 * v_ + k_).toNat (i_xor (S_.2.2.1 139 0 (8 * v_ + k_).toNat) 1)) := ai_fr_tr hF_ (ai_fr_aI rfl)
          refine sm_T_inc (a := 2) (z := 1) (v := k_) (w := k_ + 1) rfl rfl (by omega) (by omega) (by omega) ?_
          refine sm_T_go 1 (c1 := (33, [some (.inr (.inr (some (13, 0)))), some (.inl v_), some (.inl (k_ + 1))], [], sm_aI S_ 139 0 (8 * v_ + k_).toNat (i_xor (S_.2.2.1 139 0 (8 * v_ + k_).toNat) 1))) rfl ?_
          refine ih_.2 v_ (k_ + 1) (sm_aI S_ 139 0 (8 * v_ + k_).toNat (i_xor (S_.2.2.1 139 0 (8 * v_ + k_).toNat) 1)) hIx9_ hFx10_ ⟨?_, ?_, trivial⟩ ?_
          · omega
          · have st9_ : ∀ j_, (sm_aI S_ 139 0 (8 * v_ + k_).toNat (i_xor (S_.2.2.1 139 0 (8 * v_ + k_).toNat) 1)).2.2.1 139 0 j_ = if j_ = (8 * v_ + k_).toNat then i_xor (S_.2.2.1 139 0 (8 * v_ + k_).toNat) 1 else S_.2.2.1 139 0 j_ := fun j_ => rd_eq
            have sv9_ : svl (Gr_.length ≤ 1001) ((sm_aI S_ 139 0 (8 * v_ + k_).toNat (i_xor (S_.2.2.1 139 0 (8 * v_ + k_).toNat) 1)).2.2.1 139 0) ((sm_aI S_ 139 0 (8 * v_ + k_).toNat (i_xor (S_.2.2.1 139 0 (8 * v_ + k_).toNat) 1)).2.2.1 138 0) V_ := svl_up a4_ (fun z_ => z_) (fun j_ hj_ => by rw [st9_, if_neg (by omega)]) (fun j_ hj_ => by rw [rd_ne (by decide)])
            have vl9_ : vv_.length = e1_.length + r_.length := by rw [a7_, List.length_append]
            cases r_ with
            | nil => exact ⟨u1_, c1_, ⟨y1_.1, stk_ot y1_.2.1 (by decide), stk_ot y1_.2.2 (by decide)⟩, y2_, y4_, Gr_, vv_, V_, e1_, [], a1_, a2_, rgl_st a3_, sv9_, by rw [rd_ne (by decide)]; exact a5_, a6_, a7_, Or.inr ⟨rfl, by rcases a8_ with z_ | z_; omega; (have := z_.2; omega)⟩, fun z_ => rwv_gt (a9_ z_) (by rw [List.append_nil, List.length_map]; rcases a8_ with q_ | q_; omega; (have := q_.2; omega)) st9_⟩
            | cons r0_ r_ => have kk9_ : (e1_.length : Int) = k_ := (by rcases a8_ with z_ | z_; exact z_; (exact absurd z_.1 (fun q_ => by cases q_))); refine ⟨u1_, c1_, ⟨y1_.1, stk_ot y1_.2.1 (by decide), stk_ot y1_.2.2 (by decide)⟩, y2_, y4_, Gr_, vv_, V_, e1_ ++ [r0_], r_, a1_, a2_, rgl_st a3_, sv9_, by rw [rd_ne (by decide)]; exact a5_, a6_, by rw [a7_, List.append_assoc]; rfl, Or.inl (by simp only [List.length_append, List.length_cons, List.length_nil]; push_cast; omega), fun z_ => ?_⟩; rw [map_mid]; have q8_ := rwv_m (a9_ z_); rw [List.length_map] at q8_; have q7_ : (8 * v_ + k_).toNat = 8 * V_.length + e1_.length := (by omega); exact rwv_set (q_ := (8 * v_ + k_).toNat) (a9_ z_) (by rw [List.length_map]; exact q7_) (fun j_ => by rw [st9_, q7_, q8_])
          · (try simp only [rd_eq, rd_ne, rf_eq, rf_nk, rf_nt, rd_fa, rd_af, ne_eq, Nat.reduceEqDiff, not_false_eq_true]); omega
        · have cx7_ : ¬ ((S_.1 13 0 27) ≠ 2) := of_decide_eq_false cx7_
          exfalso; omega
set_option maxHeartbeats 400000 in
set_option maxRecDepth 20000 in
theorem vc_317g {sc_ : Nat × (Nat → Int)} (b_ : Nat → Int) (n_ : Nat) (T_ : Nat) (F_ : Nat) (I_ : Nat) (A_ : pA) (X_ : Nat → gQ → gE → Option (gQ × gE)) (m_ : Nat) (s0_ : gS) (t_ : Bool) (o_ : List (Int × Nat)) (x_ : Int) (g_ : List Int) (c_ : List Int) (w_ : List (Int × Int)) (S0_ : sm_S) (hI_ : gi S0_) (hw_ : ws w_ S0_) (hwt_ : wt b_ n_ T_ t_ o_ w_) (ho_ : o_ok false o_) (hvl_ : (S0_.1 13 0 34) = (g_.length : Int) + 1) (hmo_ : (S0_.1 13 0 27) = 1) (hgl_ : g_.length ≤ 1000) (hX_ : xg F_ I_ A_ X_ m_ s0_ (x_ :: g_) c_ S0_) : sm_T (mt_P sc_) 1 317 (0, [some (.inr (.inr (some (13, 0)))), none, none], [], S0_) (fun ro9_ => ∃ u_ S1_, ro9_ = (.inl u_, S1_, 0) ∧ vq_317g b_ n_ T_ F_ I_ A_ X_ m_ s0_ t_ o_ x_ g_ c_ w_ S0_ u_ S1_) := by
  have hF_ : ai_fr (sx_W vw_317g) S0_ S0_ := ai_fr_rf
  refine (vl_317g b_ n_ T_ F_ I_ A_ X_ m_ s0_ t_ o_ x_ g_ c_ w_ S0_ hw_ hwt_ ho_ hvl_ hmo_ hgl_ hX_ _).1  S0_ hI_ hF_ ⟨?_, trivial⟩ (Nat.lt_succ_self _)
  · exact ⟨t_, w_, c_, hw_, hwt_, hX_, rfl⟩
end
/-! 99.zc5a -/
section
/-! the reference: constants, second pass; written by wip/p55/gen/vg -/

/-! what stands between operators, second pass -/
def rowat (gl_ : Nat) (w_ : Int) (f_ : Nat → Int) (S0_ S1_ : sm_S) : Prop := (∀ j_, S1_.2.2.1 138 0 j_ = if j_ = gl_ then w_ else S0_.2.2.1 138 0 j_) ∧ (∀ j_, j_ < 8 → S1_.2.2.1 139 0 (8 * gl_ + j_) = f_ j_) ∧ (∀ j_, j_ < 8 * gl_ ∨ 8 * gl_ + 8 ≤ j_ → S1_.2.2.1 139 0 j_ = S0_.2.2.1 139 0 j_)
theorem co_r {b_ : Nat → Int} {n_ p_ : Nat} {r_ : Nat × Int × List Int} (h_ : p_co b_ n_ p_ = .inr r_) : ∃ q_ r3_ u_, p_ad b_ n_ p_ = .inr q_ ∧ lx_kd b_ n_ q_ = 64 ∧ p_ad b_ n_ q_ = .inr r3_ ∧ lx_kd b_ n_ r3_ = 2 ∧ (1 ≤ lx_vl b_ n_ r3_ ∧ lx_vl b_ n_ r3_ ≤ 8) ∧ p_ad b_ n_ r3_ = .inr u_ ∧ lx_vl b_ n_ p_ / 2 ^ (lx_vl b_ n_ r3_).toNat = 0 ∧ r_ = (u_, lx_vl b_ n_ r3_, [cw 8 (lx_vl b_ n_ r3_) (lx_vl b_ n_ p_)]) := by
  unfold p_co at h_
  obtain ⟨q_, h1_, h2_⟩ := pb_inr h_
  split at h2_
  · rename_i g_
    obtain ⟨r3_, h3_, h4_⟩ := pb_inr h2_
    obtain ⟨w_, h5_, h6_⟩ := pb_inr h4_
    obtain ⟨u_, h7_, h8_⟩ := pb_inr h6_
    unfold p_nu at h5_
    split at h5_
    · rename_i g2_
      split at h5_
      · cases h5_
      · rename_i g3_
        cases h5_
        split at h8_
        · rename_i g4_
          cases h8_
          exact ⟨q_, r3_, u_, h1_, g_, h3_, g2_, by omega, h7_, g4_, rfl⟩
        · cases h8_
    · cases h5_
  · cases h2_
theorem bp_rr {b_ : Nat → Int} {n_ p_ r_ : Nat} {wd_ : Int} (h_ : p_bp b_ n_ wd_ p_ = .inr r_) : lx_kd b_ n_ p_ = 2 ∧ (0 ≤ lx_vl b_ n_ p_ ∧ lx_vl b_ n_ p_ < wd_) ∧ p_ad b_ n_ p_ = .inr r_ := by
  unfold p_bp at h_
  obtain ⟨v_, h1_, h2_⟩ := pb_inr h_
  unfold p_nu at h1_
  split at h1_
  · rename_i g_
    split at h1_
    · cases h1_
    · exact ⟨g_, by omega, h2_⟩
  · cases h1_
/-! M_.copyValue -/
def vw_333g : sx_Wl := ([], [138, 139], [])
def vq_333g (wd_ : Int) (oi_ : Int) (fm_ : Int) (gl_ : Nat) (S0_ : sm_S) (u_ : Option sm_V) (S1_ : sm_S) : Prop := u_ = none ∧ gi S1_ ∧ ai_fr (sx_W vw_333g) S0_ S1_ ∧ (rowat gl_ wd_ (fun j_ => if oi_ = 1 then S0_.2.2.1 145 0 (fm_.toNat + j_) else S0_.2.2.1 144 0 (fm_.toNat + j_)) S0_ S1_)
set_option maxHeartbeats 400000 in
theorem vl_333g {sc_ : Nat × (Nat → Int)} (wd_ : Int) (oi_ : Int) (fm_ : Int) (gl_ : Nat) (S0_ : sm_S) (hv_ : (S0_.1 13 0 34) = (gl_ : Int) ∧ gl_ ≤ 1000) (hmo_ : (S0_.1 13 0 27) = 1) (hwd_ : 0 ≤ wd_ ∧ wd_ ≤ 8) (ho_ : (oi_ = 0 ∧ 0 ≤ fm_ ∧ fm_ + 8 ≤ 5120) ∨ (oi_ = 1 ∧ 0 ≤ fm_ ∧ fm_ + 8 ≤ 204800)) : ∀ nn_ : Nat, (∀ (k_ : Int) (S_ : sm_S), gi S_ → ai_fr (sx_W vw_333g) S0_ S_ → ((0 ≤ k_ ∧ k_ ≤ 8) ∧ (∀ j_, S_.2.2.1 138 0 j_ = if j_ = gl_ then wd_ else S0_.2.2.1 138 0 j_) ∧ (∀ j_, j_ < k_.toNat → S_.2.2.1 139 0 (8 * gl_ + j_) = if oi_ = 1 then S0_.2.2.1 145 0 (fm_.toNat + j_) else S0_.2.2.1 144 0 (fm_.toNat + j_)) ∧ (∀ j_, j_ < 8 * gl_ ∨ 8 * gl_ + 8 ≤ j_ → S_.2.2.1 139 0 j_ = S0_.2.2.1 139 0 j_) ∧ True) → ((8 - k_).toNat) < nn_ → sm_T (mt_P sc_) 0 333 (13, [some (.inr (.inr (some (13, 0)))), some (.inl wd_), some (.inl oi_), some (.inl fm_), some (.inl k_)], [], S_) (fun ro9_ => ∃ u_ S1_, ro9_ = (.inl u_, S1_, 0) ∧ vq_333g wd_ oi_ fm_ gl_ S0_ u_ S1_)) := by
  intro nn_
  induction nn_ with
  | zero => exact fun _ _ _ _ _ h_ => absurd h_ (Nat.not_lt_zero _)
  | succ nn_ ih_ =>
    rintro k_ S_ hI_ hF_ ⟨h0_, h1_, h2_, h3_, -⟩ hm_
    have v1_ : S_.1 13 0 34 = (gl_ : Int) := (hF_.1 13 0 34 rfl).trans hv_.1
    have m1_ : S_.1 13 0 27 = 1 := (hF_.1 13 0 27 rfl).trans hmo_
    have f44_ := fr_arr (t := 144) (i := 0) hF_ rfl
    have f45_ := fr_arr (t := 145) (i := 0) hF_ rfl
    refine sm_T_go 2 (c1 := (17, [some (.inr (.inr (some (13, 0)))), some (.inl wd_), some (.inl oi_), some (.inl fm_), some (.inl k_)], [.inl 8, .inl k_], S_)) rfl ?_
    refine sm_T_br (a := 3) (z := 57) rfl (fun cx1_ => ?_) (fun cx1_ => ?_)
    · have cx1_ : 8 ≤ k_ := of_decide_eq_true cx1_
      refine sm_T_rv rfl ⟨_, _, rfl, rfl, hI_, hF_, ?_⟩
      exact ⟨h1_, fun j_ hj_ => h2_ j_ (by omega), h3_⟩
    · have cx1_ : ¬ (8 ≤ k_) := of_decide_eq_false cx1_
      have bx2_ : 0 ≤ S_.1 13 0 27 ∧ S_.1 13 0 27 ≤ 2 := hI_.1 13 0 27 rfl
      refine sm_T_go 3 (c1 := (25, [some (.inr (.inr (some (13, 0)))), some (.inl wd_), some (.inl oi_), some (.inl fm_), some (.inl k_)], [.inl 1, .inl (S_.1 13 0 27)], S_)) rfl ?_
      refine sm_T_br (a := 1) (z := 49) rfl (fun cx3_ => ?_) (fun cx3_ => ?_)
      · have cx3_ : (S_.1 13 0 27) ≠ 1 := of_decide_eq_true cx3_
        exfalso; omega
      · have cx3_ : ¬ ((S_.1 13 0 27) ≠ 1) := of_decide_eq_false cx3_
        have bx4_ : 0 ≤ S_.1 13 0 34 ∧ S_.1 13 0 34 ≤ 1023 := hI_.1 13 0 34 rfl
        refine sm_T_go 5 (c1 := (38, [some (.inr (.inr (some (13, 0)))), some (.inl wd_), some (.inl oi_), some (.inl fm_), some (.inl k_)], [.inl (S_.1 13 0 34), .inl 8, .inr (.inr (some (139, 0)))], S_)) rfl ?_
        refine sm_T_bin (w := 8 * (S_.1 13 0 34)) rfl (bi_mul (by omega) (by omega) (by omega)) ?_
        refine sm_T_go 1 (c1 := (41, [some (.inr (.inr (some (13, 0)))), some (.inl wd_), some (.inl oi_), some (.inl fm_), some (.inl k_)], [.inl k_, .inl (8 * (S_.1 13 0 34)), .inr (.inr (some (139, 0)))], S_)) rfl ?_
        refine sm_T_bin (w := 8 * (S_.1 13 0 34) + k_) rfl (bi_add (by omega) (by omega) (by omega)) ?_
        refine sm_T_go 1 (c1 := (43, [some (.inr (.inr (some (13, 0)))), some (.inl wd_), some (.inl oi_), some (.inl fm_), some (.inl k_)], [.inl oi_, .inl (8 * (S_.1 13 0 34) + k_), .inr (.inr (some (139, 0)))], S_)) rfl ?_
        refine sm_T_b0 (a := 0) (z := 15) rfl (fun cx5_ => ?_) (fun cx5_ => ?_)
        · have cx5_ : oi_ = 0 := of_decide_eq_true cx5_
          refine sm_T_go 4 (c1 := (65, [some (.inr (.inr (some (13, 0)))), some (.inl wd_), some (.inl oi_), some (.inl fm_), some (.inl k_)], [.inl k_, .inl fm_, .inr (.inr (some (144, 0))), .inl (8 * (S_.1 13 0 34) + k_), .inr (.inr (some (139, 0)))], S_)) rfl ?_
          refine sm_T_bin (w := fm_ + k_) rfl (bi_add (by omega) (by omega) (by omega)) ?_
          refine sm_T_iald (n := 5120) rfl rfl (by omega) (by omega) ?_
          have bx6_ : 0 ≤ S_.2.2.1 144 0 (fm_ + k_).toNat ∧ S_.2.2.1 144 0 (fm_ + k_).toNat ≤ 2047 := hI_.2 144 0 _
          refine sm_T_iast (n := 8192) rfl rfl (by omega) (by omega) ?_
          have hIx7_ : gi (sm_aI S_ 139 0 (8 * (S_.1 13 0 34) + k_).toNat (S_.2.2.1 144 0 (fm_ + k_).toNat)) := gi_aI hI_ (show 0 ≤ (S_.2.2.1 144 0 (fm_ + k_).toNat) ∧ (S_.2.2.1 144 0 (fm_ + k_).toNat) ≤ 2047 from ⟨by omega, by omega⟩)
          have hFx8_ : ai_fr (sx_W vw_333g) S0_ (sm_aI S_ 139 0 (8 * (S_.1 13 0 34) + k_).toNat (S_.2.2.1 144 0 (fm_ + k_).toNat)) := ai_fr_tr hF_ (ai_fr_aI rfl)
          refine sm_T_inc (a := 4) (z := 1) (v := k_) (w := k_ + 1) rfl rfl (by omega) (by omega) (by omega) ?_
          refine sm_T_go 1 (c1 := (13, [some (.inr (.inr (some (13, 0)))), some (.inl wd_), some (.inl oi_), some (.inl fm_), some (.inl (k_ + 1))], [], sm_aI S_ 139 0 (8 * (S_.1 13 0 34) + k_).toNat (S_.2.2.1 144 0 (fm_ + k_).toNat))) rfl ?_
          refine ih_ (k_ + 1) (sm_aI S_ 139 0 (8 * (S_.1 13 0 34) + k_).toNat (S_.2.2.1 144 0 (fm_ + k_).toNat)) hIx7_ hFx8_ ⟨?_, ?_, ?_, ?_, trivial⟩ ?_
          · omega
          · (intro j_; rw [rd_ne (by decide)]; exact h1_ j_)
          · intro j_ hj_
            by_cases z_ : j_ < k_.toNat
            · rw [rd_eq, if_neg (by omega)]; exact h2_ j_ z_
            · have zj_ : j_ = k_.toNat := by omega
              rw [rd_eq, if_pos (by omega), zj_]
              first | (rw [if_pos (by omega), f45_, show (fm_ + k_).toNat = fm_.toNat + k_.toNat by omega]; done) | (rw [if_neg (by omega), f44_, show (fm_ + k_).toNat = fm_.toNat + k_.toNat by omega])
          · (intro j_ hj_; rw [rd_eq, if_neg (by omega)]; exact h3_ j_ hj_)
          · omega
        · have cx5_ : ¬ (oi_ = 0) := of_decide_eq_false cx5_
          refine sm_T_go 4 (c1 := (53, [some (.inr (.inr (some (13, 0)))), some (.inl wd_), some (.inl oi_), some (.inl fm_), some (.inl k_)], [.inl k_, .inl fm_, .inr (.inr (some (145, 0))), .inl (8 * (S_.1 13 0 34) + k_), .inr (.inr (some (139, 0)))], S_)) rfl ?_
          refine sm_T_bin (w := fm_ + k_) rfl (bi_add (by omega) (by omega) (by omega)) ?_
          refine sm_T_iald (n := 204800) rfl rfl (by omega) (by omega) ?_
          have bx9_ : 0 ≤ S_.2.2.1 145 0 (fm_ + k_).toNat ∧ S_.2.2.1 145 0 (fm_ + k_).toNat ≤ 2047 := hI_.2 145 0 _
          refine sm_T_go 1 (c1 := (67, [some (.inr (.inr (some (13, 0)))), some (.inl wd_), some (.inl oi_), some (.inl fm_), some (.inl k_)], [.inl (S_.2.2.1 145 0 (fm_ + k_).toNat), .inl (8 * (S_.1 13 0 34) + k_), .inr (.inr (some (139, 0)))], S_)) rfl ?_
          refine sm_T_iast (n := 8192) rfl rfl (by omega) (by omega) ?_
          have hIx10_ : gi (sm_aI S_ 139 0 (8 * (S_.1 13 0 34) + k_).toNat (S_.2.2.1 145 0 (fm_ + k_).toNat)) := gi_aI hI_ (show 0 ≤ (S_.2.2.1 145 0 (fm_ + k_).toNat) ∧ (S_.2.2.1 145 0 (fm_ + k_).toNat) ≤ 2047 from ⟨by omega, by omega⟩)
          have hFx11_ : ai_fr (sx_W vw_333g) S0_ (sm_aI S_ 139 0 (8 * (S_.1 13 0 34) + k_).toNat (S_.2.2.1 145 0 (fm_ + k_).toNat)) := ai_fr_tr hF_ (ai_fr_aI rfl)
          refine sm_T_inc (a := 4) (z := 1) (v := k_) (w := k_ + 1) rfl rfl (by omega) (by omega) (by omega) ?_
          refine sm_T_go 1 (c1 := (13, [some (.inr (.inr (some (13, 0)))), some (.inl wd_), some (.inl oi_), some (.inl fm_), some (.inl (k_ + 1))], [], sm_aI S_ 139 0 (8 * (S_.1 13 0 34) + k_).toNat (S_.2.2.1 145 0 (fm_ + k_).toNat))) rfl ?_
          refine ih_ (k_ + 1) (sm_aI S_ 139 0 (8 * (S_.1 13 0 34) + k_).toNat (S_.2.2.1 145 0 (fm_ + k_).toNat)) hIx10_ hFx11_ ⟨?_, ?_, ?_, ?_, trivial⟩ ?_
          · omega
          · (intro j_; rw [rd_ne (by decide)]; exact h1_ j_)
          · intro j_ hj_
            by_cases z_ : j_ < k_.toNat
            · rw [rd_eq, if_neg (by omega)]; exact h2_ j_ z_
            · have zj_ : j_ = k_.toNat := by omega
              rw [rd_eq, if_pos (by omega), zj_]
              first | (rw [if_pos (by omega), f45_, show (fm_ + k_).toNat = fm_.toNat + k_.toNat by omega]; done) | (rw [if_neg (by omega), f44_, show (fm_ + k_).toNat = fm_.toNat + k_.toNat by omega])
          · (intro j_ hj_; rw [rd_eq, if_neg (by omega)]; exact h3_ j_ hj_)
          · omega
set_option maxHeartbeats 400000 in
theorem vc_333g {sc_ : Nat × (Nat → Int)} (wd_ : Int) (oi_ : Int) (fm_ : Int) (gl_ : Nat) (S0_ : sm_S) (hI_ : gi S0_) (hv_ : (S0_.1 13 0 34) = (gl_ : Int) ∧ gl_ ≤ 1000) (hmo_ : (S0_.1 13 0 27) = 1) (hwd_ : 0 ≤ wd_ ∧ wd_ ≤ 8) (ho_ : (oi_ = 0 ∧ 0 ≤ fm_ ∧ fm_ + 8 ≤ 5120) ∨ (oi_ = 1 ∧ 0 ≤ fm_ ∧ fm_ + 8 ≤ 204800)) : sm_T (mt_P sc_) 0 333 (0, [some (.inr (.inr (some (13, 0)))), some (.inl wd_), some (.inl oi_), some (.inl fm_), none], [], S0_) (fun ro9_ => ∃ u_ S1_, ro9_ = (.inl u_, S1_, 0) ∧ vq_333g wd_ oi_ fm_ gl_ S0_ u_ S1_) := by
  have hF_ : ai_fr (sx_W vw_333g) S0_ S0_ := ai_fr_rf
  have bx1_ : 0 ≤ S0_.1 13 0 34 ∧ S0_.1 13 0 34 ≤ 1023 := hI_.1 13 0 34 rfl
  refine sm_T_go 5 (c1 := (9, [some (.inr (.inr (some (13, 0)))), some (.inl wd_), some (.inl oi_), some (.inl fm_), none], [.inl wd_, .inl (S0_.1 13 0 34), .inr (.inr (some (138, 0)))], S0_)) rfl ?_
  refine sm_T_iast (n := 1024) rfl rfl (by omega) (by omega) ?_
  have hIx2_ : gi (sm_aI S0_ 138 0 (S0_.1 13 0 34).toNat wd_) := gi_aI hI_ (show (-2147483648) ≤ wd_ ∧ wd_ ≤ 2147483647 from ⟨by omega, by omega⟩)
  have hFx3_ : ai_fr (sx_W vw_333g) S0_ (sm_aI S0_ 138 0 (S0_.1 13 0 34).toNat wd_) := ai_fr_tr hF_ (ai_fr_aI rfl)
  refine sm_T_go 2 (c1 := (13, [some (.inr (.inr (some (13, 0)))), some (.inl wd_), some (.inl oi_), some (.inl fm_), some (.inl 0)], [], sm_aI S0_ 138 0 (S0_.1 13 0 34).toNat wd_)) rfl ?_
  refine (vl_333g wd_ oi_ fm_ gl_ S0_ hv_ hmo_ hwd_ ho_ _) 0 (sm_aI S0_ 138 0 (S0_.1 13 0 34).toNat wd_) hIx2_ hFx3_ ⟨?_, ?_, ?_, ?_, trivial⟩ (Nat.lt_succ_self _)
  · omega
  · (intro j_; rw [rd_eq, show (S0_.1 13 0 34).toNat = gl_ by omega])
  · (intro j_ hj_; exact absurd hj_ (Nat.not_lt_zero _))
  · (intro j_ hj_; exact rd_ne (by decide))
end
/-! 99.zc5b -/
section
/-! M_.bit -/
def vw_325g : sx_Wl := ([(13, 9), (13, 10), (13, 11)], [138, 139], [])
def vq_325g (wd_ : Int) (b_ : Nat → Int) (n_ : Nat) (T_ : Nat) (p_ : Nat) (gl_ : Nat) (r_ : Nat) (S0_ : sm_S) (u_ : Option sm_V) (S1_ : sm_S) : Prop := u_ = none ∧ gi S1_ ∧ ai_fr (sx_W vw_325g) S0_ S1_ ∧ (rg b_ n_ T_ (.inr r_) S1_ ∧ (∀ j_, S1_.2.2.1 138 0 j_ = if j_ = gl_ then 1 else S0_.2.2.1 138 0 j_) ∧ ∀ j_, S1_.2.2.1 139 0 j_ = if j_ = 8 * gl_ then S0_.2.2.1 139 0 (8 * gl_ + (lx_vl b_ n_ p_).toNat) else S0_.2.2.1 139 0 j_)
set_option maxHeartbeats 1000000 in
theorem vc_325g {sc_ : Nat × (Nat → Int)} (wd_ : Int) (b_ : Nat → Int) (n_ : Nat) (T_ : Nat) (p_ : Nat) (gl_ : Nat) (r_ : Nat) (S0_ : sm_S) (hI_ : gi S0_) (ht_ : rtab b_ n_ T_ S0_) (hx_ : rg b_ n_ T_ (.inr p_) S0_) (hv_ : (S0_.1 13 0 34) = (gl_ : Int) ∧ gl_ ≤ 1000) (hmo_ : (S0_.1 13 0 27) = 1) (hwd_ : 0 ≤ wd_ ∧ wd_ ≤ 8) (hb_ : p_bp b_ n_ wd_ p_ = .inr r_) : sm_T (mt_P sc_) 3 325 (0, [some (.inr (.inr (some (13, 0)))), some (.inl wd_), none], [], S0_) (fun ro9_ => ∃ u_ S1_, ro9_ = (.inl u_, S1_, 0) ∧ vq_325g wd_ b_ n_ T_ p_ gl_ r_ S0_ u_ S1_) := by
  have hF_ : ai_fr (sx_W vw_325g) S0_ S0_ := ai_fr_rf
  obtain ⟨i_, hi_⟩ := id hx_.2
  have hi9_ := hi_.2.1
  have hT_ := ht_.2.1
  have hf_ := hx_.1
  obtain ⟨bk_, bv_, ba_⟩ := bp_rr hb_
  refine sm_T_go 2 (c1 := (2, [some (.inr (.inr (some (13, 0)))), some (.inl wd_), none], [.inl 2, .inr (.inr (some (13, 0)))], S0_)) rfl ?_
  refine sm_T_cal (d1 := 1) (Q1 := vq_299 2 b_ n_ T_ (.inr p_) S0_) rfl rfl (by decide) (vc_299 2 b_ n_ T_ (.inr p_) S0_ hI_ (by exact ht_) (by exact hx_) (by decide)) (fun u_ Sx1_ px4_ => ?_)
  obtain ⟨vx6_, rfl, hIx2_, hFx3_, px4_⟩ := px4_
  have hFx5_ : ai_fr (sx_W vw_325g) S0_ Sx1_ := ai_fr_tr hF_ (fr_le hFx3_ rfl)
  have a2_ := px4_.1
  have g2_ := px4_.2
  rw [pb_r rfl, show p_du b_ n_ 2 p_ = .inr p_ from if_pos bk_] at g2_
  have t2_ := rtab_fr ht_ hFx3_ rfl rfl rfl rfl rfl
  have nv2_ : Sx1_.2.2.1 121 0 vx6_.toNat = lx_vl b_ n_ p_ := by have q4_ := rp_at t2_ hi_.2; rw [show vx6_.toNat = i_ by omega, q4_.2.2.1, bk_]; rfl
  have v2b : 0 ≤ vx6_ ∧ vx6_ ≤ 1280 := by omega
  have key2_ : ∀ S9_ : sm_S, S9_.2.2.1 121 0 = Sx1_.2.2.1 121 0 → S9_.2.2.1 121 0 vx6_.toNat = lx_vl b_ n_ p_ := fun S9_ q_ => by rw [q_]; exact nv2_
  have w2_ := fr_arr (t := 138) (i := 0) hFx3_ rfl
  have x2_ := fr_arr (t := 139) (i := 0) hFx3_ rfl
  refine sm_T_go 2 (c1 := (7, [some (.inr (.inr (some (13, 0)))), some (.inl wd_), some (.inl vx6_)], [.inr (.inr (some (13, 0)))], Sx1_)) rfl ?_
  refine sm_T_cal (d1 := 0) (Q1 := vq_292  Sx1_) rfl rfl (by decide) (vc_292  Sx1_ hIx2_ ) (fun u_ Sx7_ px10_ => ?_)
  obtain ⟨rfl, vx12_, rfl, px10_⟩ := px10_
  have e7_ := px10_
  have f7_ := g2_.1
  refine sm_T_b0 (a := 0) (z := 20) rfl (fun cx13_ => ?_) (fun cx13_ => ?_)
  · have cx13_ : vx12_ = 0 := of_decide_eq_true cx13_
    exfalso; (rw [if_pos f7_] at e7_; omega)
  · have cx13_ : ¬ (vx12_ = 0) := of_decide_eq_false cx13_
    refine sm_T_go 3 (c1 := (18, [some (.inr (.inr (some (13, 0)))), some (.inl wd_), some (.inl vx6_)], [.inl vx6_, .inr (.inr (some (121, 0)))], Sx1_)) rfl ?_
    refine sm_T_iald (n := 65537) rfl rfl (by omega) (by omega) ?_
    have bx14_ : (-2147483648) ≤ Sx1_.2.2.1 121 0 vx6_.toNat ∧ Sx1_.2.2.1 121 0 vx6_.toNat ≤ 2147483647 := hIx2_.2 121 0 _
    refine sm_T_go 1 (c1 := (20, [some (.inr (.inr (some (13, 0)))), some (.inl wd_), some (.inl vx6_)], [.inl wd_, .inl (Sx1_.2.2.1 121 0 vx6_.toNat)], Sx1_)) rfl ?_
    refine sm_T_br (a := 2) (z := 10) rfl (fun cx15_ => ?_) (fun cx15_ => ?_)
    · have cx15_ : (Sx1_.2.2.1 121 0 vx6_.toNat) < wd_ := of_decide_eq_true cx15_
      refine sm_T_go 1 (c1 := (31, [some (.inr (.inr (some (13, 0)))), some (.inl wd_), some (.inl vx6_)], [.inr (.inr (some (13, 0)))], Sx1_)) rfl ?_
      refine sm_T_cal (d1 := 2) (Q1 := vq_297 b_ n_ T_ (.inr p_) Sx1_) rfl rfl (by decide) (vc_297 b_ n_ T_ (.inr p_) Sx1_ hIx2_ (by exact t2_) (by exact g2_) (by (intro q_ e_; cases e_; omega))) (fun u_ Sx16_ px19_ => ?_)
      obtain ⟨rfl, hIx17_, hFx18_, px19_⟩ := px19_
      have hFx20_ : ai_fr (sx_W vw_325g) S0_ Sx16_ := ai_fr_tr hFx5_ (fr_le hFx18_ rfl)
      have g31_ := px19_.1
      rw [pb_r rfl, ba_] at g31_
      have f35_ := g31_.1
      have nv31_ := key2_ _ (fr_arr (t := 121) (i := 0) hFx18_ rfl)
      have v31_ : Sx16_.1 13 0 34 = (gl_ : Int) := (hFx20_.1 13 0 34 rfl).trans hv_.1
      have w31_ := (fr_arr (t := 138) (i := 0) hFx18_ rfl).trans w2_
      have l31_ := (fr_arr (t := 139) (i := 0) hFx18_ rfl).trans x2_
      refine sm_T_go 1 (c1 := (35, [some (.inr (.inr (some (13, 0)))), some (.inl wd_), some (.inl vx6_)], [.inr (.inr (some (13, 0)))], Sx16_)) rfl ?_
      refine sm_T_cal (d1 := 0) (Q1 := vq_292  Sx16_) rfl rfl (by decide) (vc_292  Sx16_ hIx17_ ) (fun u_ Sx21_ px24_ => ?_)
      obtain ⟨rfl, vx26_, rfl, px24_⟩ := px24_
      have e35_ := px24_
      refine sm_T_b0 (a := 0) (z := 44) rfl (fun cx27_ => ?_) (fun cx27_ => ?_)
      · have cx27_ : vx26_ = 0 := of_decide_eq_true cx27_
        exfalso; (rw [if_pos f35_] at e35_; omega)
      · have cx27_ : ¬ (vx26_ = 0) := of_decide_eq_false cx27_
        have bx28_ : 0 ≤ Sx16_.1 13 0 34 ∧ Sx16_.1 13 0 34 ≤ 1023 := hIx17_.1 13 0 34 rfl
        refine sm_T_go 5 (c1 := (51, [some (.inr (.inr (some (13, 0)))), some (.inl wd_), some (.inl vx6_)], [.inl (Sx16_.1 13 0 34), .inl 8, .inr (.inr (some (139, 0)))], Sx16_)) rfl ?_
        refine sm_T_bin (w := 8 * (Sx16_.1 13 0 34)) rfl (bi_mul (by omega) (by omega) (by omega)) ?_
        refine sm_T_go 5 (c1 := (62, [some (.inr (.inr (some (13, 0)))), some (.inl wd_), some (.inl vx6_)], [.inl (Sx16_.1 13 0 34), .inl 8, .inr (.inr (some (139, 0))), .inl (8 * (Sx16_.1 13 0 34)), .inr (.inr (some (139, 0)))], Sx16_)) rfl ?_
        refine sm_T_bin (w := 8 * (Sx16_.1 13 0 34)) rfl (bi_mul (by omega) (by omega) (by omega)) ?_
        refine sm_T_go 3 (c1 := (68, [some (.inr (.inr (some (13, 0)))), some (.inl wd_), some (.inl vx6_)], [.inl vx6_, .inr (.inr (some (121, 0))), .inl (8 * (Sx16_.1 13 0 34)), .inr (.inr (some (139, 0))), .inl (8 * (Sx16_.1 13 0 34)), .inr (.inr (some (139, 0)))], Sx16_)) rfl ?_
        refine sm_T_iald (n := 65537) rfl rfl (by omega) (by omega) ?_
        have bx29_ : (-2147483648) ≤ Sx16_.2.2.1 121 0 vx6_.toNat ∧ Sx16_.2.2.1 121 0 vx6_.toNat ≤ 2147483647 := hIx17_.2 121 0 _
        refine sm_T_bin (w := 8 * (Sx16_.1 13 0 34) + (Sx16_.2.2.1 121 0 vx6_.toNat)) rfl (bi_add (by omega) (by omega) (by omega)) ?_
        refine sm_T_iald (n := 8192) rfl rfl (by omega) (by omega) ?_
        have bx30_ : 0 ≤ Sx16_.2.2.1 139 0 (8 * (Sx16_.1 13 0 34) + (Sx16_.2.2.1 121 0 vx6_.toNat)).toNat ∧ Sx16_.2.2.1 139 0 (8 * (Sx16_.1 13 0 34) + (Sx16_.2.2.1 121 0 vx6_.toNat)).toNat ≤ 2047 := hIx17_.2 139 0 _
        refine sm_T_iast (n := 8192) rfl rfl (by omega) (by omega) ?_
        have hIx31_ : gi (sm_aI Sx16_ 139 0 (8 * (Sx16_.1 13 0 34)).toNat (Sx16_.2.2.1 139 0 (8 * (Sx16_.1 13 0 34) + (Sx16_.2.2.1 121 0 vx6_.toNat)).toNat)) := gi_aI hIx17_ (show 0 ≤ (Sx16_.2.2.1 139 0 (8 * (Sx16_.1 13 0 34) + (Sx16_.2.2.1 121 0 vx6_.toNat)).toNat) ∧ (Sx16_.2.2.1 139 0 (8 * (Sx16_.1 13 0 34) + (Sx16_.2.2.1 121 0 vx6_.toNat)).toNat) ≤ 2047 from ⟨by omega, by omega⟩)
        have hFx32_ : ai_fr (sx_W vw_325g) S0_ (sm_aI Sx16_ 139 0 (8 * (Sx16_.1 13 0 34)).toNat (Sx16_.2.2.1 139 0 (8 * (Sx16_.1 13 0 34) + (Sx16_.2.2.1 121 0 vx6_.toNat)).toNat)) := ai_fr_tr hFx20_ (ai_fr_aI rfl)
        refine sm_T_go 5 (c1 := (81, [some (.inr (.inr (some (13, 0)))), some (.inl wd_), some (.inl vx6_)], [.inl 1, .inl (Sx16_.1 13 0 34), .inr (.inr (some (138, 0)))], sm_aI Sx16_ 139 0 (8 * (Sx16_.1 13 0 34)).toNat (Sx16_.2.2.1 139 0 (8 * (Sx16_.1 13 0 34) + (Sx16_.2.2.1 121 0 vx6_.toNat)).toNat))) rfl ?_
        refine sm_T_iast (n := 1024) rfl rfl (by omega) (by omega) ?_
        have hIx33_ : gi (sm_aI (sm_aI Sx16_ 139 0 (8 * (Sx16_.1 13 0 34)).toNat (Sx16_.2.2.1 139 0 (8 * (Sx16_.1 13 0 34) + (Sx16_.2.2.1 121 0 vx6_.toNat)).toNat)) 138 0 (Sx16_.1 13 0 34).toNat 1) := gi_aI hIx31_ (show (-2147483648) ≤ 1 ∧ 1 ≤ 2147483647 from ⟨by omega, by omega⟩)
        have hFx34_ : ai_fr (sx_W vw_325g) S0_ (sm_aI (sm_aI Sx16_ 139 0 (8 * (Sx16_.1 13 0 34)).toNat (Sx16_.2.2.1 139 0 (8 * (Sx16_.1 13 0 34) + (Sx16_.2.2.1 121 0 vx6_.toNat)).toNat)) 138 0 (Sx16_.1 13 0 34).toNat 1) := ai_fr_tr hFx32_ (ai_fr_aI rfl)
        refine sm_T_rv rfl ⟨_, _, rfl, rfl, hIx33_, hFx34_, ?_⟩
        refine ⟨g31_, fun j_ => ?_, fun j_ => ?_⟩
        · (try simp only [rd_eq, rd_ne, rf_eq, rf_nk, rf_nt, rd_fa, rd_af, rd_fl, rd_al, rd_lf, rd_la, rd_leq, rd_lne, rd_fr, rd_ar, ne_eq, Nat.reduceEqDiff, not_false_eq_true]); rw [v31_, Int.toNat_natCast, w31_]
        · (try simp only [rd_eq, rd_ne, rf_eq, rf_nk, rf_nt, rd_fa, rd_af, rd_fl, rd_al, rd_lf, rd_la, rd_leq, rd_lne, rd_fr, rd_ar, ne_eq, Nat.reduceEqDiff, not_false_eq_true]); rw [v31_, l31_, nv31_]; rw [show (8 * (gl_ : Int)).toNat = 8 * gl_ by omega, show (8 * (gl_ : Int) + lx_vl b_ n_ p_).toNat = 8 * gl_ + (lx_vl b_ n_ p_).toNat by omega]
    · have cx15_ : ¬ ((Sx1_.2.2.1 121 0 vx6_.toNat) < wd_) := of_decide_eq_false cx15_
      exfalso; omega
end
/-! 99.zc5c -/
section
/-! M_.plainNumber -/
def vw_322g : sx_Wl := ([(13, 9), (13, 10), (13, 11)], [138, 139], [])
def vq_322g (b_ : Nat → Int) (n_ : Nat) (T_ : Nat) (p_ : Nat) (gl_ : Nat) (r_ : Nat × Int × List Int) (S0_ : sm_S) (u_ : Option sm_V) (S1_ : sm_S) : Prop := u_ = none ∧ gi S1_ ∧ ai_fr (sx_W vw_322g) S0_ S1_ ∧ (rg b_ n_ T_ (.inr r_.1) S1_ ∧ rowat gl_ r_.2.1 (fun j_ => i_shr (lx_vl b_ n_ p_) (j_ : Int) % 2) S0_ S1_)
set_option maxHeartbeats 1000000 in
theorem vl_322g {sc_ : Nat × (Nat → Int)} (b_ : Nat → Int) (n_ : Nat) (T_ : Nat) (p_ : Nat) (gl_ : Nat) (r_ : Nat × Int × List Int) (S0_ : sm_S) (ht_ : rtab b_ n_ T_ S0_) (hx_ : rg b_ n_ T_ (.inr p_) S0_) (hv_ : (S0_.1 13 0 34) = (gl_ : Int) ∧ gl_ ≤ 1000) (hmo_ : (S0_.1 13 0 27) = 1) (hk_ : lx_kd b_ n_ p_ = 2) (hc_ : p_co b_ n_ p_ = .inr r_) : ∀ nn_ : Nat, (∀ (a_ : Int) (k_ : Int) (S_ : sm_S), gi S_ → ai_fr (sx_W vw_322g) S0_ S_ → ((0 ≤ k_ ∧ k_ ≤ 8 ∧ 0 ≤ a_ ∧ a_ ≤ 1280) ∧ (rg b_ n_ T_ (.inr r_.1) S_) ∧ (S_.2.2.1 121 0 a_.toNat = lx_vl b_ n_ p_) ∧ (∀ j_, S_.2.2.1 138 0 j_ = if j_ = gl_ then r_.2.1 else S0_.2.2.1 138 0 j_) ∧ (∀ j_, j_ < k_.toNat → S_.2.2.1 139 0 (8 * gl_ + j_) = i_shr (lx_vl b_ n_ p_) (j_ : Int) % 2) ∧ (∀ j_, j_ < 8 * gl_ ∨ 8 * gl_ + 8 ≤ j_ → S_.2.2.1 139 0 j_ = S0_.2.2.1 139 0 j_) ∧ True) → ((8 - k_).toNat) < nn_ → sm_T (mt_P sc_) 4 322 (102, [some (.inr (.inr (some (13, 0)))), some (.inl a_), none, some (.inl k_)], [], S_) (fun ro9_ => ∃ u_ S1_, ro9_ = (.inl u_, S1_, 0) ∧ vq_322g b_ n_ T_ p_ gl_ r_ S0_ u_ S1_)) := by
  intro nn_
  induction nn_ with
  | zero => exact fun _ _ _ _ _ _ h_ => absurd h_ (Nat.not_lt_zero _)
  | succ nn_ ih_ =>
    rintro a_ k_ S_ hI_ hF_ ⟨h0_, h4_, hna_, h1_, h2_, h3_, -⟩ hm_
    have v1_ : S_.1 13 0 34 = (gl_ : Int) := (hF_.1 13 0 34 rfl).trans hv_.1
    refine sm_T_go 2 (c1 := (105, [some (.inr (.inr (some (13, 0)))), some (.inl a_), none, some (.inl k_)], [.inl 8, .inl k_], S_)) rfl ?_
    refine sm_T_br (a := 3) (z := 33) rfl (fun cx1_ => ?_) (fun cx1_ => ?_)
    · have cx1_ : 8 ≤ k_ := of_decide_eq_true cx1_
      refine sm_T_rv rfl ⟨_, _, rfl, rfl, hI_, hF_, ?_⟩
      exact ⟨h4_, h1_, fun j_ hj_ => h2_ j_ (by omega), h3_⟩
    · have cx1_ : ¬ (8 ≤ k_) := of_decide_eq_false cx1_
      have bx2_ : 0 ≤ S_.1 13 0 34 ∧ S_.1 13 0 34 ≤ 1023 := hI_.1 13 0 34 rfl
      refine sm_T_go 5 (c1 := (118, [some (.inr (.inr (some (13, 0)))), some (.inl a_), none, some (.inl k_)], [.inl (S_.1 13 0 34), .inl 8, .inr (.inr (some (139, 0)))], S_)) rfl ?_
      refine sm_T_bin (w := 8 * (S_.1 13 0 34)) rfl (bi_mul (by omega) (by omega) (by omega)) ?_
      refine sm_T_go 1 (c1 := (120, [some (.inr (.inr (some (13, 0)))), some (.inl a_), none, some (.inl k_)], [.inl k_, .inl (8 * (S_.1 13 0 34)), .inr (.inr (some (139, 0)))], S_)) rfl ?_
      refine sm_T_bin (w := 8 * (S_.1 13 0 34) + k_) rfl (bi_add (by omega) (by omega) (by omega)) ?_
      refine sm_T_go 3 (c1 := (126, [some (.inr (.inr (some (13, 0)))), some (.inl a_), none, some (.inl k_)], [.inl a_, .inr (.inr (some (121, 0))), .inl (8 * (S_.1 13 0 34) + k_), .inr (.inr (some (139, 0)))], S_)) rfl ?_
      refine sm_T_iald (n := 65537) rfl rfl (by omega) (by omega) ?_
      have bx3_ : (-2147483648) ≤ S_.2.2.1 121 0 a_.toNat ∧ S_.2.2.1 121 0 a_.toNat ≤ 2147483647 := hI_.2 121 0 _
      refine sm_T_go 1 (c1 := (128, [some (.inr (.inr (some (13, 0)))), some (.inl a_), none, some (.inl k_)], [.inl k_, .inl (S_.2.2.1 121 0 a_.toNat), .inl (8 * (S_.1 13 0 34) + k_), .inr (.inr (some (139, 0)))], S_)) rfl ?_
      refine sm_T_bin (w := (i_shr (S_.2.2.1 121 0 a_.toNat) k_)) rfl rfl ?_
      refine sm_T_go 1 (c1 := (130, [some (.inr (.inr (some (13, 0)))), some (.inl a_), none, some (.inl k_)], [.inl 1, .inl (i_shr (S_.2.2.1 121 0 a_.toNat) k_), .inl (8 * (S_.1 13 0 34) + k_), .inr (.inr (some (139, 0)))], S_)) rfl ?_
      refine sm_T_bin (w := ((i_shr (S_.2.2.1 121 0 a_.toNat) k_) % 2)) rfl (bi_msk (k := 1) (by decide)) ?_
      refine sm_T_iast (n := 8192) rfl rfl (by omega) (by omega) ?_
      have hIx4_ : gi (sm_aI S_ 139 0 (8 * (S_.1 13 0 34) + k_).toNat ((i_shr (S_.2.2.1 121 0 a_.toNat) k_) % 2)) := gi_aI hI_ (show 0 ≤ ((i_shr (S_.2.2.1 121 0 a_.toNat) k_) % 2) ∧ ((i_shr (S_.2.2.1 121 0 a_.toNat) k_) % 2) ≤ 2047 from ⟨by omega, by omega⟩)
      have hFx5_ : ai_fr (sx_W vw_322g) S0_ (sm_aI S_ 139 0 (8 * (S_.1 13 0 34) + k_).toNat ((i_shr (S_.2.2.1 121 0 a_.toNat) k_) % 2)) := ai_fr_tr hF_ (ai_fr_aI rfl)
      refine sm_T_inc (a := 3) (z := 1) (v := k_) (w := k_ + 1) rfl rfl (by omega) (by omega) (by omega) ?_
      refine sm_T_go 1 (c1 := (102, [some (.inr (.inr (some (13, 0)))), some (.inl a_), none, some (.inl (k_ + 1))], [], sm_aI S_ 139 0 (8 * (S_.1 13 0 34) + k_).toNat ((i_shr (S_.2.2.1 121 0 a_.toNat) k_) % 2))) rfl ?_
      refine ih_ a_ (k_ + 1) (sm_aI S_ 139 0 (8 * (S_.1 13 0 34) + k_).toNat ((i_shr (S_.2.2.1 121 0 a_.toNat) k_) % 2)) hIx4_ hFx5_ ⟨?_, ?_, ?_, ?_, ?_, ?_, trivial⟩ ?_
      · omega
      · exact h4_
      · (rw [rd_ne (by decide)]; exact hna_)
      · (intro j_; rw [rd_ne (by decide)]; exact h1_ j_)
      · intro j_ hj_
        by_cases z_ : j_ < k_.toNat
        · rw [rd_eq, if_neg (by omega)]; exact h2_ j_ z_
        · have zj_ : j_ = k_.toNat := by omega
          rw [rd_eq, if_pos (by omega), zj_, hna_, show ((k_.toNat : Nat) : Int) = k_ by omega]
      · (intro j_ hj_; rw [rd_eq, if_neg (by omega)]; exact h3_ j_ hj_)
      · omega
set_option maxHeartbeats 1000000 in
theorem vc_322g {sc_ : Nat × (Nat → Int)} (b_ : Nat → Int) (n_ : Nat) (T_ : Nat) (p_ : Nat) (gl_ : Nat) (r_ : Nat × Int × List Int) (S0_ : sm_S) (hI_ : gi S0_) (ht_ : rtab b_ n_ T_ S0_) (hx_ : rg b_ n_ T_ (.inr p_) S0_) (hv_ : (S0_.1 13 0 34) = (gl_ : Int) ∧ gl_ ≤ 1000) (hmo_ : (S0_.1 13 0 27) = 1) (hk_ : lx_kd b_ n_ p_ = 2) (hc_ : p_co b_ n_ p_ = .inr r_) : sm_T (mt_P sc_) 4 322 (0, [some (.inr (.inr (some (13, 0)))), none, none, none], [], S0_) (fun ro9_ => ∃ u_ S1_, ro9_ = (.inl u_, S1_, 0) ∧ vq_322g b_ n_ T_ p_ gl_ r_ S0_ u_ S1_) := by
  have hF_ : ai_fr (sx_W vw_322g) S0_ S0_ := ai_fr_rf
  obtain ⟨i_, hi_⟩ := id hx_.2
  have hi9_ := hi_.2.1
  have hT_ := ht_.2.1
  have hf_ := hx_.1
  obtain ⟨q_, r3_, u_, c1_, c2_, c3_, c4_, c5_, c6_, c7_, hr_⟩ := co_r hc_
  have vp0_ := lx_vl_0 hk_
  have bx1_ : 0 ≤ S0_.1 13 0 9 ∧ S0_.1 13 0 9 ≤ 1280 := hI_.1 13 0 9 rfl
  refine sm_T_go 4 (c1 := (6, [some (.inr (.inr (some (13, 0)))), some (.inl (S0_.1 13 0 9)), none, none], [.inr (.inr (some (13, 0)))], S0_)) rfl ?_
  refine sm_T_cal (d1 := 2) (Q1 := vq_297 b_ n_ T_ (.inr p_) S0_) rfl rfl (by decide) (vc_297 b_ n_ T_ (.inr p_) S0_ hI_ (by exact ht_) (by exact hx_) (by (intro q_ e_; cases e_; omega))) (fun u_ Sx2_ px5_ => ?_)
  obtain ⟨rfl, hIx3_, hFx4_, px5_⟩ := px5_
  have hFx6_ : ai_fr (sx_W vw_322g) S0_ Sx2_ := ai_fr_tr hF_ (fr_le hFx4_ rfl)
  have g6_ := px5_.1
  rw [pb_r rfl, c1_] at g6_
  have w6_ := fr_arr (t := 138) (i := 0) hFx4_ rfl
  have x6_ := fr_arr (t := 139) (i := 0) hFx4_ rfl
  have t6_ := rtab_fr ht_ hFx4_ rfl rfl rfl rfl rfl
  refine sm_T_go 2 (c1 := (12, [some (.inr (.inr (some (13, 0)))), some (.inl (S0_.1 13 0 9)), none, none], [.inl 64, .inr (.inr (some (13, 0)))], Sx2_)) rfl ?_
  refine sm_T_cal (d1 := 3) (Q1 := vq_300 64 b_ n_ T_ (.inr q_) Sx2_) rfl rfl (by decide) (vc_300 64 b_ n_ T_ (.inr q_) Sx2_ hIx3_ (by exact t6_) (by exact g6_) (by decide)) (fun u_ Sx7_ px10_ => ?_)
  obtain ⟨rfl, hIx8_, hFx9_, px10_⟩ := px10_
  have hFx11_ : ai_fr (sx_W vw_322g) S0_ Sx7_ := ai_fr_tr hFx6_ (fr_le hFx9_ rfl)
  have g12_ := px10_
  rw [pb_r rfl, show p_nd b_ n_ 64 q_ = .inr r3_ from (if_pos c2_).trans c3_] at g12_
  have w12_ := (fr_arr (t := 138) (i := 0) hFx9_ rfl).trans w6_
  have x12_ := (fr_arr (t := 139) (i := 0) hFx9_ rfl).trans x6_
  have t12_ := rtab_fr t6_ hFx9_ rfl rfl rfl rfl rfl
  refine sm_T_go 2 (c1 := (17, [some (.inr (.inr (some (13, 0)))), some (.inl (S0_.1 13 0 9)), none, none], [.inl 2, .inr (.inr (some (13, 0)))], Sx7_)) rfl ?_
  refine sm_T_cal (d1 := 1) (Q1 := vq_299 2 b_ n_ T_ (.inr r3_) Sx7_) rfl rfl (by decide) (vc_299 2 b_ n_ T_ (.inr r3_) Sx7_ hIx8_ (by exact t12_) (by exact g12_) (by decide)) (fun u_ Sx12_ px15_ => ?_)
  obtain ⟨vx17_, rfl, hIx13_, hFx14_, px15_⟩ := px15_
  have hFx16_ : ai_fr (sx_W vw_322g) S0_ Sx12_ := ai_fr_tr hFx11_ (fr_le hFx14_ rfl)
  have a17_ := px15_.1
  have g17_ := px15_.2
  rw [pb_r rfl, show p_du b_ n_ 2 r3_ = .inr r3_ from if_pos c4_] at g17_
  have w17_ := (fr_arr (t := 138) (i := 0) hFx14_ rfl).trans w12_
  have x17_ := (fr_arr (t := 139) (i := 0) hFx14_ rfl).trans x12_
  have t17_ := rtab_fr t12_ hFx14_ rfl rfl rfl rfl rfl
  have at17_ := hFx14_.1 13 0 9 rfl
  obtain ⟨i3_, j1_, j2_⟩ := id g17_.2
  have v17b : 0 ≤ vx17_ ∧ vx17_ ≤ 1280 := by rw [a17_, ← at17_]; exact hIx13_.1 13 0 9 rfl
  have nv17_ : Sx12_.2.2.1 121 0 vx17_.toNat = lx_vl b_ n_ r3_ := by have q4_ := rp_at t17_ j2_; rw [show vx17_.toNat = i3_ by omega, q4_.2.2.1, c4_]; rfl
  have f17_ := g17_.1
  have key17_ : ∀ S9_ : sm_S, S9_.2.2.1 121 0 = Sx12_.2.2.1 121 0 → S9_.2.2.1 121 0 vx17_.toNat = lx_vl b_ n_ r3_ := fun S9_ q_ => by rw [q_]; exact nv17_
  refine sm_T_go 2 (c1 := (22, [some (.inr (.inr (some (13, 0)))), some (.inl (S0_.1 13 0 9)), some (.inl vx17_), none], [.inr (.inr (some (13, 0)))], Sx12_)) rfl ?_
  refine sm_T_cal (d1 := 0) (Q1 := vq_292  Sx12_) rfl rfl (by decide) (vc_292  Sx12_ hIx13_ ) (fun u_ Sx18_ px21_ => ?_)
  obtain ⟨rfl, vx23_, rfl, px21_⟩ := px21_
  have e22_ := px21_
  refine sm_T_b0 (a := 0) (z := 25) rfl (fun cx24_ => ?_) (fun cx24_ => ?_)
  · have cx24_ : vx23_ = 0 := of_decide_eq_true cx24_
    exfalso; (rw [if_pos f17_] at e22_; omega)
  · have cx24_ : ¬ (vx23_ = 0) := of_decide_eq_false cx24_
    refine sm_T_go 3 (c1 := (33, [some (.inr (.inr (some (13, 0)))), some (.inl (S0_.1 13 0 9)), some (.inl vx17_), none], [.inl vx17_, .inr (.inr (some (121, 0)))], Sx12_)) rfl ?_
    refine sm_T_iald (n := 65537) rfl rfl (by omega) (by omega) ?_
    have bx25_ : (-2147483648) ≤ Sx12_.2.2.1 121 0 vx17_.toNat ∧ Sx12_.2.2.1 121 0 vx17_.toNat ≤ 2147483647 := hIx13_.2 121 0 _
    refine sm_T_go 2 (c1 := (37, [some (.inr (.inr (some (13, 0)))), some (.inl (S0_.1 13 0 9)), some (.inl vx17_), none], [.inl 8, .inl 1, .inl (Sx12_.2.2.1 121 0 vx17_.toNat)], Sx12_)) rfl ?_
    refine sm_T_cal (d1 := 0) (Q1 := vq_278 (Sx12_.2.2.1 121 0 vx17_.toNat) 1 8 Sx12_) rfl rfl (by decide) (vc_278 (Sx12_.2.2.1 121 0 vx17_.toNat) 1 8 Sx12_ hIx13_ ) (fun u_ Sx26_ px29_ => ?_)
    obtain ⟨rfl, vx31_, rfl, px29_⟩ := px29_
    have e37_ := px29_
    refine sm_T_b0 (a := 1) (z := 10) rfl (fun cx32_ => ?_) (fun cx32_ => ?_)
    · have cx32_ : vx31_ ≠ 0 := of_decide_eq_true cx32_
      refine sm_T_go 1 (c1 := (51, [some (.inr (.inr (some (13, 0)))), some (.inl (S0_.1 13 0 9)), some (.inl vx17_), none], [.inr (.inr (some (13, 0)))], Sx12_)) rfl ?_
      refine sm_T_cal (d1 := 2) (Q1 := vq_297 b_ n_ T_ (.inr r3_) Sx12_) rfl rfl (by decide) (vc_297 b_ n_ T_ (.inr r3_) Sx12_ hIx13_ (by exact t17_) (by exact g17_) (by (intro q9_ e_; cases e_; omega))) (fun u_ Sx33_ px36_ => ?_)
      obtain ⟨rfl, hIx34_, hFx35_, px36_⟩ := px36_
      have hFx37_ : ai_fr (sx_W vw_322g) S0_ Sx33_ := ai_fr_tr hFx16_ (fr_le hFx35_ rfl)
      have g51_ := px36_.1
      rw [pb_r rfl, c6_] at g51_
      have f51_ := g51_.1
      have t51_ := rtab_fr t17_ hFx35_ rfl rfl rfl rfl rfl
      have nv51_ := key17_ _ (fr_arr (t := 121) (i := 0) hFx35_ rfl)
      have na51_ : Sx33_.2.2.1 121 0 (S0_.1 13 0 9).toNat = lx_vl b_ n_ p_ := by rw [show (S0_.1 13 0 9).toNat = i_ by omega, (rp_at t51_ hi_.2).2.2.1, hk_]; rfl
      have v51_ : Sx33_.1 13 0 34 = (gl_ : Int) := (hFx37_.1 13 0 34 rfl).trans hv_.1
      have w51_ := (fr_arr (t := 138) (i := 0) hFx35_ rfl).trans w17_
      have l51_ := (fr_arr (t := 139) (i := 0) hFx35_ rfl).trans x17_
      refine sm_T_go 1 (c1 := (55, [some (.inr (.inr (some (13, 0)))), some (.inl (S0_.1 13 0 9)), some (.inl vx17_), none], [.inr (.inr (some (13, 0)))], Sx33_)) rfl ?_
      refine sm_T_cal (d1 := 0) (Q1 := vq_292  Sx33_) rfl rfl (by decide) (vc_292  Sx33_ hIx34_ ) (fun u_ Sx38_ px41_ => ?_)
      obtain ⟨rfl, vx43_, rfl, px41_⟩ := px41_
      have e55_ := px41_
      refine sm_T_b0 (a := 0) (z := 27) rfl (fun cx44_ => ?_) (fun cx44_ => ?_)
      · have cx44_ : vx43_ = 0 := of_decide_eq_true cx44_
        exfalso; (rw [if_pos f51_] at e55_; omega)
      · have cx44_ : ¬ (vx43_ = 0) := of_decide_eq_false cx44_
        refine sm_T_go 3 (c1 := (66, [some (.inr (.inr (some (13, 0)))), some (.inl (S0_.1 13 0 9)), some (.inl vx17_), none], [.inl (S0_.1 13 0 9), .inr (.inr (some (121, 0)))], Sx33_)) rfl ?_
        refine sm_T_iald (n := 65537) rfl rfl (by omega) (by omega) ?_
        have bx45_ : (-2147483648) ≤ Sx33_.2.2.1 121 0 (S0_.1 13 0 9).toNat ∧ Sx33_.2.2.1 121 0 (S0_.1 13 0 9).toNat ≤ 2147483647 := hIx34_.2 121 0 _
        refine sm_T_go 4 (c1 := (73, [some (.inr (.inr (some (13, 0)))), some (.inl (S0_.1 13 0 9)), some (.inl vx17_), none], [.inl vx17_, .inr (.inr (some (121, 0))), .inl 1, .inl (Sx33_.2.2.1 121 0 (S0_.1 13 0 9).toNat)], Sx33_)) rfl ?_
        refine sm_T_iald (n := 65537) rfl rfl (by omega) (by omega) ?_
        have bx46_ : (-2147483648) ≤ Sx33_.2.2.1 121 0 vx17_.toNat ∧ Sx33_.2.2.1 121 0 vx17_.toNat ≤ 2147483647 := hIx34_.2 121 0 _
        refine sm_T_bin (w := (i_shl 1 (Sx33_.2.2.1 121 0 vx17_.toNat))) rfl rfl ?_
        refine sm_T_br (a := 2) (z := 10) rfl (fun cx47_ => ?_) (fun cx47_ => ?_)
        · have cx47_ : (Sx33_.2.2.1 121 0 (S0_.1 13 0 9).toNat) < (i_shl 1 (Sx33_.2.2.1 121 0 vx17_.toNat)) := of_decide_eq_true cx47_
          have bx48_ : 0 ≤ Sx33_.1 13 0 34 ∧ Sx33_.1 13 0 34 ≤ 1023 := hIx34_.1 13 0 34 rfl
          refine sm_T_go 7 (c1 := (98, [some (.inr (.inr (some (13, 0)))), some (.inl (S0_.1 13 0 9)), some (.inl vx17_), none], [.inl vx17_, .inr (.inr (some (121, 0))), .inl (Sx33_.1 13 0 34), .inr (.inr (some (138, 0)))], Sx33_)) rfl ?_
          refine sm_T_iald (n := 65537) rfl rfl (by omega) (by omega) ?_
          refine sm_T_iast (n := 1024) rfl rfl (by omega) (by omega) ?_
          have hIx49_ : gi (sm_aI Sx33_ 138 0 (Sx33_.1 13 0 34).toNat (Sx33_.2.2.1 121 0 vx17_.toNat)) := gi_aI hIx34_ (show (-2147483648) ≤ (Sx33_.2.2.1 121 0 vx17_.toNat) ∧ (Sx33_.2.2.1 121 0 vx17_.toNat) ≤ 2147483647 from ⟨by omega, by omega⟩)
          have hFx50_ : ai_fr (sx_W vw_322g) S0_ (sm_aI Sx33_ 138 0 (Sx33_.1 13 0 34).toNat (Sx33_.2.2.1 121 0 vx17_.toNat)) := ai_fr_tr hFx37_ (ai_fr_aI rfl)
          refine sm_T_go 2 (c1 := (102, [some (.inr (.inr (some (13, 0)))), some (.inl (S0_.1 13 0 9)), some (.inl vx17_), some (.inl 0)], [], sm_aI Sx33_ 138 0 (Sx33_.1 13 0 34).toNat (Sx33_.2.2.1 121 0 vx17_.toNat))) rfl ?_
          refine sm_T_wk [some (.inr (.inr (some (13, 0)))), some (.inl (S0_.1 13 0 9)), none, some (.inl 0)] (by exact ⟨rfl, rfl, rfl, trivial⟩) ?_
          refine (vl_322g b_ n_ T_ p_ gl_ r_ S0_ ht_ hx_ hv_ hmo_ hk_ hc_ _) (S0_.1 13 0 9) 0 (sm_aI Sx33_ 138 0 (Sx33_.1 13 0 34).toNat (Sx33_.2.2.1 121 0 vx17_.toNat)) hIx49_ hFx50_ ⟨?_, ?_, ?_, ?_, ?_, ?_, trivial⟩ (Nat.lt_succ_self _)
          · omega
          · (rw [hr_]; exact g51_)
          · exact na51_
          · (intro j_; rw [hr_]; (try simp only [rd_eq, rd_ne, rf_eq, rf_nk, rf_nt, rd_fa, rd_af, rd_fl, rd_al, rd_lf, rd_la, rd_leq, rd_lne, rd_fr, rd_ar, ne_eq, Nat.reduceEqDiff, not_false_eq_true]); rw [v51_, Int.toNat_natCast, w51_, nv51_])
          · (intro j_ hj_; exact absurd hj_ (Nat.not_lt_zero _))
          · (intro j_ hj_; rw [rd_ne (by decide), l51_])
        · have cx47_ : ¬ ((Sx33_.2.2.1 121 0 (S0_.1 13 0 9).toNat) < (i_shl 1 (Sx33_.2.2.1 121 0 vx17_.toNat))) := of_decide_eq_false cx47_
          exfalso; (have z_ := (shl_ge (x_ := lx_vl b_ n_ p_) (w_ := lx_vl b_ n_ r3_) vp0_ c5_).mp (by rw [← na51_, ← nv51_]; omega); exact z_ c7_)
    · have cx32_ : ¬ (vx31_ ≠ 0) := of_decide_eq_false cx32_
      exfalso; (have z_ := e37_.2.mpr (by omega); omega)
end
/-! 99.zc6a -/
section
/-! the reference: parts of instances, second pass; written by wip/p55/gen/vg -/

/-! names, second pass -/
def ev1 (F_ I_ : Nat) (A_ : pA) (X_ : Nat → gQ → gE → Option (gQ × gE)) (m_ : Nat) (E_ : gE) (O_ : gO) (c1_ : List Int) (v_ : List Int) : Prop := ∀ (q_ : gQ) (V_ : gV) (c_ : List Int) (s0_ : gS), V_.length < 512 → ev F_ I_ A_ X_ m_ s0_ c_ = some (q_, E_, O_, V_) → ev F_ I_ A_ X_ m_ s0_ (c1_ ++ c_) = some (q_, E_, O_, v_ :: V_)
def ten (A_ : pA) (m_ K_ : Nat) (E_ : gE) (O_ : gO) : Prop := K_ ≤ A_.1 m_ ∧ ∀ s_, s_ < K_ → (A_.2.2.1 (40 * m_ + s_) ≠ 5 → ((E_ s_).length : Int) = A_.2.2.2.1 (40 * m_ + s_)) ∧ (A_.2.2.1 (40 * m_ + s_) = 5 → ∃ o_, O_ s_ = some o_ ∧ ∀ o1_, o1_ < A_.1 (A_.2.2.2.2 (40 * m_ + s_)).toNat → A_.2.2.1 (40 * (A_.2.2.2.2 (40 * m_ + s_)).toNat + o1_) ≠ 5 → ((o_ o1_).length : Int) = A_.2.2.2.1 (40 * (A_.2.2.2.2 (40 * m_ + s_)).toNat + o1_))
def rev (fr_ K_ : Nat) (E_ : gE) (O_ : gO) (ok_ : Prop) (S_ : sm_S) : Prop := ok_ → (∀ s_, s_ < 40 → rwv (S_.2.2.1 144 0) (8 * (40 * fr_ + s_)) (E_ s_)) ∧ ∀ s_ o_, s_ < K_ → O_ s_ = some o_ → ∀ o1_, o1_ < 40 → rwv (S_.2.2.1 145 0) (8 * (40 * (40 * fr_ + s_) + o1_)) (o_ o1_)
theorem rev_fr {w_ : sx_Wl} {fr_ K_ : Nat} {E_ : gE} {O_ : gO} {ok_ : Prop} {S_ S'_ : sm_S} (h_ : rev fr_ K_ E_ O_ ok_ S_) (g_ : ai_fr (sx_W w_) S_ S'_) (h0_ : (sx_W w_).2.1 144 = false) (h1_ : (sx_W w_).2.1 145 = false) : rev fr_ K_ E_ O_ ok_ S'_ := by
  unfold rev at h_ ⊢
  rw [fr_arr g_ h0_, fr_arr g_ h1_]
  exact h_
section EV1_
variable {F_ I_ m_ : Nat} {A_ : pA} {X_ : Nat → gQ → gE → Option (gQ × gE)} {E_ : gE} {O_ : gO}
theorem ev1_cn {a_ d_ : Int} (ha_ : 1 ≤ a_ ∧ a_ ≤ 8) (hd_ : 0 ≤ d_) : ev1 F_ I_ A_ X_ m_ E_ O_ [cw 8 a_ d_] (c_bt a_.toNat d_) := fun _ _ _ _ hV_ h_ => ev_cn h_ hV_ ha_ hd_
theorem ev1_ld {a_ : Int} (ha_ : 0 ≤ a_ ∧ a_ < A_.1 m_) (hm_ : A_.1 m_ ≤ 40) (hl_ : 1 ≤ (E_ a_.toNat).length ∧ (E_ a_.toNat).length ≤ 8) (hw_ : ((E_ a_.toNat).length : Int) = A_.2.2.2.1 (40 * m_ + a_.toNat)) : ev1 F_ I_ A_ X_ m_ E_ O_ [cw 9 a_ 0] (E_ a_.toNat) := fun _ _ _ _ hV_ h_ => ev_ld h_ hV_ ha_ hm_ hl_ hw_
theorem ev1_pt {a_ d_ : Int} {o_ : Nat → List Int} (ha_ : 0 ≤ a_ ∧ a_ < A_.1 m_) (hm_ : A_.1 m_ ≤ 40) (hO_ : O_ a_.toNat = some o_) (hd_ : 0 ≤ d_ ∧ d_ < A_.1 (A_.2.2.2.2 (40 * m_ + a_.toNat)).toNat) (h5_ : 0 ≤ A_.2.2.2.2 (40 * m_ + a_.toNat) ∧ A_.2.2.2.2 (40 * m_ + a_.toNat) < m_) (hl_ : 1 ≤ (o_ d_.toNat).length ∧ (o_ d_.toNat).length ≤ 8) (hw_ : ((o_ d_.toNat).length : Int) = A_.2.2.2.1 (40 * (A_.2.2.2.2 (40 * m_ + a_.toNat)).toNat + d_.toNat)) : ev1 F_ I_ A_ X_ m_ E_ O_ [cw 10 a_ d_] (o_ d_.toNat) := fun _ _ _ _ hV_ h_ => ev_pt h_ hV_ ha_ hm_ hO_ hd_ h5_ hl_ hw_
theorem ev1_bi {k_ : Int} {c_ : List Int} {v_ : List Int} (h_ : ev1 F_ I_ A_ X_ m_ E_ O_ c_ v_) (hk_ : 0 ≤ k_ ∧ k_ < v_.length) (h8_ : v_.length ≤ 8) : ev1 F_ I_ A_ X_ m_ E_ O_ (cw 11 k_ 0 :: c_) [v_.getD k_.toNat 0] := fun q_ V_ c1_ s0_ hV_ h1_ => ev_bi (h_ q_ V_ c1_ s0_ hV_ h1_) hk_ h8_
end EV1_
/-- row_ gl_ holds v_, the_ other rows are_ as_ they were -/
def rowv (gl_ : Nat) (v_ : List Int) (ok_ : Prop) (S0_ S1_ : sm_S) : Prop := (∀ j_, S1_.2.2.1 138 0 j_ = if j_ = gl_ then (v_.length : Int) else S0_.2.2.1 138 0 j_) ∧ (ok_ → rwv (S1_.2.2.1 139 0) (8 * gl_) v_) ∧ (∀ j_, j_ < 8 * gl_ ∨ 8 * gl_ + 8 ≤ j_ → S1_.2.2.1 139 0 j_ = S0_.2.2.1 139 0 j_)
theorem rowv_of {gl_ : Nat} {v_ : List Int} {f_ : Nat → Int} {w_ : Int} {ok_ : Prop} {S0_ S1_ : sm_S} (h_ : rowat gl_ w_ f_ S0_ S1_) (hw_ : w_ = (v_.length : Int)) (h8_ : v_.length ≤ 8) (hf_ : ok_ → ∀ (k_ : Nat) (z_ : Int), v_[k_]? = some z_ → f_ k_ = z_) : rowv gl_ v_ ok_ S0_ S1_ := by
  refine ⟨fun j_ => by rw [h_.1, hw_], fun z_ k_ x_ e_ => ?_, h_.2.2⟩
  have hk_ : k_ < v_.length := by
    by_cases w_ : k_ < v_.length
    · exact w_
    · rw [List.getElem?_eq_none (by omega)] at e_; cases e_
  rw [h_.2.1 k_ (by omega)]
  exact hf_ z_ k_ x_ e_
theorem rowv_bi {gl_ k_ : Nat} {v_ : List Int} {ok_ : Prop} {S0_ S1_ S2_ : sm_S} (h_ : rowv gl_ v_ ok_ S0_ S1_) (hk_ : k_ < v_.length) (h8_ : v_.length ≤ 8) (e1_ : ∀ j_, S2_.2.2.1 138 0 j_ = if j_ = gl_ then 1 else S1_.2.2.1 138 0 j_) (e2_ : ∀ j_, S2_.2.2.1 139 0 j_ = if j_ = 8 * gl_ then S1_.2.2.1 139 0 (8 * gl_ + k_) else S1_.2.2.1 139 0 j_) : rowv gl_ [v_.getD k_ 0] ok_ S0_ S2_ := by
  refine ⟨fun j_ => ?_, fun z_ k1_ x_ e_ => ?_, fun j_ hj_ => ?_⟩
  · rw [e1_, h_.1]
    by_cases q_ : j_ = gl_
    · rw [if_pos q_, if_pos q_]; rfl
    · rw [if_neg q_, if_neg q_, if_neg q_]
  · have k0_ : k1_ = 0 := by
      cases k1_ with
      | zero => rfl
      | succ k1_ => simp at e_
    subst k0_
    rw [e2_, if_pos (by omega), rwv_g (h_.2.1 z_) hk_]
    exact Option.some.inj e_
  · rw [e2_, if_neg (by omega)]
    exact h_.2.2 j_ hj_
theorem pa_r {b_ : Nat → Int} {n_ d_ p_ : Nat} {A_ : pA} {s_ : Int} {r_ : Nat × Int × List Int} (hr_ : p_pa b_ n_ A_ s_ d_ p_ = .inr r_) : ∃ o9_ q_ : Nat, p_fn b_ n_ A_ d_ p_ = (o9_ : Int) ∧ o9_ < A_.1 d_ ∧ A_.2.2.1 (40 * d_ + o9_) = 1 ∧ p_ad b_ n_ p_ = .inr q_ ∧ ((lx_kd b_ n_ q_ ≠ 46 ∧ r_ = (q_, A_.2.2.2.1 (40 * d_ + o9_), [cw 10 s_ (o9_ : Int)])) ∨ (lx_kd b_ n_ q_ = 46 ∧ ∃ q2_ u_, p_ad b_ n_ q_ = .inr q2_ ∧ p_bp b_ n_ (A_.2.2.2.1 (40 * d_ + o9_)) q2_ = .inr u_ ∧ r_ = (u_, 1, [cw 11 (lx_vl b_ n_ q2_) 0, cw 10 s_ (o9_ : Int)]))) := by
  unfold p_pa at hr_
  by_cases h_ : p_fn b_ n_ A_ d_ p_ = -1 ∨ A_.2.2.1 (40 * d_ + (p_fn b_ n_ A_ d_ p_).toNat) ≠ 1
  · rw [if_pos h_] at hr_
    cases hr_
  · rw [if_neg h_] at hr_
    have hf_ : p_fn b_ n_ A_ d_ p_ ≠ -1 := fun z_ => h_ (Or.inl z_)
    obtain ⟨o9_, q1_, q2_, q3_, -⟩ := p_fn_b (b_ := b_) (n_ := n_) (A_ := A_) (m_ := d_) (p_ := p_) hf_
    have hs_ : A_.2.2.1 (40 * d_ + o9_) = 1 := by
      by_cases z_ : A_.2.2.1 (40 * d_ + o9_) = 1
      · exact z_
      · exact absurd (Or.inr (by rw [q3_]; exact z_)) h_
    obtain ⟨q_, h1_, h2_⟩ := pb_inr hr_
    rw [q3_, q1_] at h2_
    refine ⟨o9_, q_, q1_, q2_, hs_, h1_, ?_⟩
    split at h2_
    · rename_i g_
      obtain ⟨u_, h3_, h4_⟩ := pb_inr h2_
      rw [bp_bi] at h4_
      obtain ⟨v_, h5_, h6_⟩ := pb_inr h4_
      cases h6_
      exact Or.inr ⟨g_, u_, v_, h3_, h5_, rfl⟩
    · rename_i g_
      cases h2_
      exact Or.inl ⟨g_, rfl⟩
/-! M_.ofInstance -/
def vw_326g : sx_Wl := ([(13, 9), (13, 10), (13, 11)], [138, 139], [])
def vq_326g (s_ : Int) (b_ : Nat → Int) (n_ : Nat) (T_ : Nat) (p_ : Nat) (gl_ : Nat) (F_ : Nat) (I_ : Nat) (A_ : pA) (X_ : Nat → gQ → gE → Option (gQ × gE)) (M_ : Nat) (K_ : Nat) (fr_ : Nat) (E_ : gE) (O_ : gO) (ok_ : Prop) (r_ : Nat × Int × List Int) (s9_ : Nat) (S0_ : sm_S) (u_ : Option sm_V) (S1_ : sm_S) : Prop := u_ = none ∧ gi S1_ ∧ ai_fr (sx_W vw_326g) S0_ S1_ ∧ (∃ v9_, ev1 F_ I_ A_ X_ M_ E_ O_ r_.2.2 v9_ ∧ (v9_.length : Int) = r_.2.1 ∧ (1 ≤ v9_.length ∧ v9_.length ≤ 8) ∧ rg b_ n_ T_ (.inr r_.1) S1_ ∧ rowv gl_ v9_ ok_ S0_ S1_)
set_option maxHeartbeats 1500000 in
theorem vc_326g {sc_ : Nat × (Nat → Int)} (s_ : Int) (b_ : Nat → Int) (n_ : Nat) (T_ : Nat) (p_ : Nat) (gl_ : Nat) (F_ : Nat) (I_ : Nat) (A_ : pA) (X_ : Nat → gQ → gE → Option (gQ × gE)) (M_ : Nat) (K_ : Nat) (fr_ : Nat) (E_ : gE) (O_ : gO) (ok_ : Prop) (r_ : Nat × Int × List Int) (s9_ : Nat) (S0_ : sm_S) (hI_ : gi S0_) (ht_ : rtab b_ n_ T_ S0_) (hx_ : rg b_ n_ T_ (.inr p_) S0_) (hv_ : (S0_.1 13 0 34) = (gl_ : Int) ∧ gl_ ≤ 1000) (hmo_ : (S0_.1 13 0 27) = 1) (hk_ : lx_kd b_ n_ p_ = 1) (hA_ : a_ok b_ n_ A_ M_) (hmd_ : (S0_.1 13 0 28) = (M_ : Int)) (hfr_ : (S0_.1 13 0 29) = (fr_ : Int) ∧ fr_ ≤ 15) (hre_ : ∀ m_, m_ ≤ M_ → re1 b_ n_ T_ A_ m_ S0_) (hte_ : ten A_ M_ K_ E_ O_) (hev_ : rev fr_ K_ E_ O_ ok_ S0_) (hs9_ : s_ = (s9_ : Int) ∧ s9_ < K_) (h5_ : A_.2.2.1 (40 * M_ + s9_) = 5) (hpa_ : p_pa b_ n_ A_ s_ (A_.2.2.2.2 (40 * M_ + s9_)).toNat p_ = .inr r_) : sm_T (mt_P sc_) 4 326 (0, [some (.inr (.inr (some (13, 0)))), some (.inl s_), none, none, none], [], S0_) (fun ro9_ => ∃ u_ S1_, ro9_ = (.inl u_, S1_, 0) ∧ vq_326g s_ b_ n_ T_ p_ gl_ F_ I_ A_ X_ M_ K_ fr_ E_ O_ ok_ r_ s9_ S0_ u_ S1_) := by
  have hF_ : ai_fr (sx_W vw_326g) S0_ S0_ := ai_fr_rf
  obtain ⟨i_, hi_⟩ := id hx_.2
  have hi9_ := hi_.2.1
  have hT_ := ht_.2.1
  have hf_ := hx_.1
  have rt1_ := rp_rtk ht_ hi_.2 hk_
  have hM1_ := hA_.1
  have aM_ := hA_.2 M_ (Nat.le_refl _)
  have aM1_ := aM_.1
  have sA_ := Nat.lt_of_lt_of_le hs9_.2 hte_.1
  have d5_ := (aM_.2 s9_ sA_).2.2.2.2.1 h5_
  have e13_ : S0_.2.2.1 130 0 (40 * (S0_.1 13 0 28) + s_).toNat = A_.2.2.2.2 (40 * M_ + s9_) := by rw [show (40 * (S0_.1 13 0 28) + s_).toNat = 40 * M_ + s9_ by omega]; exact ((hre_ M_ (Nat.le_refl _)).2 s9_ sA_).2.2.2.1
  obtain ⟨o9_, q_, pq1_, pq2_, pq3_, pq4_, pq5_⟩ := pa_r hpa_
  obtain ⟨o_, hO_, hOl_⟩ := ((hte_.2 s9_ hs9_.2).2 h5_)
  have lo1_ := hOl_ o9_ pq2_ (by rw [pq3_]; decide)
  have aoD_ := (hA_.2 (A_.2.2.2.2 (40 * M_ + s9_)).toNat (by omega)).2 o9_ pq2_
  have wD_ := aoD_.2.2.1
  have wD1_ := aoD_.2.2.2.1 (by rw [pq3_]; decide)
  have e1o : ev1 F_ I_ A_ X_ M_ E_ O_ [cw 10 s_ (o9_ : Int)] (o_ o9_) := by have q9_ := ev1_pt (F_ := F_) (I_ := I_) (X_ := X_) (E_ := E_) (a_ := s_) (d_ := (o9_ : Int)) (o_ := o_) (m_ := M_) (A_ := A_) (O_ := O_) (by omega) aM1_ (by rw [hs9_.1, Int.toNat_natCast]; exact hO_) (by rw [hs9_.1, Int.toNat_natCast]; omega) (by rw [hs9_.1, Int.toNat_natCast]; exact d5_) (by rw [Int.toNat_natCast]; omega) (by rw [hs9_.1, Int.toNat_natCast, Int.toNat_natCast]; exact lo1_); rw [Int.toNat_natCast] at q9_; exact q9_
  have bx1_ : 0 ≤ S0_.1 13 0 28 ∧ S0_.1 13 0 28 ≤ 15 := hI_.1 13 0 28 rfl
  refine sm_T_go 5 (c1 := (10, [some (.inr (.inr (some (13, 0)))), some (.inl s_), none, none, none], [.inl (S0_.1 13 0 28), .inl 40, .inr (.inr (some (130, 0)))], S0_)) rfl ?_
  refine sm_T_bin (w := 40 * (S0_.1 13 0 28)) rfl (bi_mul (by omega) (by omega) (by omega)) ?_
  refine sm_T_go 1 (c1 := (12, [some (.inr (.inr (some (13, 0)))), some (.inl s_), none, none, none], [.inl s_, .inl (40 * (S0_.1 13 0 28)), .inr (.inr (some (130, 0)))], S0_)) rfl ?_
  refine sm_T_bin (w := 40 * (S0_.1 13 0 28) + s_) rfl (bi_add (by omega) (by omega) (by omega)) ?_
  refine sm_T_iald (n := 640) rfl rfl (by omega) (by omega) ?_
  have bx2_ : 0 ≤ S0_.2.2.1 130 0 (40 * (S0_.1 13 0 28) + s_).toNat ∧ S0_.2.2.1 130 0 (40 * (S0_.1 13 0 28) + s_).toNat ≤ 2147483647 := hI_.2 130 0 _
  have bx3_ : 0 ≤ S0_.1 13 0 9 ∧ S0_.1 13 0 9 ≤ 1280 := hI_.1 13 0 9 rfl
  refine sm_T_go 5 (c1 := (21, [some (.inr (.inr (some (13, 0)))), some (.inl s_), some (.inl (S0_.2.2.1 130 0 (40 * (S0_.1 13 0 28) + s_).toNat)), none, none], [.inl (S0_.1 13 0 9), .inl (S0_.2.2.1 130 0 (40 * (S0_.1 13 0 28) + s_).toNat), .inr (.inr (some (13, 0)))], S0_)) rfl ?_
  refine sm_T_cal (d1 := 1) (Q1 := vq_302 (S0_.2.2.1 130 0 (40 * (S0_.1 13 0 28) + s_).toNat) (S0_.1 13 0 9) b_ n_ T_ A_ (A_.2.2.2.2 (40 * M_ + s9_)).toNat p_ S0_) rfl rfl (by decide) (vc_302 (S0_.2.2.1 130 0 (40 * (S0_.1 13 0 28) + s_).toNat) (S0_.1 13 0 9) b_ n_ T_ A_ (A_.2.2.2.2 (40 * M_ + s9_)).toNat p_ S0_ hI_ (by exact ht_) (by exact ⟨by rw [e13_]; omega, by omega⟩) (by exact hre_ _ (by omega)) (by exact (hA_.2 _ (by omega)).1) (by rw [hi_.1]; exact rt1_.1)) (fun u_ Sx4_ px7_ => ?_)
  obtain ⟨rfl, vx9_, rfl, px7_⟩ := px7_
  have e21_ := px7_.trans pq1_
  have oix_ : (40 * S0_.2.2.1 130 0 (40 * (S0_.1 13 0 28) + s_).toNat + vx9_).toNat = 40 * (A_.2.2.2.2 (40 * M_ + s9_)).toNat + o9_ := by rw [e21_, e13_]; omega
  have ro_ := (hre_ (A_.2.2.2.2 (40 * M_ + s9_)).toNat (by omega)).2 o9_ pq2_
  have ao_ := (hA_.2 (A_.2.2.2.2 (40 * M_ + s9_)).toNat (by omega)).2 o9_ pq2_
  have so9_ := (congrArg (S0_.2.2.1 128 0) oix_).trans ro_.2.1
  rw [pq3_, show r_s2 1 = 2 from rfl] at so9_
  have wb_ := ao_.2.2.1
  have w1_ := ao_.2.2.2.1 (by rw [pq3_]; decide)
  have hA9_ := (hA_.2 (A_.2.2.2.2 (40 * M_ + s9_)).toNat (by omega)).1
  refine sm_T_go 3 (c1 := (27, [some (.inr (.inr (some (13, 0)))), some (.inl s_), some (.inl (S0_.2.2.1 130 0 (40 * (S0_.1 13 0 28) + s_).toNat)), some (.inl vx9_), none], [.inl (-1), .inl vx9_], S0_)) rfl ?_
  refine sm_T_br (a := 0) (z := 18) rfl (fun cx10_ => ?_) (fun cx10_ => ?_)
  · have cx10_ : vx9_ = (-1) := of_decide_eq_true cx10_
    exfalso; omega
  · have cx10_ : ¬ (vx9_ = (-1)) := of_decide_eq_false cx10_
    refine sm_T_go 4 (c1 := (37, [some (.inr (.inr (some (13, 0)))), some (.inl s_), some (.inl (S0_.2.2.1 130 0 (40 * (S0_.1 13 0 28) + s_).toNat)), some (.inl vx9_), none], [.inl (S0_.2.2.1 130 0 (40 * (S0_.1 13 0 28) + s_).toNat), .inl 40, .inr (.inr (some (128, 0)))], S0_)) rfl ?_
    refine sm_T_bin (w := 40 * (S0_.2.2.1 130 0 (40 * (S0_.1 13 0 28) + s_).toNat)) rfl (bi_mul (by omega) (by omega) (by omega)) ?_
    refine sm_T_go 1 (c1 := (39, [some (.inr (.inr (some (13, 0)))), some (.inl s_), some (.inl (S0_.2.2.1 130 0 (40 * (S0_.1 13 0 28) + s_).toNat)), some (.inl vx9_), none], [.inl vx9_, .inl (40 * (S0_.2.2.1 130 0 (40 * (S0_.1 13 0 28) + s_).toNat)), .inr (.inr (some (128, 0)))], S0_)) rfl ?_
    refine sm_T_bin (w := 40 * (S0_.2.2.1 130 0 (40 * (S0_.1 13 0 28) + s_).toNat) + vx9_) rfl (bi_add (by omega) (by omega) (by omega)) ?_
    refine sm_T_iald (n := 640) rfl rfl (by omega) (by omega) ?_
    have bx11_ : 0 ≤ S0_.2.2.1 128 0 (40 * (S0_.2.2.1 130 0 (40 * (S0_.1 13 0 28) + s_).toNat) + vx9_).toNat ∧ S0_.2.2.1 128 0 (40 * (S0_.2.2.1 130 0 (40 * (S0_.1 13 0 28) + s_).toNat) + vx9_).toNat ≤ 5 := hI_.2 128 0 _
    refine sm_T_go 1 (c1 := (42, [some (.inr (.inr (some (13, 0)))), some (.inl s_), some (.inl (S0_.2.2.1 130 0 (40 * (S0_.1 13 0 28) + s_).toNat)), some (.inl vx9_), none], [.inl 2, .inl (S0_.2.2.1 128 0 (40 * (S0_.2.2.1 130 0 (40 * (S0_.1 13 0 28) + s_).toNat) + vx9_).toNat)], S0_)) rfl ?_
    refine sm_T_br (a := 0) (z := 14) rfl (fun cx12_ => ?_) (fun cx12_ => ?_)
    · have cx12_ : (S0_.2.2.1 128 0 (40 * (S0_.2.2.1 130 0 (40 * (S0_.1 13 0 28) + s_).toNat) + vx9_).toNat) = 2 := of_decide_eq_true cx12_
      refine sm_T_go 1 (c1 := (57, [some (.inr (.inr (some (13, 0)))), some (.inl s_), some (.inl (S0_.2.2.1 130 0 (40 * (S0_.1 13 0 28) + s_).toNat)), some (.inl vx9_), none], [.inr (.inr (some (13, 0)))], S0_)) rfl ?_
      refine sm_T_cal (d1 := 2) (Q1 := vq_297 b_ n_ T_ (.inr p_) S0_) rfl rfl (by decide) (vc_297 b_ n_ T_ (.inr p_) S0_ hI_ (by exact ht_) (by exact hx_) (by (intro q9_ e_; cases e_; omega))) (fun u_ Sx13_ px16_ => ?_)
      obtain ⟨rfl, hIx14_, hFx15_, px16_⟩ := px16_
      have hFx17_ : ai_fr (sx_W vw_326g) S0_ Sx13_ := ai_fr_tr hF_ (fr_le hFx15_ rfl)
      have ex18_ : Sx13_.1 13 0 28 = S0_.1 13 0 28 := hFx15_.1 13 0 28 rfl
      have g57_ := px16_.1
      rw [pb_r rfl, pq4_] at g57_
      have t57_ := rtab_fr ht_ hFx15_ rfl rfl rfl rfl rfl
      have nw57_ := fr_arr (t := 129) (i := 0) hFx15_ rfl
      have v57_ : Sx13_.1 13 0 34 = (gl_ : Int) := (hFx17_.1 13 0 34 rfl).trans hv_.1
      have m57_ : Sx13_.1 13 0 27 = 1 := (hFx17_.1 13 0 27 rfl).trans hmo_
      have fr57_ : Sx13_.1 13 0 29 = (fr_ : Int) := (hFx17_.1 13 0 29 rfl).trans hfr_.1
      have wd57_ := (congrFun nw57_ _).trans ((congrArg (S0_.2.2.1 129 0) oix_).trans ro_.2.2.1)
      have i57_ := fr_arr (t := 145) (i := 0) hFx17_ rfl
      have lw57_ := fr_arr (t := 138) (i := 0) hFx15_ rfl
      have ll57_ := fr_arr (t := 139) (i := 0) hFx15_ rfl
      refine sm_T_go 4 (c1 := (67, [some (.inr (.inr (some (13, 0)))), some (.inl s_), some (.inl (S0_.2.2.1 130 0 (40 * (S0_.1 13 0 28) + s_).toNat)), some (.inl vx9_), none], [.inl (S0_.2.2.1 130 0 (40 * (S0_.1 13 0 28) + s_).toNat), .inl 40, .inr (.inr (some (129, 0)))], Sx13_)) rfl ?_
      refine sm_T_bin (w := 40 * (S0_.2.2.1 130 0 (40 * (S0_.1 13 0 28) + s_).toNat)) rfl (bi_mul (by omega) (by omega) (by omega)) ?_
      refine sm_T_go 1 (c1 := (69, [some (.inr (.inr (some (13, 0)))), some (.inl s_), some (.inl (S0_.2.2.1 130 0 (40 * (S0_.1 13 0 28) + s_).toNat)), some (.inl vx9_), none], [.inl vx9_, .inl (40 * (S0_.2.2.1 130 0 (40 * (S0_.1 13 0 28) + s_).toNat)), .inr (.inr (some (129, 0)))], Sx13_)) rfl ?_
      refine sm_T_bin (w := 40 * (S0_.2.2.1 130 0 (40 * (S0_.1 13 0 28) + s_).toNat) + vx9_) rfl (bi_add (by omega) (by omega) (by omega)) ?_
      refine sm_T_iald (n := 640) rfl rfl (by omega) (by omega) ?_
      have bx19_ : 0 ≤ Sx13_.2.2.1 129 0 (40 * (S0_.2.2.1 130 0 (40 * (S0_.1 13 0 28) + s_).toNat) + vx9_).toNat ∧ Sx13_.2.2.1 129 0 (40 * (S0_.2.2.1 130 0 (40 * (S0_.1 13 0 28) + s_).toNat) + vx9_).toNat ≤ 8 := hIx14_.2 129 0 _
      have bx20_ : 0 ≤ Sx13_.1 13 0 29 ∧ Sx13_.1 13 0 29 ≤ 16 := hIx14_.1 13 0 29 rfl
      refine sm_T_go 9 (c1 := (87, [some (.inr (.inr (some (13, 0)))), some (.inl s_), some (.inl (S0_.2.2.1 130 0 (40 * (S0_.1 13 0 28) + s_).toNat)), some (.inl vx9_), some (.inl (Sx13_.2.2.1 129 0 (40 * (S0_.2.2.1 130 0 (40 * (S0_.1 13 0 28) + s_).toNat) + vx9_).toNat))], [.inl (Sx13_.1 13 0 29), .inl 40, .inl 40, .inl 8, .inl 1, .inl (Sx13_.2.2.1 129 0 (40 * (S0_.2.2.1 130 0 (40 * (S0_.1 13 0 28) + s_).toNat) + vx9_).toNat), .inr (.inr (some (13, 0)))], Sx13_)) rfl ?_
      refine sm_T_bin (w := 40 * (Sx13_.1 13 0 29)) rfl (bi_mul (by omega) (by omega) (by omega)) ?_
      refine sm_T_go 1 (c1 := (89, [some (.inr (.inr (some (13, 0)))), some (.inl s_), some (.inl (S0_.2.2.1 130 0 (40 * (S0_.1 13 0 28) + s_).toNat)), some (.inl vx9_), some (.inl (Sx13_.2.2.1 129 0 (40 * (S0_.2.2.1 130 0 (40 * (S0_.1 13 0 28) + s_).toNat) + vx9_).toNat))], [.inl s_, .inl (40 * (Sx13_.1 13 0 29)), .inl 40, .inl 8, .inl 1, .inl (Sx13_.2.2.1 129 0 (40 * (S0_.2.2.1 130 0 (40 * (S0_.1 13 0 28) + s_).toNat) + vx9_).toNat), .inr (.inr (some (13, 0)))], Sx13_)) rfl ?_
      refine sm_T_bin (w := 40 * (Sx13_.1 13 0 29) + s_) rfl (bi_add (by omega) (by omega) (by omega)) ?_
      refine sm_T_bin (w := 1600 * (Sx13_.1 13 0 29) + 40 * s_) rfl (bi_mul (by omega) (by omega) (by omega)) ?_
      refine sm_T_go 1 (c1 := (92, [some (.inr (.inr (some (13, 0)))), some (.inl s_), some (.inl (S0_.2.2.1 130 0 (40 * (S0_.1 13 0 28) + s_).toNat)), some (.inl vx9_), some (.inl (Sx13_.2.2.1 129 0 (40 * (S0_.2.2.1 130 0 (40 * (S0_.1 13 0 28) + s_).toNat) + vx9_).toNat))], [.inl vx9_, .inl (1600 * (Sx13_.1 13 0 29) + 40 * s_), .inl 8, .inl 1, .inl (Sx13_.2.2.1 129 0 (40 * (S0_.2.2.1 130 0 (40 * (S0_.1 13 0 28) + s_).toNat) + vx9_).toNat), .inr (.inr (some (13, 0)))], Sx13_)) rfl ?_
      refine sm_T_bin (w := 1600 * (Sx13_.1 13 0 29) + 40 * s_ + vx9_) rfl (bi_add (by omega) (by omega) (by omega)) ?_
      refine sm_T_bin (w := 12800 * (Sx13_.1 13 0 29) + 320 * s_ + 8 * vx9_) rfl (bi_mul (by omega) (by omega) (by omega)) ?_
      refine sm_T_cal (d1 := 0) (Q1 := vq_333g (Sx13_.2.2.1 129 0 (40 * (S0_.2.2.1 130 0 (40 * (S0_.1 13 0 28) + s_).toNat) + vx9_).toNat) 1 (12800 * (Sx13_.1 13 0 29) + 320 * s_ + 8 * vx9_) gl_ Sx13_) rfl rfl (by decide) (vc_333g (Sx13_.2.2.1 129 0 (40 * (S0_.2.2.1 130 0 (40 * (S0_.1 13 0 28) + s_).toNat) + vx9_).toNat) 1 (12800 * (Sx13_.1 13 0 29) + 320 * s_ + 8 * vx9_) gl_ Sx13_ hIx14_ (by exact ⟨v57_, hv_.2⟩) (by exact m57_) (by omega) (by (right; refine ⟨rfl, ?_, ?_⟩ <;> omega))) (fun u_ Sx21_ px24_ => ?_)
      obtain ⟨rfl, hIx22_, hFx23_, px24_⟩ := px24_
      have hFx25_ : ai_fr (sx_W vw_326g) S0_ Sx21_ := ai_fr_tr hFx17_ (fr_le hFx23_ rfl)
      have ex26_ : Sx21_.1 13 0 29 = Sx13_.1 13 0 29 := hFx23_.1 13 0 29 rfl
      have c94_ := px24_
      rw [wd57_] at c94_
      have g94_ := rg_fr g57_ hFx23_ rfl rfl rfl
      have t94_ := rtab_fr t57_ hFx23_ rfl rfl rfl rfl rfl
      have v94_ : Sx21_.1 13 0 34 = (gl_ : Int) := (hFx25_.1 13 0 34 rfl).trans hv_.1
      have m94_ : Sx21_.1 13 0 27 = 1 := (hFx25_.1 13 0 27 rfl).trans hmo_
      have r94_ : rowv gl_ (o_ o9_) ok_ S0_ Sx21_ := ⟨fun j_ => by rw [c94_.1, lw57_, lo1_], fun z_ k9_ z9_ e9_ => by have hk9_ : k9_ < (o_ o9_).length := (by by_cases w9_ : k9_ < (o_ o9_).length; exact w9_; (rw [List.getElem?_eq_none (by omega)] at e9_; cases e9_)); refine (c94_.2.1 k9_ (by omega)).trans ?_; show (if (1 : Int) = 1 then _ else _) = z9_; rw [if_pos rfl, i57_]; exact (congrArg (S0_.2.2.1 145 0) (show _ = 8 * (40 * (40 * fr_ + s9_) + o9_) + k9_ by omega)).trans (((hev_ z_).2 s9_ o_ (by omega) hO_ o9_ (by omega)) k9_ z9_ e9_), fun j_ hj_ => by rw [c94_.2.2 j_ hj_, ll57_]⟩
      refine sm_T_go 2 (c1 := (100, [some (.inr (.inr (some (13, 0)))), some (.inl s_), some (.inl (S0_.2.2.1 130 0 (40 * (S0_.1 13 0 28) + s_).toNat)), some (.inl vx9_), some (.inl (Sx13_.2.2.1 129 0 (40 * (S0_.2.2.1 130 0 (40 * (S0_.1 13 0 28) + s_).toNat) + vx9_).toNat))], [.inl 46, .inr (.inr (some (13, 0)))], Sx21_)) rfl ?_
      refine sm_T_cal (d1 := 0) (Q1 := vq_295 46 b_ n_ T_ (.inr q_) Sx21_) rfl rfl (by decide) (vc_295 46 b_ n_ T_ (.inr q_) Sx21_ hIx22_ (by exact t94_) (by exact g94_) (by decide)) (fun u_ Sx27_ px30_ => ?_)
      obtain ⟨rfl, vx32_, rfl, px30_⟩ := px30_
      have e100_ := px30_.2 q_ rfl
      have r100_ := px30_.1
      refine sm_T_b0 (a := 0) (z := 13) rfl (fun cx33_ => ?_) (fun cx33_ => ?_)
      · have cx33_ : vx32_ = 0 := of_decide_eq_true cx33_
        refine sm_T_rv rfl ⟨_, _, rfl, rfl, hIx22_, hFx25_, ?_⟩
        first | (have q5_ : r_ = (q_, A_.2.2.2.1 (40 * (A_.2.2.2.2 (40 * M_ + s9_)).toNat + o9_), [cw 10 s_ (o9_ : Int)]) := (by rcases pq5_ with z_ | z_; (exact z_.2); (have := e100_.mpr z_.1; omega)); rw [q5_]; exact ⟨o_ o9_, e1o, lo1_, by omega, g94_, r94_⟩) | (have r9_ := bp_rr q4_; rw [q5_]; exact ⟨_, ev1_bi e1o (by omega) (by omega), rfl, ⟨by simp, by simp⟩, e113_.1, rowv_bi r94_ (by omega) (by omega) e113_.2.1 e113_.2.2⟩)
      · have cx33_ : ¬ (vx32_ = 0) := of_decide_eq_false cx33_
        refine sm_T_go 1 (c1 := (107, [some (.inr (.inr (some (13, 0)))), some (.inl s_), some (.inl (S0_.2.2.1 130 0 (40 * (S0_.1 13 0 28) + s_).toNat)), some (.inl vx9_), some (.inl (Sx13_.2.2.1 129 0 (40 * (S0_.2.2.1 130 0 (40 * (S0_.1 13 0 28) + s_).toNat) + vx9_).toNat))], [.inr (.inr (some (13, 0)))], Sx21_)) rfl ?_
        refine sm_T_cal (d1 := 2) (Q1 := vq_297 b_ n_ T_ (.inr q_) Sx21_) rfl rfl (by decide) (vc_297 b_ n_ T_ (.inr q_) Sx21_ hIx22_ (by exact t94_) (by exact g94_) (by (intro q9_ e_; cases e_; have := e100_.mp (by omega); omega))) (fun u_ Sx34_ px37_ => ?_)
        obtain ⟨rfl, hIx35_, hFx36_, px37_⟩ := px37_
        have hFx38_ : ai_fr (sx_W vw_326g) S0_ Sx34_ := ai_fr_tr hFx25_ (fr_le hFx36_ rfl)
        have k46_ : lx_kd b_ n_ q_ = 46 := e100_.mp (by omega)
        obtain ⟨q2_, u_, q3_, q4_, q5_⟩ : ∃ q2_ u_, p_ad b_ n_ q_ = .inr q2_ ∧ p_bp b_ n_ (A_.2.2.2.1 (40 * (A_.2.2.2.2 (40 * M_ + s9_)).toNat + o9_)) q2_ = .inr u_ ∧ r_ = (u_, 1, [cw 11 (lx_vl b_ n_ q2_) 0, cw 10 s_ (o9_ : Int)]) := by rcases pq5_ with z_ | z_; (exact absurd k46_ z_.1); (exact z_.2)
        have g107_ := px37_.1
        rw [pb_r rfl, q3_] at g107_
        have t107_ := rtab_fr t94_ hFx36_ rfl rfl rfl rfl rfl
        have v107_ : Sx34_.1 13 0 34 = (gl_ : Int) := (hFx38_.1 13 0 34 rfl).trans hv_.1
        have m107_ : Sx34_.1 13 0 27 = 1 := (hFx38_.1 13 0 27 rfl).trans hmo_
        have w107_ := fr_arr (t := 138) (i := 0) hFx36_ rfl
        have l107_ := fr_arr (t := 139) (i := 0) hFx36_ rfl
        refine sm_T_go 2 (c1 := (113, [some (.inr (.inr (some (13, 0)))), some (.inl s_), some (.inl (S0_.2.2.1 130 0 (40 * (S0_.1 13 0 28) + s_).toNat)), some (.inl vx9_), some (.inl (Sx13_.2.2.1 129 0 (40 * (S0_.2.2.1 130 0 (40 * (S0_.1 13 0 28) + s_).toNat) + vx9_).toNat))], [.inl (Sx13_.2.2.1 129 0 (40 * (S0_.2.2.1 130 0 (40 * (S0_.1 13 0 28) + s_).toNat) + vx9_).toNat), .inr (.inr (some (13, 0)))], Sx34_)) rfl ?_
        refine sm_T_cal (d1 := 3) (Q1 := vq_325g (Sx13_.2.2.1 129 0 (40 * (S0_.2.2.1 130 0 (40 * (S0_.1 13 0 28) + s_).toNat) + vx9_).toNat) b_ n_ T_ q2_ gl_ u_ Sx34_) rfl rfl (by decide) (vc_325g (Sx13_.2.2.1 129 0 (40 * (S0_.2.2.1 130 0 (40 * (S0_.1 13 0 28) + s_).toNat) + vx9_).toNat) b_ n_ T_ q2_ gl_ u_ Sx34_ hIx35_ (by exact t107_) (by exact g107_) (by exact ⟨v107_, hv_.2⟩) (by exact m107_) (by omega) (by (rw [wd57_]; exact q4_))) (fun u_ Sx39_ px42_ => ?_)
        obtain ⟨rfl, hIx40_, hFx41_, px42_⟩ := px42_
        have hFx43_ : ai_fr (sx_W vw_326g) S0_ Sx39_ := ai_fr_tr hFx38_ (fr_le hFx41_ rfl)
        have e113_ := px42_
        rw [w107_, l107_] at e113_
        refine sm_T_rv rfl ⟨_, _, rfl, rfl, hIx40_, hFx43_, ?_⟩
        first | (have q5_ : r_ = (q_, A_.2.2.2.1 (40 * (A_.2.2.2.2 (40 * M_ + s9_)).toNat + o9_), [cw 10 s_ (o9_ : Int)]) := (by rcases pq5_ with z_ | z_; (exact z_.2); (have := e100_.mpr z_.1; omega)); rw [q5_]; exact ⟨o_ o9_, e1o, lo1_, by omega, g94_, r94_⟩) | (have r9_ := bp_rr q4_; rw [q5_]; exact ⟨_, ev1_bi e1o (by omega) (by omega), rfl, ⟨by simp, by simp⟩, e113_.1, rowv_bi r94_ (by omega) (by omega) e113_.2.1 e113_.2.2⟩)
    · have cx12_ : ¬ ((S0_.2.2.1 128 0 (40 * (S0_.2.2.1 130 0 (40 * (S0_.1 13 0 28) + s_).toNat) + vx9_).toNat) = 2) := of_decide_eq_false cx12_
      exfalso; omega
end
/-! 99.zc7a -/
section
/-! the reference: names, second pass; written by wip/p55/gen/vg -/

/-! names -/
theorem na_r {b_ : Nat → Int} {n_ M_ p_ : Nat} {A_ : pA} {r_ : Nat × Int × List Int} (h_ : p_na b_ n_ A_ M_ p_ = .inr r_) : ∃ s9_ q_ : Nat, p_fn b_ n_ A_ M_ p_ = (s9_ : Int) ∧ s9_ < A_.1 M_ ∧ p_ad b_ n_ p_ = .inr q_ ∧ ((lx_kd b_ n_ q_ ≠ 46 ∧ A_.2.2.1 (40 * M_ + s9_) ≠ 5 ∧ r_ = (q_, A_.2.2.2.1 (40 * M_ + s9_), [cw 9 (s9_ : Int) 0])) ∨ (lx_kd b_ n_ q_ = 46 ∧ ∃ q2_, p_ad b_ n_ q_ = .inr q2_ ∧ ((lx_kd b_ n_ q2_ = 1 ∧ A_.2.2.1 (40 * M_ + s9_) = 5 ∧ p_pa b_ n_ A_ (s9_ : Int) (A_.2.2.2.2 (40 * M_ + s9_)).toNat q2_ = .inr r_) ∨ (lx_kd b_ n_ q2_ = 2 ∧ A_.2.2.1 (40 * M_ + s9_) ≠ 5 ∧ ∃ u_, p_bp b_ n_ (A_.2.2.2.1 (40 * M_ + s9_)) q2_ = .inr u_ ∧ r_ = (u_, 1, [cw 11 (lx_vl b_ n_ q2_) 0, cw 9 (s9_ : Int) 0]))))) := by
  by_cases hf_ : p_fn b_ n_ A_ M_ p_ = -1
  · rw [na_0 hf_] at h_
    cases h_
  · obtain ⟨s9_, q1_, q2_, q3_, -⟩ := p_fn_b (b_ := b_) (n_ := n_) (A_ := A_) (m_ := M_) (p_ := p_) hf_
    cases hq_ : p_ad b_ n_ p_ with
    | inl e_ => rw [na_1 q1_ hq_] at h_; cases h_
    | inr q_ =>
      refine ⟨s9_, q_, q1_, q2_, rfl, ?_⟩
      by_cases k46_ : lx_kd b_ n_ q_ = 46
      · right
        refine ⟨k46_, ?_⟩
        cases hr_ : p_ad b_ n_ q_ with
        | inl e_ => rw [na_3 q1_ hq_ k46_ hr_] at h_; cases h_
        | inr u_ =>
          refine ⟨u_, rfl, ?_⟩
          by_cases k1_ : lx_kd b_ n_ u_ = 1
          · left
            rw [na_4 q1_ hq_ k46_ hr_ k1_] at h_
            split at h_
            · rename_i g_
              exact ⟨k1_, g_, h_⟩
            · cases h_
          · right
            by_cases k2_ : lx_kd b_ n_ u_ = 2
            · rw [na_5 q1_ hq_ k46_ hr_ k2_] at h_
              split at h_
              · cases h_
              · rename_i g_
                rw [bp_bi] at h_
                obtain ⟨v_, h5_, h6_⟩ := pb_inr h_
                cases h6_
                exact ⟨k2_, g_, v_, h5_, rfl⟩
            · rw [na_6 q1_ hq_ k46_ hr_ k1_ k2_] at h_
              cases h_
      · left
        rw [na_2 q1_ hq_ k46_] at h_
        split at h_
        · cases h_
        · rename_i g_
          cases h_
          exact ⟨k46_, g_, rfl⟩
end
/-! 99.zc7b -/
section
/-! M_.named -/
def vw_324g : sx_Wl := ([(13, 9), (13, 10), (13, 11)], [138, 139], [])
def vq_324g (b_ : Nat → Int) (n_ : Nat) (T_ : Nat) (p_ : Nat) (gl_ : Nat) (F_ : Nat) (I_ : Nat) (A_ : pA) (X_ : Nat → gQ → gE → Option (gQ × gE)) (M_ : Nat) (K_ : Nat) (fr_ : Nat) (E_ : gE) (O_ : gO) (ok_ : Prop) (r_ : Nat × Int × List Int) (S0_ : sm_S) (u_ : Option sm_V) (S1_ : sm_S) : Prop := u_ = none ∧ gi S1_ ∧ ai_fr (sx_W vw_324g) S0_ S1_ ∧ (∃ v9_, ev1 F_ I_ A_ X_ M_ E_ O_ r_.2.2 v9_ ∧ (v9_.length : Int) = r_.2.1 ∧ (1 ≤ v9_.length ∧ v9_.length ≤ 8) ∧ rg b_ n_ T_ (.inr r_.1) S1_ ∧ rowv gl_ v9_ ok_ S0_ S1_)
set_option maxHeartbeats 2000000 in
set_option maxRecDepth 20000 in
theorem vc_324g {sc_ : Nat × (Nat → Int)} (b_ : Nat → Int) (n_ : Nat) (T_ : Nat) (p_ : Nat) (gl_ : Nat) (F_ : Nat) (I_ : Nat) (A_ : pA) (X_ : Nat → gQ → gE → Option (gQ × gE)) (M_ : Nat) (K_ : Nat) (fr_ : Nat) (E_ : gE) (O_ : gO) (ok_ : Prop) (r_ : Nat × Int × List Int) (S0_ : sm_S) (hI_ : gi S0_) (ht_ : rtab b_ n_ T_ S0_) (hx_ : rg b_ n_ T_ (.inr p_) S0_) (hv_ : (S0_.1 13 0 34) = (gl_ : Int) ∧ gl_ ≤ 1000) (hmo_ : (S0_.1 13 0 27) = 1) (hk_ : lx_kd b_ n_ p_ = 1) (hA_ : a_ok b_ n_ A_ M_) (hmd_ : (S0_.1 13 0 28) = (M_ : Int)) (hfr_ : (S0_.1 13 0 29) = (fr_ : Int) ∧ fr_ ≤ 15) (hre_ : ∀ m_, m_ ≤ M_ → re1 b_ n_ T_ A_ m_ S0_) (hte_ : ten A_ M_ K_ E_ O_) (hev_ : rev fr_ K_ E_ O_ ok_ S0_) (hK_ : p_fn b_ n_ A_ M_ p_ < (K_ : Int)) (hna_ : p_na b_ n_ A_ M_ p_ = .inr r_) : sm_T (mt_P sc_) 5 324 (0, [some (.inr (.inr (some (13, 0)))), none, none, none, none], [], S0_) (fun ro9_ => ∃ u_ S1_, ro9_ = (.inl u_, S1_, 0) ∧ vq_324g b_ n_ T_ p_ gl_ F_ I_ A_ X_ M_ K_ fr_ E_ O_ ok_ r_ S0_ u_ S1_) := by
  have hF_ : ai_fr (sx_W vw_324g) S0_ S0_ := ai_fr_rf
  obtain ⟨i_, hi_⟩ := id hx_.2
  have hi9_ := hi_.2.1
  have hT_ := ht_.2.1
  have hf_ := hx_.1
  have rt1_ := rp_rtk ht_ hi_.2 hk_
  have hM1_ := hA_.1
  have aM_ := hA_.2 M_ (Nat.le_refl _)
  have aM1_ := aM_.1
  obtain ⟨s9_, q_, nq1_, nq2_, nq3_, nq4_⟩ := na_r hna_
  have sK_ : s9_ < K_ := by omega
  have ro_ := (hre_ M_ (Nat.le_refl _)).2 s9_ nq2_
  have ao_ := aM_.2 s9_ nq2_
  have sb_ := r_s2_b ao_.2.1
  have bx1_ : 0 ≤ S0_.1 13 0 9 ∧ S0_.1 13 0 9 ≤ 1280 := hI_.1 13 0 9 rfl
  have bx2_ : 0 ≤ S0_.1 13 0 28 ∧ S0_.1 13 0 28 ≤ 15 := hI_.1 13 0 28 rfl
  refine sm_T_go 7 (c1 := (11, [some (.inr (.inr (some (13, 0)))), some (.inl (S0_.1 13 0 9)), none, none, none], [.inl (S0_.1 13 0 9), .inl (S0_.1 13 0 28), .inr (.inr (some (13, 0)))], S0_)) rfl ?_
  refine sm_T_cal (d1 := 1) (Q1 := vq_302 (S0_.1 13 0 28) (S0_.1 13 0 9) b_ n_ T_ A_ M_ p_ S0_) rfl rfl (by decide) (vc_302 (S0_.1 13 0 28) (S0_.1 13 0 9) b_ n_ T_ A_ M_ p_ S0_ hI_ (by exact ht_) (by exact ⟨hmd_, hM1_⟩) (by exact hre_ M_ (Nat.le_refl _)) (by exact aM1_) (by rw [hi_.1]; exact rt1_.1)) (fun u_ Sx3_ px6_ => ?_)
  obtain ⟨rfl, vx8_, rfl, px6_⟩ := px6_
  have e11 := px6_.trans nq1_
  have kx0_ : ∀ z_ : Int, z_ = (M_ : Int) → (40 * z_ + vx8_).toNat = 40 * M_ + s9_ := by intro z_ q_; omega
  refine sm_T_go 3 (c1 := (17, [some (.inr (.inr (some (13, 0)))), some (.inl (S0_.1 13 0 9)), some (.inl vx8_), none, none], [.inl (-1), .inl vx8_], S0_)) rfl ?_
  refine sm_T_br (a := 1) (z := 11) rfl (fun cx9_ => ?_) (fun cx9_ => ?_)
  · have cx9_ : vx8_ ≠ (-1) := of_decide_eq_true cx9_
    refine sm_T_go 1 (c1 := (29, [some (.inr (.inr (some (13, 0)))), some (.inl (S0_.1 13 0 9)), some (.inl vx8_), none, none], [.inr (.inr (some (13, 0)))], S0_)) rfl ?_
    refine sm_T_cal (d1 := 2) (Q1 := vq_297 b_ n_ T_ (.inr p_) S0_) rfl rfl (by decide) (vc_297 b_ n_ T_ (.inr p_) S0_ hI_ (by exact ht_) (by exact hx_) (by (intro q9_ e_; cases e_; omega))) (fun u_ Sx10_ px13_ => ?_)
    obtain ⟨rfl, hIx11_, hFx12_, px13_⟩ := px13_
    have hFx14_ : ai_fr (sx_W vw_324g) S0_ Sx10_ := ai_fr_tr hF_ (fr_le hFx12_ rfl)
    have ex15_ : Sx10_.1 13 0 28 = S0_.1 13 0 28 := hFx12_.1 13 0 28 rfl
    have g29_ := px13_.1
    rw [pb_r rfl, nq3_] at g29_
    have t29_ := rtab_fr ht_ hFx12_ rfl rfl rfl rfl rfl
    have sx_ := fr_arr (t := 128) (i := 0) hFx14_ rfl
    have wx_ := fr_arr (t := 129) (i := 0) hFx14_ rfl
    have mx_ : Sx10_.1 13 0 28 = (M_ : Int) := (hFx14_.1 13 0 28 rfl).trans hmd_
    have kx_ := kx0_ _ mx_
    have sk_ := (congrFun sx_ _).trans ((congrArg (S0_.2.2.1 128 0) kx_).trans ro_.2.1)
    have wk_ := (congrFun wx_ _).trans ((congrArg (S0_.2.2.1 129 0) kx_).trans ro_.2.2.1)
    have vl9_ : Sx10_.1 13 0 34 = (gl_ : Int) := (hFx14_.1 13 0 34 rfl).trans hv_.1
    have mo9_ : Sx10_.1 13 0 27 = 1 := (hFx14_.1 13 0 27 rfl).trans hmo_
    have fr9_ : Sx10_.1 13 0 29 = (fr_ : Int) := (hFx14_.1 13 0 29 rfl).trans hfr_.1
    have re9_ : ∀ m_, m_ ≤ M_ → re1 b_ n_ T_ A_ m_ Sx10_ := fun m_ hm_ => re1_fr (hre_ m_ hm_) hFx14_ rfl rfl rfl rfl rfl rfl
    have lw9_ := fr_arr (t := 138) (i := 0) hFx12_ rfl
    have ll9_ := fr_arr (t := 139) (i := 0) hFx12_ rfl
    have i9_ := fr_arr (t := 144) (i := 0) hFx14_ rfl
    have ev9_ := rev_fr hev_ hFx14_ rfl rfl
    refine sm_T_go 2 (c1 := (35, [some (.inr (.inr (some (13, 0)))), some (.inl (S0_.1 13 0 9)), some (.inl vx8_), none, none], [.inl 46, .inr (.inr (some (13, 0)))], Sx10_)) rfl ?_
    refine sm_T_cal (d1 := 0) (Q1 := vq_295 46 b_ n_ T_ (.inr q_) Sx10_) rfl rfl (by decide) (vc_295 46 b_ n_ T_ (.inr q_) Sx10_ hIx11_ (by exact t29_) (by exact g29_) (by decide)) (fun u_ Sx16_ px19_ => ?_)
    obtain ⟨rfl, vx21_, rfl, px19_⟩ := px19_
    have e35_ := px19_.2 q_ rfl
    have r35_ := px19_.1
    refine sm_T_go 2 (c1 := (40, [some (.inr (.inr (some (13, 0)))), some (.inl (S0_.1 13 0 9)), some (.inl vx8_), some (.inl vx21_), none], [.inl vx21_], Sx10_)) rfl ?_
    refine sm_T_b0 (a := 0) (z := 43) rfl (fun cx22_ => ?_) (fun cx22_ => ?_)
    · have cx22_ : vx21_ = 0 := of_decide_eq_true cx22_
      have bx23_ : 0 ≤ Sx10_.1 13 0 28 ∧ Sx10_.1 13 0 28 ≤ 15 := hIx11_.1 13 0 28 rfl
      refine sm_T_go 3 (c1 := (89, [some (.inr (.inr (some (13, 0)))), some (.inl (S0_.1 13 0 9)), some (.inl vx8_), some (.inl vx21_), none], [.inl (Sx10_.1 13 0 28), .inl 40], Sx10_)) rfl ?_
      refine sm_T_bin (w := 40 * (Sx10_.1 13 0 28)) rfl (bi_mul (by omega) (by omega) (by omega)) ?_
      refine sm_T_go 1 (c1 := (91, [some (.inr (.inr (some (13, 0)))), some (.inl (S0_.1 13 0 9)), some (.inl vx8_), some (.inl vx21_), none], [.inl vx8_, .inl (40 * (Sx10_.1 13 0 28))], Sx10_)) rfl ?_
      refine sm_T_bin (w := 40 * (Sx10_.1 13 0 28) + vx8_) rfl (bi_add (by omega) (by omega) (by omega)) ?_
      refine sm_T_go 2 (c1 := (95, [some (.inr (.inr (some (13, 0)))), some (.inl (S0_.1 13 0 9)), some (.inl vx8_), some (.inl vx21_), some (.inl (40 * (Sx10_.1 13 0 28) + vx8_))], [.inl vx21_], Sx10_)) rfl ?_
      refine sm_T_b0 (a := 0) (z := 41) rfl (fun cx24_ => ?_) (fun cx24_ => ?_)
      · have cx24_ : vx21_ = 0 := of_decide_eq_true cx24_
        refine sm_T_go 3 (c1 := (142, [some (.inr (.inr (some (13, 0)))), some (.inl (S0_.1 13 0 9)), some (.inl vx8_), some (.inl vx21_), some (.inl (40 * (Sx10_.1 13 0 28) + vx8_))], [.inl (40 * (Sx10_.1 13 0 28) + vx8_), .inr (.inr (some (128, 0)))], Sx10_)) rfl ?_
        refine sm_T_iald (n := 640) rfl rfl (by omega) (by omega) ?_
        have bx25_ : 0 ≤ Sx10_.2.2.1 128 0 (40 * (Sx10_.1 13 0 28) + vx8_).toNat ∧ Sx10_.2.2.1 128 0 (40 * (Sx10_.1 13 0 28) + vx8_).toNat ≤ 5 := hIx11_.2 128 0 _
        refine sm_T_cal (d1 := 0) (Q1 := vq_323 (Sx10_.2.2.1 128 0 (40 * (Sx10_.1 13 0 28) + vx8_).toNat) Sx10_) rfl rfl (by decide) (vc_323 (Sx10_.2.2.1 128 0 (40 * (Sx10_.1 13 0 28) + vx8_).toNat) Sx10_ hIx11_ ) (fun u_ Sx26_ px29_ => ?_)
        obtain ⟨rfl, vx31_, rfl, px29_⟩ := px29_
        have e143_ := px29_
        refine sm_T_b0 (a := 1) (z := 11) rfl (fun cx32_ => ?_) (fun cx32_ => ?_)
        · have cx32_ : vx31_ ≠ 0 := of_decide_eq_true cx32_
          refine sm_T_go 4 (c1 := (164, [some (.inr (.inr (some (13, 0)))), some (.inl (S0_.1 13 0 9)), some (.inl vx8_), some (.inl vx21_), some (.inl (40 * (Sx10_.1 13 0 28) + vx8_))], [.inl (40 * (Sx10_.1 13 0 28) + vx8_), .inr (.inr (some (129, 0))), .inr (.inr (some (13, 0)))], Sx10_)) rfl ?_
          refine sm_T_iald (n := 640) rfl rfl (by omega) (by omega) ?_
          have bx33_ : 0 ≤ Sx10_.2.2.1 129 0 (40 * (Sx10_.1 13 0 28) + vx8_).toNat ∧ Sx10_.2.2.1 129 0 (40 * (Sx10_.1 13 0 28) + vx8_).toNat ≤ 8 := hIx11_.2 129 0 _
          have bx34_ : 0 ≤ Sx10_.1 13 0 29 ∧ Sx10_.1 13 0 29 ≤ 16 := hIx11_.1 13 0 29 rfl
          refine sm_T_go 5 (c1 := (174, [some (.inr (.inr (some (13, 0)))), some (.inl (S0_.1 13 0 9)), some (.inl vx8_), some (.inl vx21_), some (.inl (40 * (Sx10_.1 13 0 28) + vx8_))], [.inl (Sx10_.1 13 0 29), .inl 40, .inl 8, .inl 0, .inl (Sx10_.2.2.1 129 0 (40 * (Sx10_.1 13 0 28) + vx8_).toNat), .inr (.inr (some (13, 0)))], Sx10_)) rfl ?_
          refine sm_T_bin (w := 40 * (Sx10_.1 13 0 29)) rfl (bi_mul (by omega) (by omega) (by omega)) ?_
          refine sm_T_go 1 (c1 := (176, [some (.inr (.inr (some (13, 0)))), some (.inl (S0_.1 13 0 9)), some (.inl vx8_), some (.inl vx21_), some (.inl (40 * (Sx10_.1 13 0 28) + vx8_))], [.inl vx8_, .inl (40 * (Sx10_.1 13 0 29)), .inl 8, .inl 0, .inl (Sx10_.2.2.1 129 0 (40 * (Sx10_.1 13 0 28) + vx8_).toNat), .inr (.inr (some (13, 0)))], Sx10_)) rfl ?_
          refine sm_T_bin (w := 40 * (Sx10_.1 13 0 29) + vx8_) rfl (bi_add (by omega) (by omega) (by omega)) ?_
          refine sm_T_bin (w := 320 * (Sx10_.1 13 0 29) + 8 * vx8_) rfl (bi_mul (by omega) (by omega) (by omega)) ?_
          refine sm_T_cal (d1 := 0) (Q1 := vq_333g (Sx10_.2.2.1 129 0 (40 * (Sx10_.1 13 0 28) + vx8_).toNat) 0 (320 * (Sx10_.1 13 0 29) + 8 * vx8_) gl_ Sx10_) rfl rfl (by decide) (vc_333g (Sx10_.2.2.1 129 0 (40 * (Sx10_.1 13 0 28) + vx8_).toNat) 0 (320 * (Sx10_.1 13 0 29) + 8 * vx8_) gl_ Sx10_ hIx11_ (by exact ⟨vl9_, hv_.2⟩) (by exact mo9_) (by (have := ao_.2.2.1; omega)) (by (left; refine ⟨rfl, ?_, ?_⟩ <;> omega))) (fun u_ Sx35_ px38_ => ?_)
          obtain ⟨rfl, hIx36_, hFx37_, px38_⟩ := px38_
          have hFx39_ : ai_fr (sx_W vw_324g) S0_ Sx35_ := ai_fr_tr hFx14_ (fr_le hFx37_ rfl)
          have ex40_ : Sx35_.1 13 0 29 = Sx10_.1 13 0 29 := hFx37_.1 13 0 29 rfl
          have ex41_ : Sx35_.1 13 0 28 = Sx10_.1 13 0 28 := hFx37_.1 13 0 28 rfl
          have c178_ := px38_
          rw [wk_] at c178_
          first | (have g178_ := rg_fr g44_ hFx37_ rfl rfl rfl; have t178_ := rtab_fr t44_ hFx37_ rfl rfl rfl rfl rfl) | (have g178_ := rg_fr g29_ hFx37_ rfl rfl rfl; have t178_ := rtab_fr t29_ hFx37_ rfl rfl rfl rfl rfl)
          have vl8_ : Sx35_.1 13 0 34 = (gl_ : Int) := (hFx39_.1 13 0 34 rfl).trans hv_.1
          have mo8_ : Sx35_.1 13 0 27 = 1 := (hFx39_.1 13 0 27 rfl).trans hmo_
          have wx8_ := fr_arr (t := 129) (i := 0) hFx39_ rfl
          have wk8_ := (congrFun wx8_ _).trans ((congrArg (S0_.2.2.1 129 0) kx_).trans ro_.2.2.1)
          have nso_ : A_.2.2.1 (40 * M_ + s9_) ≠ 5 := fun z_ => by have z1_ := e143_.2; have z2_ := sb_.2.1.mpr z_; omega
          have lE := (hte_.2 s9_ sK_).1 nso_
          have wA_ := ao_.2.2.1
          have wA1_ := ao_.2.2.2.1 nso_
          have e1o : ev1 F_ I_ A_ X_ M_ E_ O_ [cw 9 (s9_ : Int) 0] (E_ s9_) := by have q9_ := ev1_ld (F_ := F_) (I_ := I_) (X_ := X_) (E_ := E_) (O_ := O_) (a_ := (s9_ : Int)) (m_ := M_) (A_ := A_) (by omega) aM1_ (by rw [Int.toNat_natCast]; omega) (by rw [Int.toNat_natCast]; exact lE); rw [Int.toNat_natCast] at q9_; exact q9_
          have r178_ : rowv gl_ (E_ s9_) ok_ S0_ Sx35_ := ⟨fun j_ => by rw [c178_.1, lw9_, lE], fun z_ k9_ z9_ e9_ => by have hk9_ : k9_ < (E_ s9_).length := (by by_cases w9_ : k9_ < (E_ s9_).length; exact w9_; (rw [List.getElem?_eq_none (by omega)] at e9_; cases e9_)); refine (c178_.2.1 k9_ (by omega)).trans ?_; show (if (0 : Int) = 1 then _ else _) = z9_; rw [if_neg (by decide), i9_]; exact (congrArg (S0_.2.2.1 144 0) (show _ = 8 * (40 * fr_ + s9_) + k9_ by omega)).trans (((hev_ z_).1 s9_ (by omega)) k9_ z9_ e9_), fun j_ hj_ => by rw [c178_.2.2 j_ hj_, ll9_]⟩
          refine sm_T_go 1 (c1 := (182, [some (.inr (.inr (some (13, 0)))), some (.inl (S0_.1 13 0 9)), some (.inl vx8_), some (.inl vx21_), some (.inl (40 * (Sx10_.1 13 0 28) + vx8_))], [.inl vx21_], Sx35_)) rfl ?_
          refine sm_T_b0 (a := 0) (z := 14) rfl (fun cx42_ => ?_) (fun cx42_ => ?_)
          · have cx42_ : vx21_ = 0 := of_decide_eq_true cx42_
            refine sm_T_rv rfl ⟨_, _, rfl, rfl, hIx36_, hFx39_, ?_⟩
            first | (have r9_ := bp_rr nu1_; rw [nu2_]; exact ⟨_, ev1_bi e1o (by omega) (by omega), rfl, ⟨by simp, by simp⟩, e193_.1, rowv_bi r178_ (by omega) (by omega) e193_.2.1 e193_.2.2⟩) | (have q5_ : r_ = (q_, A_.2.2.2.1 (40 * M_ + s9_), [cw 9 (s9_ : Int) 0]) := (by rcases nq4_ with z_ | z_; (exact z_.2.2); (have := e35_.mpr z_.1; omega)); rw [q5_]; exact ⟨E_ s9_, e1o, lE, by omega, g178_, r178_⟩)
          · have cx42_ : ¬ (vx21_ = 0) := of_decide_eq_false cx42_
            exfalso; omega
        · have cx32_ : ¬ (vx31_ ≠ 0) := of_decide_eq_false cx32_
          exfalso; (have z9_ := e143_.2; have z8_ := sb_.2.2.2.2; have z7_ : A_.2.2.1 (40 * M_ + s9_) = 5 := sb_.2.1.mp (by omega); first | (rcases nq5_ with z_ | z_; (have z3_ := j5_.2.1.mpr z_.1; omega); (exact z_.2.1 z7_)) | (rcases nq4_ with z_ | z_; (exact z_.2.1 z7_); (have z3_ := e35_.mpr z_.1; omega)))
      · have cx24_ : ¬ (vx21_ = 0) := of_decide_eq_false cx24_
        exfalso; omega
    · have cx22_ : ¬ (vx21_ = 0) := of_decide_eq_false cx22_
      have k46_ := e35_.mp (by omega)
      obtain ⟨q2_, nq6_, nq5_⟩ : ∃ q2_, p_ad b_ n_ q_ = .inr q2_ ∧ ((lx_kd b_ n_ q2_ = 1 ∧ A_.2.2.1 (40 * M_ + s9_) = 5 ∧ p_pa b_ n_ A_ (s9_ : Int) (A_.2.2.2.2 (40 * M_ + s9_)).toNat q2_ = .inr r_) ∨ (lx_kd b_ n_ q2_ = 2 ∧ A_.2.2.1 (40 * M_ + s9_) ≠ 5 ∧ ∃ u_, p_bp b_ n_ (A_.2.2.2.1 (40 * M_ + s9_)) q2_ = .inr u_ ∧ r_ = (u_, 1, [cw 11 (lx_vl b_ n_ q2_) 0, cw 9 (s9_ : Int) 0]))) := by rcases nq4_ with z_ | z_; (exact absurd k46_ z_.1); (exact z_.2)
      refine sm_T_go 1 (c1 := (44, [some (.inr (.inr (some (13, 0)))), some (.inl (S0_.1 13 0 9)), some (.inl vx8_), some (.inl vx21_), none], [.inr (.inr (some (13, 0)))], Sx10_)) rfl ?_
      refine sm_T_cal (d1 := 2) (Q1 := vq_297 b_ n_ T_ (.inr q_) Sx10_) rfl rfl (by decide) (vc_297 b_ n_ T_ (.inr q_) Sx10_ hIx11_ (by exact t29_) (by exact g29_) (by (intro z_ e_; cases e_; omega))) (fun u_ Sx43_ px46_ => ?_)
      obtain ⟨rfl, hIx44_, hFx45_, px46_⟩ := px46_
      have hFx47_ : ai_fr (sx_W vw_324g) S0_ Sx43_ := ai_fr_tr hFx14_ (fr_le hFx45_ rfl)
      have g44_ := px46_.1
      rw [pb_r rfl, nq6_] at g44_
      have t44_ := rtab_fr t29_ hFx45_ rfl rfl rfl rfl rfl
      obtain ⟨j_, j1_, j2_⟩ := id g44_.2
      have j3_ := rp_at t44_ j2_
      have j5_ := r_st_3 (lx_kd_r j2_.2.2.1)
      have j6_ : Sx43_.2.2.1 119 0 (Sx43_.1 13 0 9).toNat = r_st (lx_kd b_ n_ q2_) := by rw [show (Sx43_.1 13 0 9).toNat = j_ by omega]; exact j3_.1
      have sx_ := fr_arr (t := 128) (i := 0) hFx47_ rfl
      have wx_ := fr_arr (t := 129) (i := 0) hFx47_ rfl
      have mx_ : Sx43_.1 13 0 28 = (M_ : Int) := (hFx47_.1 13 0 28 rfl).trans hmd_
      have kx_ := kx0_ _ mx_
      have sk_ := (congrFun sx_ _).trans ((congrArg (S0_.2.2.1 128 0) kx_).trans ro_.2.1)
      have wk_ := (congrFun wx_ _).trans ((congrArg (S0_.2.2.1 129 0) kx_).trans ro_.2.2.1)
      have vl9_ : Sx43_.1 13 0 34 = (gl_ : Int) := (hFx47_.1 13 0 34 rfl).trans hv_.1
      have mo9_ : Sx43_.1 13 0 27 = 1 := (hFx47_.1 13 0 27 rfl).trans hmo_
      have fr9_ : Sx43_.1 13 0 29 = (fr_ : Int) := (hFx47_.1 13 0 29 rfl).trans hfr_.1
      have re9_ : ∀ m_, m_ ≤ M_ → re1 b_ n_ T_ A_ m_ Sx43_ := fun m_ hm_ => re1_fr (hre_ m_ hm_) hFx47_ rfl rfl rfl rfl rfl rfl
      have lw9_ := (fr_arr (t := 138) (i := 0) hFx45_ rfl).trans lw9_
      have ll9_ := (fr_arr (t := 139) (i := 0) hFx45_ rfl).trans ll9_
      have i9_ := fr_arr (t := 144) (i := 0) hFx47_ rfl
      have ev9_ := rev_fr hev_ hFx47_ rfl rfl
      have bx48_ : 0 ≤ Sx43_.1 13 0 9 ∧ Sx43_.1 13 0 9 ≤ 1280 := hIx44_.1 13 0 9 rfl
      refine sm_T_go 4 (c1 := (55, [some (.inr (.inr (some (13, 0)))), some (.inl (S0_.1 13 0 9)), some (.inl vx8_), some (.inl vx21_), none], [.inl (Sx43_.1 13 0 9), .inr (.inr (some (119, 0)))], Sx43_)) rfl ?_
      refine sm_T_bald (n := 65537) rfl rfl (by omega) (by omega) ?_
      have bx49_ : (-128) ≤ Sx43_.2.2.1 119 0 (Sx43_.1 13 0 9).toNat ∧ Sx43_.2.2.1 119 0 (Sx43_.1 13 0 9).toNat ≤ 127 := hIx44_.2 119 0 _
      refine sm_T_go 1 (c1 := (57, [some (.inr (.inr (some (13, 0)))), some (.inl (S0_.1 13 0 9)), some (.inl vx8_), some (.inl vx21_), none], [.inl 2, .inl (Sx43_.2.2.1 119 0 (Sx43_.1 13 0 9).toNat)], Sx43_)) rfl ?_
      refine sm_T_br (a := 0) (z := 26) rfl (fun cx50_ => ?_) (fun cx50_ => ?_)
      · have cx50_ : (Sx43_.2.2.1 119 0 (Sx43_.1 13 0 9).toNat) = 2 := of_decide_eq_true cx50_
        have bx51_ : 0 ≤ Sx43_.1 13 0 28 ∧ Sx43_.1 13 0 28 ≤ 15 := hIx44_.1 13 0 28 rfl
        refine sm_T_go 3 (c1 := (89, [some (.inr (.inr (some (13, 0)))), some (.inl (S0_.1 13 0 9)), some (.inl vx8_), some (.inl vx21_), none], [.inl (Sx43_.1 13 0 28), .inl 40], Sx43_)) rfl ?_
        refine sm_T_bin (w := 40 * (Sx43_.1 13 0 28)) rfl (bi_mul (by omega) (by omega) (by omega)) ?_
        refine sm_T_go 1 (c1 := (91, [some (.inr (.inr (some (13, 0)))), some (.inl (S0_.1 13 0 9)), some (.inl vx8_), some (.inl vx21_), none], [.inl vx8_, .inl (40 * (Sx43_.1 13 0 28))], Sx43_)) rfl ?_
        refine sm_T_bin (w := 40 * (Sx43_.1 13 0 28) + vx8_) rfl (bi_add (by omega) (by omega) (by omega)) ?_
        refine sm_T_go 2 (c1 := (95, [some (.inr (.inr (some (13, 0)))), some (.inl (S0_.1 13 0 9)), some (.inl vx8_), some (.inl vx21_), some (.inl (40 * (Sx43_.1 13 0 28) + vx8_))], [.inl vx21_], Sx43_)) rfl ?_
        refine sm_T_b0 (a := 0) (z := 41) rfl (fun cx52_ => ?_) (fun cx52_ => ?_)
        · have cx52_ : vx21_ = 0 := of_decide_eq_true cx52_
          exfalso; omega
        · have cx52_ : ¬ (vx21_ = 0) := of_decide_eq_false cx52_
          refine sm_T_go 4 (c1 := (106, [some (.inr (.inr (some (13, 0)))), some (.inl (S0_.1 13 0 9)), some (.inl vx8_), some (.inl vx21_), some (.inl (40 * (Sx43_.1 13 0 28) + vx8_))], [.inl (Sx43_.1 13 0 9), .inr (.inr (some (119, 0)))], Sx43_)) rfl ?_
          refine sm_T_bald (n := 65537) rfl rfl (by omega) (by omega) ?_
          refine sm_T_go 1 (c1 := (108, [some (.inr (.inr (some (13, 0)))), some (.inl (S0_.1 13 0 9)), some (.inl vx8_), some (.inl vx21_), some (.inl (40 * (Sx43_.1 13 0 28) + vx8_))], [.inl 1, .inl (Sx43_.2.2.1 119 0 (Sx43_.1 13 0 9).toNat)], Sx43_)) rfl ?_
          refine sm_T_br (a := 1) (z := 28) rfl (fun cx53_ => ?_) (fun cx53_ => ?_)
          · have cx53_ : (Sx43_.2.2.1 119 0 (Sx43_.1 13 0 9).toNat) ≠ 1 := of_decide_eq_true cx53_
            refine sm_T_go 3 (c1 := (142, [some (.inr (.inr (some (13, 0)))), some (.inl (S0_.1 13 0 9)), some (.inl vx8_), some (.inl vx21_), some (.inl (40 * (Sx43_.1 13 0 28) + vx8_))], [.inl (40 * (Sx43_.1 13 0 28) + vx8_), .inr (.inr (some (128, 0)))], Sx43_)) rfl ?_
            refine sm_T_iald (n := 640) rfl rfl (by omega) (by omega) ?_
            have bx54_ : 0 ≤ Sx43_.2.2.1 128 0 (40 * (Sx43_.1 13 0 28) + vx8_).toNat ∧ Sx43_.2.2.1 128 0 (40 * (Sx43_.1 13 0 28) + vx8_).toNat ≤ 5 := hIx44_.2 128 0 _
            refine sm_T_cal (d1 := 0) (Q1 := vq_323 (Sx43_.2.2.1 128 0 (40 * (Sx43_.1 13 0 28) + vx8_).toNat) Sx43_) rfl rfl (by decide) (vc_323 (Sx43_.2.2.1 128 0 (40 * (Sx43_.1 13 0 28) + vx8_).toNat) Sx43_ hIx44_ ) (fun u_ Sx55_ px58_ => ?_)
            obtain ⟨rfl, vx60_, rfl, px58_⟩ := px58_
            have e143_ := px58_
            refine sm_T_b0 (a := 1) (z := 11) rfl (fun cx61_ => ?_) (fun cx61_ => ?_)
            · have cx61_ : vx60_ ≠ 0 := of_decide_eq_true cx61_
              refine sm_T_go 4 (c1 := (164, [some (.inr (.inr (some (13, 0)))), some (.inl (S0_.1 13 0 9)), some (.inl vx8_), some (.inl vx21_), some (.inl (40 * (Sx43_.1 13 0 28) + vx8_))], [.inl (40 * (Sx43_.1 13 0 28) + vx8_), .inr (.inr (some (129, 0))), .inr (.inr (some (13, 0)))], Sx43_)) rfl ?_
              refine sm_T_iald (n := 640) rfl rfl (by omega) (by omega) ?_
              have bx62_ : 0 ≤ Sx43_.2.2.1 129 0 (40 * (Sx43_.1 13 0 28) + vx8_).toNat ∧ Sx43_.2.2.1 129 0 (40 * (Sx43_.1 13 0 28) + vx8_).toNat ≤ 8 := hIx44_.2 129 0 _
              have bx63_ : 0 ≤ Sx43_.1 13 0 29 ∧ Sx43_.1 13 0 29 ≤ 16 := hIx44_.1 13 0 29 rfl
              refine sm_T_go 5 (c1 := (174, [some (.inr (.inr (some (13, 0)))), some (.inl (S0_.1 13 0 9)), some (.inl vx8_), some (.inl vx21_), some (.inl (40 * (Sx43_.1 13 0 28) + vx8_))], [.inl (Sx43_.1 13 0 29), .inl 40, .inl 8, .inl 0, .inl (Sx43_.2.2.1 129 0 (40 * (Sx43_.1 13 0 28) + vx8_).toNat), .inr (.inr (some (13, 0)))], Sx43_)) rfl ?_
              refine sm_T_bin (w := 40 * (Sx43_.1 13 0 29)) rfl (bi_mul (by omega) (by omega) (by omega)) ?_
              refine sm_T_go 1 (c1 := (176, [some (.inr (.inr (some (13, 0)))), some (.inl (S0_.1 13 0 9)), some (.inl vx8_), some (.inl vx21_), some (.inl (40 * (Sx43_.1 13 0 28) + vx8_))], [.inl vx8_, .inl (40 * (Sx43_.1 13 0 29)), .inl 8, .inl 0, .inl (Sx43_.2.2.1 129 0 (40 * (Sx43_.1 13 0 28) + vx8_).toNat), .inr (.inr (some (13, 0)))], Sx43_)) rfl ?_
              refine sm_T_bin (w := 40 * (Sx43_.1 13 0 29) + vx8_) rfl (bi_add (by omega) (by omega) (by omega)) ?_
              refine sm_T_bin (w := 320 * (Sx43_.1 13 0 29) + 8 * vx8_) rfl (bi_mul (by omega) (by omega) (by omega)) ?_
              refine sm_T_cal (d1 := 0) (Q1 := vq_333g (Sx43_.2.2.1 129 0 (40 * (Sx43_.1 13 0 28) + vx8_).toNat) 0 (320 * (Sx43_.1 13 0 29) + 8 * vx8_) gl_ Sx43_) rfl rfl (by decide) (vc_333g (Sx43_.2.2.1 129 0 (40 * (Sx43_.1 13 0 28) + vx8_).toNat) 0 (320 * (Sx43_.1 13 0 29) + 8 * vx8_) gl_ Sx43_ hIx44_ (by exact ⟨vl9_, hv_.2⟩) (by exact mo9_) (by (have := ao_.2.2.1; omega)) (by (left; refine ⟨rfl, ?_, ?_⟩ <;> omega))) (fun u_ Sx64_ px67_ => ?_)
              obtain ⟨rfl, hIx65_, hFx66_, px67_⟩ := px67_
              have hFx68_ : ai_fr (sx_W vw_324g) S0_ Sx64_ := ai_fr_tr hFx47_ (fr_le hFx66_ rfl)
              have ex69_ : Sx64_.1 13 0 9 = Sx43_.1 13 0 9 := hFx66_.1 13 0 9 rfl
              have ex70_ : Sx64_.1 13 0 29 = Sx43_.1 13 0 29 := hFx66_.1 13 0 29 rfl
              have ex71_ : Sx64_.1 13 0 28 = Sx43_.1 13 0 28 := hFx66_.1 13 0 28 rfl
              have c178_ := px67_
              rw [wk_] at c178_
              first | (have g178_ := rg_fr g44_ hFx66_ rfl rfl rfl; have t178_ := rtab_fr t44_ hFx66_ rfl rfl rfl rfl rfl) | (have g178_ := rg_fr g29_ hFx66_ rfl rfl rfl; have t178_ := rtab_fr t29_ hFx66_ rfl rfl rfl rfl rfl)
              have vl8_ : Sx64_.1 13 0 34 = (gl_ : Int) := (hFx68_.1 13 0 34 rfl).trans hv_.1
              have mo8_ : Sx64_.1 13 0 27 = 1 := (hFx68_.1 13 0 27 rfl).trans hmo_
              have wx8_ := fr_arr (t := 129) (i := 0) hFx68_ rfl
              have wk8_ := (congrFun wx8_ _).trans ((congrArg (S0_.2.2.1 129 0) kx_).trans ro_.2.2.1)
              have nso_ : A_.2.2.1 (40 * M_ + s9_) ≠ 5 := fun z_ => by have z1_ := e143_.2; have z2_ := sb_.2.1.mpr z_; omega
              have lE := (hte_.2 s9_ sK_).1 nso_
              have wA_ := ao_.2.2.1
              have wA1_ := ao_.2.2.2.1 nso_
              have e1o : ev1 F_ I_ A_ X_ M_ E_ O_ [cw 9 (s9_ : Int) 0] (E_ s9_) := by have q9_ := ev1_ld (F_ := F_) (I_ := I_) (X_ := X_) (E_ := E_) (O_ := O_) (a_ := (s9_ : Int)) (m_ := M_) (A_ := A_) (by omega) aM1_ (by rw [Int.toNat_natCast]; omega) (by rw [Int.toNat_natCast]; exact lE); rw [Int.toNat_natCast] at q9_; exact q9_
              have r178_ : rowv gl_ (E_ s9_) ok_ S0_ Sx64_ := ⟨fun j_ => by rw [c178_.1, lw9_, lE], fun z_ k9_ z9_ e9_ => by have hk9_ : k9_ < (E_ s9_).length := (by by_cases w9_ : k9_ < (E_ s9_).length; exact w9_; (rw [List.getElem?_eq_none (by omega)] at e9_; cases e9_)); refine (c178_.2.1 k9_ (by omega)).trans ?_; show (if (0 : Int) = 1 then _ else _) = z9_; rw [if_neg (by decide), i9_]; exact (congrArg (S0_.2.2.1 144 0) (show _ = 8 * (40 * fr_ + s9_) + k9_ by omega)).trans (((hev_ z_).1 s9_ (by omega)) k9_ z9_ e9_), fun j_ hj_ => by rw [c178_.2.2 j_ hj_, ll9_]⟩
              refine sm_T_go 1 (c1 := (182, [some (.inr (.inr (some (13, 0)))), some (.inl (S0_.1 13 0 9)), some (.inl vx8_), some (.inl vx21_), some (.inl (40 * (Sx43_.1 13 0 28) + vx8_))], [.inl vx21_], Sx64_)) rfl ?_
              refine sm_T_b0 (a := 0) (z := 14) rfl (fun cx72_ => ?_) (fun cx72_ => ?_)
              · have cx72_ : vx21_ = 0 := of_decide_eq_true cx72_
                exfalso; omega
              · have cx72_ : ¬ (vx21_ = 0) := of_decide_eq_false cx72_
                obtain ⟨u_, nu1_, nu2_⟩ : ∃ u_, p_bp b_ n_ (A_.2.2.2.1 (40 * M_ + s9_)) q2_ = .inr u_ ∧ r_ = (u_, 1, [cw 11 (lx_vl b_ n_ q2_) 0, cw 9 (s9_ : Int) 0]) := by rcases nq5_ with z_ | z_; (exact absurd z_.2.1 nso_); (exact z_.2.2)
                refine sm_T_go 4 (c1 := (192, [some (.inr (.inr (some (13, 0)))), some (.inl (S0_.1 13 0 9)), some (.inl vx8_), some (.inl vx21_), some (.inl (40 * (Sx43_.1 13 0 28) + vx8_))], [.inl (40 * (Sx43_.1 13 0 28) + vx8_), .inr (.inr (some (129, 0))), .inr (.inr (some (13, 0)))], Sx64_)) rfl ?_
                refine sm_T_iald (n := 640) rfl rfl (by omega) (by omega) ?_
                have bx73_ : 0 ≤ Sx64_.2.2.1 129 0 (40 * (Sx43_.1 13 0 28) + vx8_).toNat ∧ Sx64_.2.2.1 129 0 (40 * (Sx43_.1 13 0 28) + vx8_).toNat ≤ 8 := hIx65_.2 129 0 _
                refine sm_T_cal (d1 := 3) (Q1 := vq_325g (Sx64_.2.2.1 129 0 (40 * (Sx43_.1 13 0 28) + vx8_).toNat) b_ n_ T_ q2_ gl_ u_ Sx64_) rfl rfl (by decide) (vc_325g (Sx64_.2.2.1 129 0 (40 * (Sx43_.1 13 0 28) + vx8_).toNat) b_ n_ T_ q2_ gl_ u_ Sx64_ hIx65_ (by exact t178_) (by exact g178_) (by exact ⟨vl8_, hv_.2⟩) (by exact mo8_) (by omega) (by (rw [wk8_]; exact nu1_))) (fun u_ Sx74_ px77_ => ?_)
                obtain ⟨rfl, hIx75_, hFx76_, px77_⟩ := px77_
                have hFx78_ : ai_fr (sx_W vw_324g) S0_ Sx74_ := ai_fr_tr hFx68_ (fr_le hFx76_ rfl)
                have e193_ := px77_
                refine sm_T_rv rfl ⟨_, _, rfl, rfl, hIx75_, hFx78_, ?_⟩
                first | (have r9_ := bp_rr nu1_; rw [nu2_]; exact ⟨_, ev1_bi e1o (by omega) (by omega), rfl, ⟨by simp, by simp⟩, e193_.1, rowv_bi r178_ (by omega) (by omega) e193_.2.1 e193_.2.2⟩) | (have q5_ : r_ = (q_, A_.2.2.2.1 (40 * M_ + s9_), [cw 9 (s9_ : Int) 0]) := (by rcases nq4_ with z_ | z_; (exact z_.2.2); (have := e35_.mpr z_.1; omega)); rw [q5_]; exact ⟨E_ s9_, e1o, lE, by omega, g178_, r178_⟩)
            · have cx61_ : ¬ (vx60_ ≠ 0) := of_decide_eq_false cx61_
              exfalso; (have z9_ := e143_.2; have z8_ := sb_.2.2.2.2; have z7_ : A_.2.2.1 (40 * M_ + s9_) = 5 := sb_.2.1.mp (by omega); first | (rcases nq5_ with z_ | z_; (have z3_ := j5_.2.1.mpr z_.1; omega); (exact z_.2.1 z7_)) | (rcases nq4_ with z_ | z_; (exact z_.2.1 z7_); (have z3_ := e35_.mpr z_.1; omega)))
          · have cx53_ : ¬ ((Sx43_.2.2.1 119 0 (Sx43_.1 13 0 9).toNat) ≠ 1) := of_decide_eq_false cx53_
            exfalso; omega
      · have cx50_ : ¬ ((Sx43_.2.2.1 119 0 (Sx43_.1 13 0 9).toNat) = 2) := of_decide_eq_false cx50_
        refine sm_T_go 4 (c1 := (68, [some (.inr (.inr (some (13, 0)))), some (.inl (S0_.1 13 0 9)), some (.inl vx8_), some (.inl vx21_), none], [.inl (Sx43_.1 13 0 9), .inr (.inr (some (119, 0)))], Sx43_)) rfl ?_
        refine sm_T_bald (n := 65537) rfl rfl (by omega) (by omega) ?_
        refine sm_T_go 1 (c1 := (70, [some (.inr (.inr (some (13, 0)))), some (.inl (S0_.1 13 0 9)), some (.inl vx8_), some (.inl vx21_), none], [.inl 1, .inl (Sx43_.2.2.1 119 0 (Sx43_.1 13 0 9).toNat)], Sx43_)) rfl ?_
        refine sm_T_br (a := 0) (z := 13) rfl (fun cx79_ => ?_) (fun cx79_ => ?_)
        · have cx79_ : (Sx43_.2.2.1 119 0 (Sx43_.1 13 0 9).toNat) = 1 := of_decide_eq_true cx79_
          have bx80_ : 0 ≤ Sx43_.1 13 0 28 ∧ Sx43_.1 13 0 28 ≤ 15 := hIx44_.1 13 0 28 rfl
          refine sm_T_go 3 (c1 := (89, [some (.inr (.inr (some (13, 0)))), some (.inl (S0_.1 13 0 9)), some (.inl vx8_), some (.inl vx21_), none], [.inl (Sx43_.1 13 0 28), .inl 40], Sx43_)) rfl ?_
          refine sm_T_bin (w := 40 * (Sx43_.1 13 0 28)) rfl (bi_mul (by omega) (by omega) (by omega)) ?_
          refine sm_T_go 1 (c1 := (91, [some (.inr (.inr (some (13, 0)))), some (.inl (S0_.1 13 0 9)), some (.inl vx8_), some (.inl vx21_), none], [.inl vx8_, .inl (40 * (Sx43_.1 13 0 28))], Sx43_)) rfl ?_
          refine sm_T_bin (w := 40 * (Sx43_.1 13 0 28) + vx8_) rfl (bi_add (by omega) (by omega) (by omega)) ?_
          refine sm_T_go 2 (c1 := (95, [some (.inr (.inr (some (13, 0)))), some (.inl (S0_.1 13 0 9)), some (.inl vx8_), some (.inl vx21_), some (.inl (40 * (Sx43_.1 13 0 28) + vx8_))], [.inl vx21_], Sx43_)) rfl ?_
          refine sm_T_b0 (a := 0) (z := 41) rfl (fun cx81_ => ?_) (fun cx81_ => ?_)
          · have cx81_ : vx21_ = 0 := of_decide_eq_true cx81_
            exfalso; omega
          · have cx81_ : ¬ (vx21_ = 0) := of_decide_eq_false cx81_
            refine sm_T_go 4 (c1 := (106, [some (.inr (.inr (some (13, 0)))), some (.inl (S0_.1 13 0 9)), some (.inl vx8_), some (.inl vx21_), some (.inl (40 * (Sx43_.1 13 0 28) + vx8_))], [.inl (Sx43_.1 13 0 9), .inr (.inr (some (119, 0)))], Sx43_)) rfl ?_
            refine sm_T_bald (n := 65537) rfl rfl (by omega) (by omega) ?_
            refine sm_T_go 1 (c1 := (108, [some (.inr (.inr (some (13, 0)))), some (.inl (S0_.1 13 0 9)), some (.inl vx8_), some (.inl vx21_), some (.inl (40 * (Sx43_.1 13 0 28) + vx8_))], [.inl 1, .inl (Sx43_.2.2.1 119 0 (Sx43_.1 13 0 9).toNat)], Sx43_)) rfl ?_
            refine sm_T_br (a := 1) (z := 28) rfl (fun cx82_ => ?_) (fun cx82_ => ?_)
            · have cx82_ : (Sx43_.2.2.1 119 0 (Sx43_.1 13 0 9).toNat) ≠ 1 := of_decide_eq_true cx82_
              exfalso; omega
            · have cx82_ : ¬ ((Sx43_.2.2.1 119 0 (Sx43_.1 13 0 9).toNat) ≠ 1) := of_decide_eq_false cx82_
              refine sm_T_go 3 (c1 := (117, [some (.inr (.inr (some (13, 0)))), some (.inl (S0_.1 13 0 9)), some (.inl vx8_), some (.inl vx21_), some (.inl (40 * (Sx43_.1 13 0 28) + vx8_))], [.inl (40 * (Sx43_.1 13 0 28) + vx8_), .inr (.inr (some (128, 0)))], Sx43_)) rfl ?_
              refine sm_T_iald (n := 640) rfl rfl (by omega) (by omega) ?_
              have bx83_ : 0 ≤ Sx43_.2.2.1 128 0 (40 * (Sx43_.1 13 0 28) + vx8_).toNat ∧ Sx43_.2.2.1 128 0 (40 * (Sx43_.1 13 0 28) + vx8_).toNat ≤ 5 := hIx44_.2 128 0 _
              refine sm_T_go 1 (c1 := (119, [some (.inr (.inr (some (13, 0)))), some (.inl (S0_.1 13 0 9)), some (.inl vx8_), some (.inl vx21_), some (.inl (40 * (Sx43_.1 13 0 28) + vx8_))], [.inl 5, .inl (Sx43_.2.2.1 128 0 (40 * (Sx43_.1 13 0 28) + vx8_).toNat)], Sx43_)) rfl ?_
              refine sm_T_br (a := 0) (z := 11) rfl (fun cx84_ => ?_) (fun cx84_ => ?_)
              · have cx84_ : (Sx43_.2.2.1 128 0 (40 * (Sx43_.1 13 0 28) + vx8_).toNat) = 5 := of_decide_eq_true cx84_
                refine sm_T_go 2 (c1 := (132, [some (.inr (.inr (some (13, 0)))), some (.inl (S0_.1 13 0 9)), some (.inl vx8_), some (.inl vx21_), some (.inl (40 * (Sx43_.1 13 0 28) + vx8_))], [.inl vx8_, .inr (.inr (some (13, 0)))], Sx43_)) rfl ?_
                refine sm_T_cal (d1 := 4) (Q1 := vq_326g vx8_ b_ n_ T_ q2_ gl_ F_ I_ A_ X_ M_ K_ fr_ E_ O_ ok_ r_ s9_ Sx43_) rfl rfl (by decide) (vc_326g vx8_ b_ n_ T_ q2_ gl_ F_ I_ A_ X_ M_ K_ fr_ E_ O_ ok_ r_ s9_ Sx43_ hIx44_ (by exact t44_) (by exact g44_) (by exact ⟨vl9_, hv_.2⟩) (by exact mo9_) (by exact j5_.2.1.mp (by omega)) (by exact hA_) (by exact mx_) (by exact ⟨fr9_, hfr_.2⟩) (by exact re9_) (by exact hte_) (by exact ev9_) (by omega) (by exact sb_.2.1.mp (by omega)) (by (rw [e11]; rcases nq5_ with z_ | z_; (exact z_.2.2); (exact absurd z_.1 (by have := j5_.2.1.mp (by omega); omega))))) (fun u_ Sx85_ px88_ => ?_)
                obtain ⟨rfl, hIx86_, hFx87_, px88_⟩ := px88_
                have hFx89_ : ai_fr (sx_W vw_324g) S0_ Sx85_ := ai_fr_tr hFx47_ (fr_le hFx87_ rfl)
                have ex90_ : Sx85_.1 13 0 28 = Sx43_.1 13 0 28 := hFx87_.1 13 0 28 rfl
                have e132_ := px88_
                refine sm_T_rv rfl ⟨_, _, rfl, rfl, hIx86_, hFx89_, ?_⟩
                obtain ⟨v9_, a1_, a2_, a3_, a4_, a5_⟩ := e132_
                exact ⟨v9_, a1_, a2_, a3_, a4_, fun j_ => by rw [a5_.1, lw9_], a5_.2.1, fun j_ hj_ => by rw [a5_.2.2 j_ hj_, ll9_]⟩
              · have cx84_ : ¬ ((Sx43_.2.2.1 128 0 (40 * (Sx43_.1 13 0 28) + vx8_).toNat) = 5) := of_decide_eq_false cx84_
                exfalso; (have z1_ := (j5_.2.1.mp (by omega)); rcases nq5_ with z_ | z_; (have z3_ := sb_.2.1.mpr z_.2.1; omega); (have z3_ := z_.1; omega))
        · have cx79_ : ¬ ((Sx43_.2.2.1 119 0 (Sx43_.1 13 0 9).toNat) = 1) := of_decide_eq_false cx79_
          exfalso; (have z1_ := j5_.2.1; have z2_ := j5_.2.2.1; rcases nq5_ with z_ | z_; (have z3_ := z1_.mpr z_.1; omega); (have z3_ := z2_.mpr z_.1; omega))
  · have cx9_ : ¬ (vx8_ ≠ (-1)) := of_decide_eq_false cx9_
    exfalso; omega
end
/-! 99.zc8a -/
section
/-! the reference: operands, second pass; written by wip/p55/gen/vg -/

/-! operands, second pass -/
def rzx (b_ : Nat → Int) (n_ T_ F_ I_ : Nat) (A_ : pA) (X_ : Nat → gQ → gE → Option (gQ × gE)) (m_ : Nat) (s0_ : gS) (x_ : pX) (S_ : sm_S) : Prop := rx b_ n_ T_ 1 x_.2.1 x_.1 x_.2.2.1 x_.2.2.2.1 x_.2.2.2.2.1 S_ ∧ x_ok b_ n_ false x_ ∧ xg F_ I_ A_ X_ m_ s0_ x_.2.2.2.2.1 x_.2.2.2.2.2 S_ ∧ o_wd x_.2.2.2.1 (if x_.1 = 0 then x_.2.2.2.2.1 else x_.2.2.2.2.1.tail)
theorem xg_fr {w_ : sx_Wl} {F_ I_ : Nat} {A_ : pA} {X_ : Nat → gQ → gE → Option (gQ × gE)} {m_ : Nat} {s0_ : gS} {h_ c_ : List Int} {S_ S'_ : sm_S} (x_ : xg F_ I_ A_ X_ m_ s0_ h_ c_ S_) (g_ : ai_fr (sx_W w_) S_ S'_) (h0_ : (sx_W w_).1 13 38 = false) (h1_ : (sx_W w_).1 13 37 = false) (h2_ : (sx_W w_).2.1 140 = false) (h3_ : (sx_W w_).2.1 141 = false) (h4_ : (sx_W w_).2.1 142 = false) (h5_ : (sx_W w_).2.1 143 = false) (h6_ : (sx_W w_).2.1 138 = false) (h7_ : (sx_W w_).2.1 139 = false) : xg F_ I_ A_ X_ m_ s0_ h_ c_ S'_ := by
  obtain ⟨G_, V_, x1_, x2_, x3_, x4_⟩ := x_
  refine ⟨G_, V_, x1_, x2_, rgl_fr x3_ g_ h0_ h1_ h2_ h3_ h4_ h5_, ?_⟩
  rw [fr_arr g_ h6_, fr_arr g_ h7_]
  exact x4_
/-- a_ value is_ pushed -/
theorem xg_pu {F_ I_ : Nat} {A_ : pA} {X_ : Nat → gQ → gE → Option (gQ × gE)} {m_ : Nat} {s0_ : gS} {G_ : pGr} {V_ : gV} {c_ c1_ v_ : List Int} {w_ : Int} {S_ S1_ : sm_S} (h1_ : ev F_ I_ A_ X_ m_ s0_ c_ = some ((G_, s0_.1.2), s0_.2.1, s0_.2.2.1, V_)) (h4_ : svl (G_.length ≤ 1001) (S_.2.2.1 139 0) (S_.2.2.1 138 0) V_) (hv_ : ev1 F_ I_ A_ X_ m_ s0_.2.1 s0_.2.2.1 c1_ v_) (hV_ : V_.length < 512) (hl_ : 1 ≤ v_.length ∧ v_.length ≤ 8) (hw_ : (v_.length : Int) = w_) (hr_ : rgl F_ G_ S1_) (hp_ : rowv V_.length v_ (G_.length ≤ 1001) S_ S1_) : xg F_ I_ A_ X_ m_ s0_ (w_ :: V_.map fun v_ => (v_.length : Int)) (c1_ ++ c_) S1_ :=
  ⟨G_, v_ :: V_, hv_ _ V_ c_ s0_ hV_ h1_, by rw [List.map_cons, hw_], hr_, svl_tp h4_ (fun z_ => z_) (fun j_ hj_ => hp_.2.2 j_ (Or.inl (by omega))) (fun j_ hj_ => by rw [hp_.1, if_neg (by omega)]) (by rw [hp_.1, if_pos rfl]) hl_ hp_.2.1⟩
def r_e1 (b_ : Nat → Int) (n_ T_ : Nat) (A_ : pA) (M_ fr_ : Nat) (S_ : sm_S) : Prop := a_ok b_ n_ A_ M_ ∧ S_.1 13 0 28 = (M_ : Int) ∧ (S_.1 13 0 29 = (fr_ : Int) ∧ fr_ ≤ 15) ∧ ∀ m_, m_ ≤ M_ → re1 b_ n_ T_ A_ m_ S_
theorem ev_le {F_ I_ : Nat} {A_ : pA} {X_ : Nat → gQ → gE → Option (gQ × gE)} {m_ : Nat} {s0_ s_ : gS} {c_ : List Int} (hX_ : ∀ d_ q_ e_ z_, X_ d_ q_ e_ = some z_ → q_.1.length ≤ z_.1.1.length) (h_ : ev F_ I_ A_ X_ m_ s0_ c_ = some s_) : s0_.1.1.length ≤ s_.1.1.length := ec_le hX_ _ _ _ h_
/-! M_.operand -/
def vw_319g : sx_Wl := ([(13, 9), (13, 10), (13, 11), (13, 32), (13, 33), (13, 34)], [136, 137, 138, 139], [])
def vq_319g (b_ : Nat → Int) (n_ : Nat) (T_ : Nat) (F_ : Nat) (I_ : Nat) (A_ : pA) (X_ : Nat → gQ → gE → Option (gQ × gE)) (M_ : Nat) (s0_ : gS) (pr_ : pPr) (K_ : Nat) (fr_ : Nat) (t_ : Bool) (p_ : Nat) (o_ : List (Int × Nat)) (g_ : List Int) (c_ : List Int) (y_ : pX) (S0_ : sm_S) (u_ : Option sm_V) (S1_ : sm_S) : Prop := ∃ v_ : Int, u_ = some (.inl v_) ∧ gi S1_ ∧ ai_fr (sx_W vw_319g) S0_ S1_ ∧ (rzx b_ n_ T_ F_ I_ A_ X_ M_ s0_ y_ S1_ ∧ v_ = (y_.1 : Int))
set_option maxHeartbeats 3000000 in
theorem vc_319g {sc_ : Nat × (Nat → Int)} (b_ : Nat → Int) (n_ : Nat) (T_ : Nat) (F_ : Nat) (I_ : Nat) (A_ : pA) (X_ : Nat → gQ → gE → Option (gQ × gE)) (M_ : Nat) (s0_ : gS) (pr_ : pPr) (K_ : Nat) (fr_ : Nat) (t_ : Bool) (p_ : Nat) (o_ : List (Int × Nat)) (g_ : List Int) (c_ : List Int) (y_ : pX) (S0_ : sm_S) (hI_ : gi S0_) (ht_ : rtab b_ n_ T_ S0_) (hpr_ : pr_ok b_ n_ pr_) (hmon : ∀ p_ r_, pr_ p_ = .inr r_ → p_pd b_ n_ A_ M_ p_ = .inr r_ ∧ (lx_kd b_ n_ p_ = 1 → p_fn b_ n_ A_ M_ p_ < (K_ : Int))) (hX_ : ∀ d_ q_ e_ z_, X_ d_ q_ e_ = some z_ → q_.1.length ≤ z_.1.1.length) (hen_ : r_e1 b_ n_ T_ A_ M_ fr_ S0_) (hte_ : ten A_ M_ K_ s0_.2.1 s0_.2.2.1) (hev_ : rev fr_ K_ s0_.2.1 s0_.2.2.1 (s0_.1.1.length ≤ 1001) S0_) (hz_ : rzx b_ n_ T_ F_ I_ A_ X_ M_ s0_ (0, t_, p_, o_, g_, c_) S0_) (hst_ : p_st b_ n_ false pr_ (0, t_, p_, o_, g_, c_) = .inr (.inl y_)) : sm_T (mt_P sc_) 6 319 (0, [some (.inr (.inr (some (13, 0))))], [], S0_) (fun ro9_ => ∃ u_ S1_, ro9_ = (.inl u_, S1_, 0) ∧ vq_319g b_ n_ T_ F_ I_ A_ X_ M_ s0_ pr_ K_ fr_ t_ p_ o_ g_ c_ y_ S0_ u_ S1_) := by
  have hF_ : ai_fr (sx_W vw_319g) S0_ S0_ := ai_fr_rf
  have hz1_ : rx b_ n_ T_ 1 t_ 0 p_ o_ g_ S0_ := hz_.1
  obtain ⟨hg_, ⟨w0_, hw_, hwt_⟩, hop_, hv_, hmo1_⟩ := id hz1_
  have hwt_ : wt b_ n_ T_ t_ o_ w0_ := by rcases hwt_ with z_ | z_; (exact z_.2); (exact absurd z_.1 (by decide))
  obtain ⟨i_, hi1_, hi2_⟩ := id hg_.2
  have hf_ := hg_.1
  have hT_ := ht_.2.1
  have hi9_ := hi2_.1
  have ra_ := rp_at ht_ hi2_
  have rk_ := r_st_3 (lx_kd_r hi2_.2.2.1)
  have e4_ : (S0_.1 13 0 9).toNat = i_ := by omega
  have so4_ : S0_.2.2.1 119 0 (S0_.1 13 0 9).toNat = r_st (lx_kd b_ n_ p_) := by rw [e4_]; exact ra_.1
  have pl4_ : S0_.2.2.1 120 0 (S0_.1 13 0 9).toNat = (p_ : Int) := by rw [e4_]; exact ra_.2.1
  have lim_ := o_lim hz_.2.1.2.1.1 hz_.2.1.2.1.2.1
  have lim1_ : o_.length ≤ 365 := lim_.1
  have wlen : w0_.length ≤ 731 := by rcases hwt_ with z_ | ⟨u_, z1_, z2_⟩; (have := wl_len z_.2; omega); (have := wl_len z2_; rw [z1_, List.length_cons]; omega)
  have hww_ := hw_.1
  have tp_ := wt_tp hwt_ hz_.2.1.2.1.1
  have gl1_ : g_.length = o_hl o_ + 0 := hz_.2.1.2.1.2.2.1
  have gl2_ : o_hl o_ ≤ 425 := lim_.2
  have hn1_ := ht_.1
  have xok_ := x_st ht_.1 hpr_ hz_.2.1 hst_
  refine sm_T_go 2 (c1 := (3, [some (.inr (.inr (some (13, 0))))], [.inl 33, .inr (.inr (some (13, 0)))], S0_)) rfl ?_
  refine sm_T_cal (d1 := 0) (Q1 := vq_295 33 b_ n_ T_ (.inr p_) S0_) rfl rfl (by decide) (vc_295 33 b_ n_ T_ (.inr p_) S0_ hI_ (by exact ht_) (by exact hg_) (by decide)) (fun u_ Sx1_ px4_ => ?_)
  obtain ⟨rfl, vx6_, rfl, px4_⟩ := px4_
  have e3_ := px4_.2 p_ rfl
  have r3_ := px4_.1.1
  refine sm_T_b0 (a := 0) (z := 43) rfl (fun cx7_ => ?_) (fun cx7_ => ?_)
  · have cx7_ : vx6_ = 0 := of_decide_eq_true cx7_
    refine sm_T_go 2 (c1 := (52, [some (.inr (.inr (some (13, 0))))], [.inl 40, .inr (.inr (some (13, 0)))], S0_)) rfl ?_
    refine sm_T_cal (d1 := 0) (Q1 := vq_295 40 b_ n_ T_ (.inr p_) S0_) rfl rfl (by decide) (vc_295 40 b_ n_ T_ (.inr p_) S0_ hI_ (by exact ht_) (by exact hg_) (by decide)) (fun u_ Sx8_ px11_ => ?_)
    obtain ⟨rfl, vx13_, rfl, px11_⟩ := px11_
    have e52_ := px11_.2 p_ rfl
    have r52_ := px11_.1.1
    have n33_ : lx_kd b_ n_ p_ ≠ 33 := fun z_ => by have := e3_.mpr z_; omega
    refine sm_T_b0 (a := 0) (z := 11) rfl (fun cx14_ => ?_) (fun cx14_ => ?_)
    · have cx14_ : vx13_ = 0 := of_decide_eq_true cx14_
      have n40_ : lx_kd b_ n_ p_ ≠ 40 := fun z_ => by have := e52_.mpr z_; omega
      obtain ⟨r_, hpr1_, hy_⟩ : ∃ r_, pr_ p_ = .inr r_ ∧ y_ = (1, false, r_.1, o_, (p_ti false t_ (r_.2.1 :: g_) (r_.2.2 ++ c_)).1, (p_ti false t_ (r_.2.1 :: g_) (r_.2.2 ++ c_)).2) := by have q9_ := hst_; rw [pA_p n33_ n40_] at q9_; obtain ⟨q_, q1_, q2_⟩ := pb_inr q9_; cases q2_; exact ⟨q_, q1_, rfl⟩
      obtain ⟨hpd_, hpk_⟩ := hmon p_ r_ hpr1_
      obtain ⟨Gr_, V_, xe_, xm_, xr, xv_⟩ := id hz_.2.2.1
      have Vl_ : V_.length = g_.length := by have q9_ := congrArg List.length xm_; rw [List.length_map] at q9_; exact q9_
      have gle_ := ev_le hX_ xe_
      have ev9_ : rev fr_ K_ s0_.2.1 s0_.2.2.1 (Gr_.length ≤ 1001) S0_ := fun z_ => hev_ (Nat.le_trans gle_ z_)
      have bx15_ : 0 ≤ S0_.1 13 0 27 ∧ S0_.1 13 0 27 ≤ 2 := hI_.1 13 0 27 rfl
      refine sm_T_go 3 (c1 := (71, [some (.inr (.inr (some (13, 0))))], [.inl 2, .inl (S0_.1 13 0 27)], S0_)) rfl ?_
      refine sm_T_br (a := 1) (z := 10) rfl (fun cx16_ => ?_) (fun cx16_ => ?_)
      · have cx16_ : (S0_.1 13 0 27) ≠ 2 := of_decide_eq_true cx16_
        have bx17_ : 0 ≤ S0_.1 13 0 9 ∧ S0_.1 13 0 9 ≤ 1280 := hI_.1 13 0 9 rfl
        refine sm_T_go 4 (c1 := (89, [some (.inr (.inr (some (13, 0))))], [.inl (S0_.1 13 0 9), .inr (.inr (some (119, 0)))], S0_)) rfl ?_
        refine sm_T_bald (n := 65537) rfl rfl (by omega) (by omega) ?_
        have bx18_ : (-128) ≤ S0_.2.2.1 119 0 (S0_.1 13 0 9).toNat ∧ S0_.2.2.1 119 0 (S0_.1 13 0 9).toNat ≤ 127 := hI_.2 119 0 _
        refine sm_T_go 1 (c1 := (91, [some (.inr (.inr (some (13, 0))))], [.inl 2, .inl (S0_.2.2.1 119 0 (S0_.1 13 0 9).toNat)], S0_)) rfl ?_
        refine sm_T_br (a := 1) (z := 10) rfl (fun cx19_ => ?_) (fun cx19_ => ?_)
        · have cx19_ : (S0_.2.2.1 119 0 (S0_.1 13 0 9).toNat) ≠ 2 := of_decide_eq_true cx19_
          refine sm_T_go 4 (c1 := (109, [some (.inr (.inr (some (13, 0))))], [.inl (S0_.1 13 0 9), .inr (.inr (some (119, 0)))], S0_)) rfl ?_
          refine sm_T_bald (n := 65537) rfl rfl (by omega) (by omega) ?_
          refine sm_T_go 1 (c1 := (111, [some (.inr (.inr (some (13, 0))))], [.inl 1, .inl (S0_.2.2.1 119 0 (S0_.1 13 0 9).toNat)], S0_)) rfl ?_
          refine sm_T_br (a := 1) (z := 10) rfl (fun cx20_ => ?_) (fun cx20_ => ?_)
          · have cx20_ : (S0_.2.2.1 119 0 (S0_.1 13 0 9).toNat) ≠ 1 := of_decide_eq_true cx20_
            exfalso; (have q9_ := hpd_; unfold p_pd at q9_; rw [if_neg (fun z_ => by have := rk_.2.2.1.mpr z_; omega), if_neg (fun z_ => by have := rk_.2.1.mpr z_; omega)] at q9_; cases q9_)
          · have cx20_ : ¬ ((S0_.2.2.1 119 0 (S0_.1 13 0 9).toNat) ≠ 1) := of_decide_eq_false cx20_
            refine sm_T_go 1 (c1 := (115, [some (.inr (.inr (some (13, 0))))], [.inr (.inr (some (13, 0)))], S0_)) rfl ?_
            refine sm_T_cal (d1 := 5) (Q1 := vq_324g b_ n_ T_ p_ g_.length F_ I_ A_ X_ M_ K_ fr_ s0_.2.1 s0_.2.2.1 (Gr_.length ≤ 1001) r_ S0_) rfl rfl (by decide) (vc_324g b_ n_ T_ p_ g_.length F_ I_ A_ X_ M_ K_ fr_ s0_.2.1 s0_.2.2.1 (Gr_.length ≤ 1001) r_ S0_ hI_ (by exact ht_) (by exact hg_) (by exact ⟨hv_.1, by omega⟩) (by exact hmo1_) (by exact rk_.2.1.mp (by omega)) (by exact hen_.1) (by exact hen_.2.1) (by exact hen_.2.2.1) (by exact hen_.2.2.2) (by exact hte_) (by exact ev9_) (by exact hpk_ (rk_.2.1.mp (by omega))) (by (have q9_ := hpd_; unfold p_pd at q9_; rw [if_neg (by have := rk_.2.1.mp (by omega); omega), if_pos (rk_.2.1.mp (by omega))] at q9_; exact q9_))) (fun u_ Sx21_ px24_ => ?_)
            obtain ⟨rfl, hIx22_, hFx23_, px24_⟩ := px24_
            have hFx25_ : ai_fr (sx_W vw_319g) S0_ Sx21_ := ai_fr_tr hF_ (fr_le hFx23_ rfl)
            have ex26_ : Sx21_.1 13 0 27 = S0_.1 13 0 27 := hFx23_.1 13 0 27 rfl
            obtain ⟨v9_, v91_, v92_, v93_, gq_, v94_⟩ := px24_
            have ws9_ := ws_fr hw_ hFx23_ rfl rfl rfl
            have op9_ := (hFx23_.1 13 0 33 rfl).trans hop_
            have vl9_ := (hFx23_.1 13 0 34 rfl).trans hv_.1
            have mo9_ := (hFx23_.1 13 0 27 rfl).trans hmo1_
            have xr9_ := rgl_fr xr hFx23_ rfl rfl rfl rfl rfl rfl
            have xp_ : xg F_ I_ A_ X_ M_ s0_ (r_.2.1 :: g_) (r_.2.2 ++ c_) Sx21_ := by have q9_ := xg_pu xe_ xv_ v91_ (by omega) v93_ v92_ xr9_ (by rw [Vl_]; exact v94_); rw [xm_] at q9_; exact q9_
            refine sm_T_go 2 (c1 := (131, [some (.inr (.inr (some (13, 0))))], [.inr (.inr (some (13, 0)))], Sx21_)) rfl ?_
            refine sm_T_cal (d1 := 0) (Q1 := vq_292  Sx21_) rfl rfl (by decide) (vc_292  Sx21_ hIx22_ ) (fun u_ Sx27_ px30_ => ?_)
            obtain ⟨rfl, vx32_, rfl, px30_⟩ := px30_
            have e131_ := px30_
            refine sm_T_b0 (a := 0) (z := 17) rfl (fun cx33_ => ?_) (fun cx33_ => ?_)
            · have cx33_ : vx32_ = 0 := of_decide_eq_true cx33_
              exfalso; (rw [if_pos gq_.1] at e131_; omega)
            · have cx33_ : ¬ (vx32_ = 0) := of_decide_eq_false cx33_
              have bx34_ : 0 ≤ Sx21_.1 13 0 34 ∧ Sx21_.1 13 0 34 ≤ 1023 := hIx22_.1 13 0 34 rfl
              refine sm_T_go 4 (c1 := (143, [some (.inr (.inr (some (13, 0))))], [.inl 1, .inl (Sx21_.1 13 0 34), .inr (.inr (some (13, 0)))], Sx21_)) rfl ?_
              refine sm_T_bin (w := (Sx21_.1 13 0 34) + 1) rfl (bi_add (by omega) (by omega) (by omega)) ?_
              have hIx35_ : gi (sm_pI Sx21_ 13 0 34 ((Sx21_.1 13 0 34) + 1)) := gi_pI hIx22_ (show 0 ≤ (Sx21_.1 13 0 34) + 1 ∧ (Sx21_.1 13 0 34) + 1 ≤ 1023 from ⟨by omega, by omega⟩)
              have hFx36_ : ai_fr (sx_W vw_319g) S0_ (sm_pI Sx21_ 13 0 34 ((Sx21_.1 13 0 34) + 1)) := ai_fr_tr hFx25_ (ai_fr_pI rfl)
              refine sm_T_go 2 (c1 := (148, [some (.inr (.inr (some (13, 0))))], [.inr (.inr (some (13, 0)))], sm_pI Sx21_ 13 0 34 ((Sx21_.1 13 0 34) + 1))) rfl ?_
              refine sm_T_cal (d1 := 1) (Q1 := vq_317g b_ n_ T_ F_ I_ A_ X_ M_ s0_ t_ o_ r_.2.1 g_ (r_.2.2 ++ c_) w0_ (sm_pI Sx21_ 13 0 34 ((Sx21_.1 13 0 34) + 1))) rfl rfl (by decide) (vc_317g b_ n_ T_ F_ I_ A_ X_ M_ s0_ t_ o_ r_.2.1 g_ (r_.2.2 ++ c_) w0_ (sm_pI Sx21_ 13 0 34 ((Sx21_.1 13 0 34) + 1)) hIx35_ (by exact ws9_) (by exact hwt_) (by exact hz_.2.1.2.1.1) (by (show _ + 1 = _; omega)) (by exact mo9_) (by omega) (by exact xg_fr (w_ := ([(13, 34)], [], [])) xp_ (ai_fr_pI rfl) rfl rfl rfl rfl rfl rfl rfl rfl)) (fun u_ Sx37_ px40_ => ?_)
              obtain ⟨rfl, hIx38_, hFx39_, px40_⟩ := px40_
              have hFx41_ : ai_fr (sx_W vw_319g) S0_ Sx37_ := ai_fr_tr hFx36_ (fr_le hFx39_ rfl)
              obtain ⟨w1_, ws148_, wl148_, x148_⟩ := px40_
              have g148_ := rg_fr (b_ := b_) (n_ := n_) (T_ := T_) (x_ := .inr r_.1) (S_ := (sm_pI Sx21_ 13 0 34 ((Sx21_.1 13 0 34) + 1))) gq_ hFx39_ rfl rfl rfl
              have op148_ := (hFx39_.1 13 0 33 rfl).trans op9_
              have mo148_ := (hFx39_.1 13 0 27 rfl).trans mo9_
              have vl148_ : Sx37_.1 13 0 34 = (g_.length : Int) + 1 := (hFx39_.1 13 0 34 rfl).trans (by show _ + 1 = _; omega)
              refine sm_T_go 1 (c1 := (152, [some (.inr (.inr (some (13, 0))))], [.inr (.inr (some (13, 0)))], Sx37_)) rfl ?_
              refine sm_T_cal (d1 := 0) (Q1 := vq_292  Sx37_) rfl rfl (by decide) (vc_292  Sx37_ hIx38_ ) (fun u_ Sx42_ px45_ => ?_)
              obtain ⟨rfl, vx47_, rfl, px45_⟩ := px45_
              have e152_ := px45_
              refine sm_T_rz rfl (by (rw [e152_]; split; (right; rfl); (left; rfl))) ⟨_, _, rfl, _, rfl, hIx38_, hFx41_, ?_⟩
              have t1_ : (p_ti false t_ (r_.2.1 :: g_) (r_.2.2 ++ c_)).1 = r_.2.1 :: g_ := by rw [ti2]
              rw [hy_]
              refine ⟨⟨⟨g148_, ⟨w1_, ws148_, Or.inr ⟨rfl, wl148_⟩⟩, op148_, ⟨?_, fun _ => ?_, fun z_ => absurd z_ (by decide)⟩, mo148_⟩, by rw [← hy_]; exact xok_, ?_, ?_⟩, by rw [e152_, if_pos g148_.1]; rfl⟩
              · show _ = ((p_ti false t_ (r_.2.1 :: g_) (r_.2.2 ++ c_)).1.length : Int); rw [t1_, vl148_, List.length_cons]; push_cast; rfl
              · show stk _ (p_ti false t_ (r_.2.1 :: g_) (r_.2.2 ++ c_)).1; rw [t1_]; obtain ⟨G9_, V9_, y1_, y2_, y3_, y4_⟩ := x148_; rw [← y2_]; exact svl_stk y4_
              · show xg F_ I_ A_ X_ M_ s0_ (p_ti false t_ (r_.2.1 :: g_) (r_.2.2 ++ c_)).1 _ _; rw [t1_]; exact x148_
              · show o_wd o_ (p_ti false t_ (r_.2.1 :: g_) (r_.2.2 ++ c_)).1.tail; rw [t1_]; exact hz_.2.2.2
        · have cx19_ : ¬ ((S0_.2.2.1 119 0 (S0_.1 13 0 9).toNat) ≠ 2) := of_decide_eq_false cx19_
          refine sm_T_go 1 (c1 := (95, [some (.inr (.inr (some (13, 0))))], [.inr (.inr (some (13, 0)))], S0_)) rfl ?_
          refine sm_T_cal (d1 := 4) (Q1 := vq_322g b_ n_ T_ p_ g_.length r_ S0_) rfl rfl (by decide) (vc_322g b_ n_ T_ p_ g_.length r_ S0_ hI_ (by exact ht_) (by exact hg_) (by exact ⟨hv_.1, by omega⟩) (by exact hmo1_) (by exact rk_.2.2.1.mp (by omega)) (by (have q9_ := hpd_; unfold p_pd at q9_; rw [if_pos (rk_.2.2.1.mp (by omega))] at q9_; exact q9_))) (fun u_ Sx48_ px51_ => ?_)
          obtain ⟨rfl, hIx49_, hFx50_, px51_⟩ := px51_
          have hFx52_ : ai_fr (sx_W vw_319g) S0_ Sx48_ := ai_fr_tr hF_ (fr_le hFx50_ rfl)
          have ex53_ : Sx48_.1 13 0 27 = S0_.1 13 0 27 := hFx50_.1 13 0 27 rfl
          have kk_ : lx_kd b_ n_ p_ = 2 := rk_.2.2.1.mp (by omega)
          have hc9_ : p_co b_ n_ p_ = .inr r_ := by have q9_ := hpd_; unfold p_pd at q9_; rw [if_pos kk_] at q9_; exact q9_
          obtain ⟨qa_, qb_, qu_, -, -, -, -, qw_, -, -, hr9_⟩ := co_r hc9_
          have e95_ := px51_
          have gq_ : rg b_ n_ T_ (.inr r_.1) Sx48_ := e95_.1
          obtain ⟨v9_, v91_, v92_, v93_, v94_⟩ : ∃ v9_, ev1 F_ I_ A_ X_ M_ s0_.2.1 s0_.2.2.1 r_.2.2 v9_ ∧ (v9_.length : Int) = r_.2.1 ∧ (1 ≤ v9_.length ∧ v9_.length ≤ 8) ∧ rowv g_.length v9_ (Gr_.length ≤ 1001) S0_ Sx48_ := by have vp_ := lx_vl_0 kk_; rw [hr9_] at e95_ ⊢; refine ⟨c_bt (lx_vl b_ n_ qb_).toNat (lx_vl b_ n_ p_), ev1_cn qw_ vp_, by rw [c_bt_l]; show _ = lx_vl b_ n_ qb_; omega, by rw [c_bt_l]; omega, rowv_of e95_.2 (by rw [c_bt_l]; show lx_vl b_ n_ qb_ = _; omega) (by rw [c_bt_l]; omega) (fun _ k9_ z9_ e9_ => ?_)⟩; unfold c_bt at e9_; rw [List.getElem?_map] at e9_; (by_cases q9_ : k9_ < (lx_vl b_ n_ qb_).toNat); (rw [List.getElem?_range q9_] at e9_; exact Option.some.inj e9_); (rw [List.getElem?_eq_none (by rw [List.length_range]; omega)] at e9_; cases e9_)
          have ws9_ := ws_fr hw_ hFx50_ rfl rfl rfl
          have op9_ := (hFx50_.1 13 0 33 rfl).trans hop_
          have vl9_ := (hFx50_.1 13 0 34 rfl).trans hv_.1
          have mo9_ := (hFx50_.1 13 0 27 rfl).trans hmo1_
          have xr9_ := rgl_fr xr hFx50_ rfl rfl rfl rfl rfl rfl
          have xp_ : xg F_ I_ A_ X_ M_ s0_ (r_.2.1 :: g_) (r_.2.2 ++ c_) Sx48_ := by have q9_ := xg_pu xe_ xv_ v91_ (by omega) v93_ v92_ xr9_ (by rw [Vl_]; exact v94_); rw [xm_] at q9_; exact q9_
          refine sm_T_go 2 (c1 := (131, [some (.inr (.inr (some (13, 0))))], [.inr (.inr (some (13, 0)))], Sx48_)) rfl ?_
          refine sm_T_cal (d1 := 0) (Q1 := vq_292  Sx48_) rfl rfl (by decide) (vc_292  Sx48_ hIx49_ ) (fun u_ Sx54_ px57_ => ?_)
          obtain ⟨rfl, vx59_, rfl, px57_⟩ := px57_
          have e131_ := px57_
          refine sm_T_b0 (a := 0) (z := 17) rfl (fun cx60_ => ?_) (fun cx60_ => ?_)
          · have cx60_ : vx59_ = 0 := of_decide_eq_true cx60_
            exfalso; (rw [if_pos gq_.1] at e131_; omega)
          · have cx60_ : ¬ (vx59_ = 0) := of_decide_eq_false cx60_
            have bx61_ : 0 ≤ Sx48_.1 13 0 34 ∧ Sx48_.1 13 0 34 ≤ 1023 := hIx49_.1 13 0 34 rfl
            refine sm_T_go 4 (c1 := (143, [some (.inr (.inr (some (13, 0))))], [.inl 1, .inl (Sx48_.1 13 0 34), .inr (.inr (some (13, 0)))], Sx48_)) rfl ?_
            refine sm_T_bin (w := (Sx48_.1 13 0 34) + 1) rfl (bi_add (by omega) (by omega) (by omega)) ?_
            have hIx62_ : gi (sm_pI Sx48_ 13 0 34 ((Sx48_.1 13 0 34) + 1)) := gi_pI hIx49_ (show 0 ≤ (Sx48_.1 13 0 34) + 1 ∧ (Sx48_.1 13 0 34) + 1 ≤ 1023 from ⟨by omega, by omega⟩)
            have hFx63_ : ai_fr (sx_W vw_319g) S0_ (sm_pI Sx48_ 13 0 34 ((Sx48_.1 13 0 34) + 1)) := ai_fr_tr hFx52_ (ai_fr_pI rfl)
            refine sm_T_go 2 (c1 := (148, [some (.inr (.inr (some (13, 0))))], [.inr (.inr (some (13, 0)))], sm_pI Sx48_ 13 0 34 ((Sx48_.1 13 0 34) + 1))) rfl ?_
            refine sm_T_cal (d1 := 1) (Q1 := vq_317g b_ n_ T_ F_ I_ A_ X_ M_ s0_ t_ o_ r_.2.1 g_ (r_.2.2 ++ c_) w0_ (sm_pI Sx48_ 13 0 34 ((Sx48_.1 13 0 34) + 1))) rfl rfl (by decide) (vc_317g b_ n_ T_ F_ I_ A_ X_ M_ s0_ t_ o_ r_.2.1 g_ (r_.2.2 ++ c_) w0_ (sm_pI Sx48_ 13 0 34 ((Sx48_.1 13 0 34) + 1)) hIx62_ (by exact ws9_) (by exact hwt_) (by exact hz_.2.1.2.1.1) (by (show _ + 1 = _; omega)) (by exact mo9_) (by omega) (by exact xg_fr (w_ := ([(13, 34)], [], [])) xp_ (ai_fr_pI rfl) rfl rfl rfl rfl rfl rfl rfl rfl)) (fun u_ Sx64_ px67_ => ?_)
            obtain ⟨rfl, hIx65_, hFx66_, px67_⟩ := px67_
            have hFx68_ : ai_fr (sx_W vw_319g) S0_ Sx64_ := ai_fr_tr hFx63_ (fr_le hFx66_ rfl)
            obtain ⟨w1_, ws148_, wl148_, x148_⟩ := px67_
            have g148_ := rg_fr (b_ := b_) (n_ := n_) (T_ := T_) (x_ := .inr r_.1) (S_ := (sm_pI Sx48_ 13 0 34 ((Sx48_.1 13 0 34) + 1))) gq_ hFx66_ rfl rfl rfl
            have op148_ := (hFx66_.1 13 0 33 rfl).trans op9_
            have mo148_ := (hFx66_.1 13 0 27 rfl).trans mo9_
            have vl148_ : Sx64_.1 13 0 34 = (g_.length : Int) + 1 := (hFx66_.1 13 0 34 rfl).trans (by show _ + 1 = _; omega)
            refine sm_T_go 1 (c1 := (152, [some (.inr (.inr (some (13, 0))))], [.inr (.inr (some (13, 0)))], Sx64_)) rfl ?_
            refine sm_T_cal (d1 := 0) (Q1 := vq_292  Sx64_) rfl rfl (by decide) (vc_292  Sx64_ hIx65_ ) (fun u_ Sx69_ px72_ => ?_)
            obtain ⟨rfl, vx74_, rfl, px72_⟩ := px72_
            have e152_ := px72_
            refine sm_T_rz rfl (by (rw [e152_]; split; (right; rfl); (left; rfl))) ⟨_, _, rfl, _, rfl, hIx65_, hFx68_, ?_⟩
            have t1_ : (p_ti false t_ (r_.2.1 :: g_) (r_.2.2 ++ c_)).1 = r_.2.1 :: g_ := by rw [ti2]
            rw [hy_]
            refine ⟨⟨⟨g148_, ⟨w1_, ws148_, Or.inr ⟨rfl, wl148_⟩⟩, op148_, ⟨?_, fun _ => ?_, fun z_ => absurd z_ (by decide)⟩, mo148_⟩, by rw [← hy_]; exact xok_, ?_, ?_⟩, by rw [e152_, if_pos g148_.1]; rfl⟩
            · show _ = ((p_ti false t_ (r_.2.1 :: g_) (r_.2.2 ++ c_)).1.length : Int); rw [t1_, vl148_, List.length_cons]; push_cast; rfl
            · show stk _ (p_ti false t_ (r_.2.1 :: g_) (r_.2.2 ++ c_)).1; rw [t1_]; obtain ⟨G9_, V9_, y1_, y2_, y3_, y4_⟩ := x148_; rw [← y2_]; exact svl_stk y4_
            · show xg F_ I_ A_ X_ M_ s0_ (p_ti false t_ (r_.2.1 :: g_) (r_.2.2 ++ c_)).1 _ _; rw [t1_]; exact x148_
            · show o_wd o_ (p_ti false t_ (r_.2.1 :: g_) (r_.2.2 ++ c_)).1.tail; rw [t1_]; exact hz_.2.2.2
      · have cx16_ : ¬ ((S0_.1 13 0 27) ≠ 2) := of_decide_eq_false cx16_
        exfalso; omega
    · have cx14_ : ¬ (vx13_ = 0) := of_decide_eq_false cx14_
      have k40_ : lx_kd b_ n_ p_ = 40 := e52_.mp (by omega)
      have n60_ : o_mk o_ ≠ 60 := fun z_ => by have q9_ := hst_; rw [pA_x k40_ z_] at q9_; cases q9_
      obtain ⟨q_, hq_, hy_⟩ : ∃ q_, p_ad b_ n_ p_ = .inr q_ ∧ y_ = (0, false, q_, (if t_ = true then -2 else -1, p_) :: o_, g_, c_) := by have q9_ := hst_; rw [pA_o k40_ n60_] at q9_; obtain ⟨q_, q1_, q2_⟩ := pb_inr q9_; cases q2_; exact ⟨q_, q1_, rfl⟩
      refine sm_T_go 2 (c1 := (61, [some (.inr (.inr (some (13, 0))))], [.inl 40, .inr (.inr (some (13, 0)))], S0_)) rfl ?_
      refine sm_T_cal (d1 := 3) (Q1 := vq_318 40 b_ n_ T_ 1 p_ i_ (o_mk o_) w0_ S0_) rfl rfl (by decide) (vc_318 40 b_ n_ T_ 1 p_ i_ (o_mk o_) w0_ S0_ hI_ (by exact ht_) (by exact hf_) (by exact ⟨hi1_, hi2_⟩) (by omega) (by exact hw_) (by omega) (by exact ⟨hop_, hz_.2.1.2.1.2.1⟩) (by decide) (by exact hmo1_)) (fun u_ Sx75_ px78_ => ?_)
      obtain ⟨rfl, hIx76_, hFx77_, px78_⟩ := px78_
      have hFx79_ : ai_fr (sx_W vw_319g) S0_ Sx75_ := ai_fr_tr hF_ (fr_le hFx77_ rfl)
      have e61_ := px78_
      have v61_ := vs_fr hv_ hFx77_ rfl rfl rfl
      have m61_ := (hFx77_.1 13 0 27 rfl).trans hmo1_
      have x61_ := xg_fr hz_.2.2.1 hFx77_ rfl rfl rfl rfl rfl rfl rfl rfl
      refine sm_T_go 1 (c1 := (65, [some (.inr (.inr (some (13, 0))))], [.inl 0], Sx75_)) rfl ?_
      refine sm_T_rz rfl (by omega) ⟨_, _, rfl, _, rfl, hIx76_, hFx79_, ?_⟩
      rw [hy_]
      obtain ⟨z1_, z2_, z3_⟩ := (e61_.2 n60_).2 q_ hq_
      refine ⟨⟨⟨z1_, ⟨_, z2_, Or.inl ⟨rfl, Or.inl ⟨rfl, wl_op hwt_ (rp_rtp ht_ hi2_ (by omega))⟩⟩⟩, ?_, v61_, m61_⟩, by rw [← hy_]; exact xok_, x61_, ?_⟩, rfl⟩
      · rw [z3_]; show _ = (((if (if t_ = true then (-2 : Int) else -1) < 0 then 1 else 0) + o_mk o_ : Nat) : Int); rw [if_pos (by split <;> decide)]; push_cast; omega
      · have q9_ := hz_.2.2.2; show o_wd _ g_; unfold o_wd; have q8_ : (if t_ = true then (-2 : Int) else -1) = -2 ∨ (if t_ = true then (-2 : Int) else -1) = -1 := (by cases t_; right; rfl; left; rfl); rw [if_neg (by show ¬ (if t_ = true then (-2 : Int) else -1) = -3; omega), if_neg (by show ¬ (if t_ = true then (-2 : Int) else -1) = -4; omega), if_pos (by show (if t_ = true then (-2 : Int) else -1) < 0; omega)]; exact q9_
  · have cx7_ : ¬ (vx6_ = 0) := of_decide_eq_false cx7_
    have k33_ : lx_kd b_ n_ p_ = 33 := e3_.mp (by omega)
    obtain ⟨q_, hq_, hy_⟩ : ∃ q_, p_ad b_ n_ p_ = .inr q_ ∧ y_ = (0, !t_, q_, o_, g_, c_) := by have q9_ := hst_; rw [pA_b k33_] at q9_; obtain ⟨q_, q1_, q2_⟩ := pb_inr q9_; cases q2_; exact ⟨q_, q1_, rfl⟩
    refine sm_T_go 1 (c1 := (10, [some (.inr (.inr (some (13, 0))))], [.inr (.inr (some (13, 0)))], S0_)) rfl ?_
    refine sm_T_cal (d1 := 0) (Q1 := vq_312 w0_ S0_) rfl rfl (by decide) (vc_312 w0_ S0_ hI_ (by exact hw_)) (fun u_ Sx80_ px83_ => ?_)
    obtain ⟨rfl, vx85_, rfl, px83_⟩ := px83_
    have e10 := px83_
    refine sm_T_go 1 (c1 := (15, [some (.inr (.inr (some (13, 0))))], [.inl 33, .inl vx85_], S0_)) rfl ?_
    refine sm_T_br (a := 1) (z := 21) rfl (fun cx86_ => ?_) (fun cx86_ => ?_)
    · have cx86_ : vx85_ ≠ 33 := of_decide_eq_true cx86_
      have tf_ := tp_.2 (by omega)
      refine sm_T_go 3 (c1 := (40, [some (.inr (.inr (some (13, 0))))], [.inl 1, .inl 33, .inr (.inr (some (13, 0)))], S0_)) rfl ?_
      refine sm_T_cal (d1 := 0) (Q1 := vq_311 33 1 w0_ S0_) rfl rfl (by decide) (vc_311 33 1 w0_ S0_ hI_ (by exact hw_) (by omega) (by decide) (by decide)) (fun u_ Sx87_ px90_ => ?_)
      obtain ⟨rfl, hIx88_, hFx89_, px90_⟩ := px90_
      have hFx91_ : ai_fr (sx_W vw_319g) S0_ Sx87_ := ai_fr_tr hF_ (fr_le hFx89_ rfl)
      have ws40_ := px90_
      have g40_ := rg_fr hg_ hFx89_ rfl rfl rfl
      have t40_ := rtab_fr ht_ hFx89_ rfl rfl rfl rfl rfl
      have v40_ := vs_fr hv_ hFx89_ rfl rfl rfl
      have op40_ := (hFx89_.1 13 0 33 rfl).trans hop_
      have x40_ := xg_fr hz_.2.2.1 hFx89_ rfl rfl rfl rfl rfl rfl rfl rfl
      refine sm_T_go 1 (c1 := (44, [some (.inr (.inr (some (13, 0))))], [.inr (.inr (some (13, 0)))], Sx87_)) rfl ?_
      refine sm_T_cal (d1 := 2) (Q1 := vq_297 b_ n_ T_ (.inr p_) Sx87_) rfl rfl (by decide) (vc_297 b_ n_ T_ (.inr p_) Sx87_ hIx88_ (by first | exact t40_ | exact rtab_fr ht_ hFx91_ rfl rfl rfl rfl rfl) (by first | exact g40_ | exact hg_) (by (intro q_ e_; cases e_; omega))) (fun u_ Sx92_ px95_ => ?_)
      obtain ⟨rfl, hIx93_, hFx94_, px95_⟩ := px95_
      have hFx96_ : ai_fr (sx_W vw_319g) S0_ Sx92_ := ai_fr_tr hFx91_ (fr_le hFx94_ rfl)
      have g44_ := px95_.1
      rw [pb_r rfl, hq_] at g44_
      first | (have ws44_ := ws_fr ws40_ hFx94_ rfl rfl rfl) | (have ws44_ := ws_fr ws9_ hFx94_ rfl rfl rfl; rw [x6_] at ws44_) | (have ws44_ := ws_fr ws9_ hFx94_ rfl rfl rfl)
      first | (have v44_ := vs_fr v40_ hFx94_ rfl rfl rfl; have op44_ := (hFx94_.1 13 0 33 rfl).trans op40_) | (have v44_ := vs_fr (vs_137 hv_) hFx94_ rfl rfl rfl; have op44_ := (hFx94_.1 13 0 33 rfl).trans hop_)
      first | (have x44_ := xg_fr x40_ hFx94_ rfl rfl rfl rfl rfl rfl rfl rfl) | (have x44_ := xg_fr (S_ := Sx87_) (xg_fr (w_ := ([], [137], [])) hz_.2.2.1 (ai_fr_aI rfl) rfl rfl rfl rfl rfl rfl rfl rfl) hFx94_ rfl rfl rfl rfl rfl rfl rfl rfl)
      refine sm_T_go 1 (c1 := (48, [some (.inr (.inr (some (13, 0))))], [.inl 0], Sx92_)) rfl ?_
      refine sm_T_rz rfl (by omega) ⟨_, _, rfl, _, rfl, hIx93_, hFx96_, ?_⟩
      rw [hy_]
      refine ⟨⟨⟨g44_, ⟨_, ws44_, Or.inl ⟨rfl, ?_⟩⟩, op44_, v44_, (hFx96_.1 13 0 27 rfl).trans hmo1_⟩, by rw [← hy_]; exact xok_, x44_, hz_.2.2.2⟩, rfl⟩
      first | exact Or.inr ⟨u0_, rfl, hu2_⟩ | (refine Or.inr ⟨w0_, ?_, tf_.2⟩; rw [tf_.1]; rfl)
    · have cx86_ : ¬ (vx85_ ≠ 33) := of_decide_eq_false cx86_
      obtain ⟨u0_, hu1_, hu2_⟩ := tp_.1 (by omega)
      subst hu1_
      have wx_ : S0_.1 13 0 32 = (u0_.length : Int) + 1 := by rw [hww_, List.length_cons]; push_cast; rfl
      obtain ⟨-, y9_, u9_, w3_, w4_, w5_⟩ := ws_tp hw_ (by omega)
      cases w3_
      have w6_ : S0_.2.2.1 137 0 (S0_.1 13 0 32 - 1).toNat = (if t_ = true then 1 else 0) := w4_
      have x6_ : i_xor (S0_.2.2.1 137 0 (S0_.1 13 0 32 - 1).toNat) 1 = (if (!t_) = true then 1 else 0) := by rw [w6_]; cases t_; exact x1_b.2; exact x1_b.1
      have x7_ : 0 ≤ i_xor (S0_.2.2.1 137 0 (S0_.1 13 0 32 - 1).toNat) 1 ∧ i_xor (S0_.2.2.1 137 0 (S0_.1 13 0 32 - 1).toNat) 1 ≤ 1280 := by rw [x6_]; cases t_ <;> decide
      have ws9_ := ws_top (z_ := i_xor (S0_.2.2.1 137 0 (S0_.1 13 0 32 - 1).toNat) 1) hw_ w5_
      have bx97_ : 0 ≤ S0_.1 13 0 32 ∧ S0_.1 13 0 32 ≤ 1023 := hI_.1 13 0 32 rfl
      refine sm_T_go 5 (c1 := (27, [some (.inr (.inr (some (13, 0))))], [.inl 1, .inl (S0_.1 13 0 32), .inr (.inr (some (137, 0)))], S0_)) rfl ?_
      refine sm_T_bin (w := (S0_.1 13 0 32) - 1) rfl (bi_sub (by omega) (by omega) (by omega)) ?_
      refine sm_T_go 1 (c1 := (29, [some (.inr (.inr (some (13, 0))))], [.inl ((S0_.1 13 0 32) - 1), .inr (.inr (some (137, 0))), .inl ((S0_.1 13 0 32) - 1), .inr (.inr (some (137, 0)))], S0_)) rfl ?_
      refine sm_T_iald (n := 1024) rfl rfl (by omega) (by omega) ?_
      have bx98_ : 0 ≤ S0_.2.2.1 137 0 ((S0_.1 13 0 32) - 1).toNat ∧ S0_.2.2.1 137 0 ((S0_.1 13 0 32) - 1).toNat ≤ 1280 := hI_.2 137 0 _
      refine sm_T_go 1 (c1 := (31, [some (.inr (.inr (some (13, 0))))], [.inl 1, .inl (S0_.2.2.1 137 0 ((S0_.1 13 0 32) - 1).toNat), .inl ((S0_.1 13 0 32) - 1), .inr (.inr (some (137, 0)))], S0_)) rfl ?_
      refine sm_T_bin (w := (i_xor (S0_.2.2.1 137 0 ((S0_.1 13 0 32) - 1).toNat) 1)) rfl rfl ?_
      refine sm_T_iast (n := 1024) rfl rfl (by omega) (by omega) ?_
      have hIx99_ : gi (sm_aI S0_ 137 0 ((S0_.1 13 0 32) - 1).toNat (i_xor (S0_.2.2.1 137 0 ((S0_.1 13 0 32) - 1).toNat) 1)) := gi_aI hI_ (show 0 ≤ (i_xor (S0_.2.2.1 137 0 ((S0_.1 13 0 32) - 1).toNat) 1) ∧ (i_xor (S0_.2.2.1 137 0 ((S0_.1 13 0 32) - 1).toNat) 1) ≤ 1280 from ⟨by omega, by omega⟩)
      have hFx100_ : ai_fr (sx_W vw_319g) S0_ (sm_aI S0_ 137 0 ((S0_.1 13 0 32) - 1).toNat (i_xor (S0_.2.2.1 137 0 ((S0_.1 13 0 32) - 1).toNat) 1)) := ai_fr_tr hF_ (ai_fr_aI rfl)
      refine sm_T_go 2 (c1 := (44, [some (.inr (.inr (some (13, 0))))], [.inr (.inr (some (13, 0)))], sm_aI S0_ 137 0 ((S0_.1 13 0 32) - 1).toNat (i_xor (S0_.2.2.1 137 0 ((S0_.1 13 0 32) - 1).toNat) 1))) rfl ?_
      refine sm_T_cal (d1 := 2) (Q1 := vq_297 b_ n_ T_ (.inr p_) (sm_aI S0_ 137 0 ((S0_.1 13 0 32) - 1).toNat (i_xor (S0_.2.2.1 137 0 ((S0_.1 13 0 32) - 1).toNat) 1))) rfl rfl (by decide) (vc_297 b_ n_ T_ (.inr p_) (sm_aI S0_ 137 0 ((S0_.1 13 0 32) - 1).toNat (i_xor (S0_.2.2.1 137 0 ((S0_.1 13 0 32) - 1).toNat) 1)) hIx99_ (by first | exact t40_ | exact rtab_fr ht_ hFx100_ rfl rfl rfl rfl rfl) (by first | exact g40_ | exact hg_) (by (intro q_ e_; cases e_; omega))) (fun u_ Sx101_ px104_ => ?_)
      obtain ⟨rfl, hIx102_, hFx103_, px104_⟩ := px104_
      have hFx105_ : ai_fr (sx_W vw_319g) S0_ Sx101_ := ai_fr_tr hFx100_ (fr_le hFx103_ rfl)
      have g44_ := px104_.1
      rw [pb_r rfl, hq_] at g44_
      first | (have ws44_ := ws_fr ws40_ hFx103_ rfl rfl rfl) | (have ws44_ := ws_fr ws9_ hFx103_ rfl rfl rfl; rw [x6_] at ws44_) | (have ws44_ := ws_fr ws9_ hFx103_ rfl rfl rfl)
      first | (have v44_ := vs_fr v40_ hFx103_ rfl rfl rfl; have op44_ := (hFx103_.1 13 0 33 rfl).trans op40_) | (have v44_ := vs_fr (vs_137 hv_) hFx103_ rfl rfl rfl; have op44_ := (hFx103_.1 13 0 33 rfl).trans hop_)
      first | (have x44_ := xg_fr x40_ hFx103_ rfl rfl rfl rfl rfl rfl rfl rfl) | (have x44_ := xg_fr (S_ := (sm_aI S0_ 137 0 ((S0_.1 13 0 32) - 1).toNat (i_xor (S0_.2.2.1 137 0 ((S0_.1 13 0 32) - 1).toNat) 1))) (xg_fr (w_ := ([], [137], [])) hz_.2.2.1 (ai_fr_aI rfl) rfl rfl rfl rfl rfl rfl rfl rfl) hFx103_ rfl rfl rfl rfl rfl rfl rfl rfl)
      refine sm_T_go 1 (c1 := (48, [some (.inr (.inr (some (13, 0))))], [.inl 0], Sx101_)) rfl ?_
      refine sm_T_rz rfl (by omega) ⟨_, _, rfl, _, rfl, hIx102_, hFx105_, ?_⟩
      rw [hy_]
      refine ⟨⟨⟨g44_, ⟨_, ws44_, Or.inl ⟨rfl, ?_⟩⟩, op44_, v44_, (hFx105_.1 13 0 27 rfl).trans hmo1_⟩, by rw [← hy_]; exact xok_, x44_, hz_.2.2.2⟩, rfl⟩
      first | exact Or.inr ⟨u0_, rfl, hu2_⟩ | (refine Or.inr ⟨w0_, ?_, tf_.2⟩; rw [tf_.1]; rfl)
end
