/-! 99.y5a -/
section
/-! the reference: applying; written by wip/p55/gen/vg -/

/-! states of_ the_ reference's parser -/
def rx (b_ : Nat → Int) (n_ T_ : Nat) (mo_ : Int) (t_ : Bool) (ph_ p_ : Nat) (o_ : List (Int × Nat)) (g_ : List Int) (S_ : sm_S) : Prop := rg b_ n_ T_ (.inr p_) S_ ∧ (∃ w_, ws w_ S_ ∧ ((ph_ = 0 ∧ wt b_ n_ T_ t_ o_ w_) ∨ (ph_ = 1 ∧ wl b_ n_ T_ o_ w_))) ∧ S_.1 13 0 33 = (o_mk o_ : Int) ∧ vs mo_ g_ S_ ∧ S_.1 13 0 27 = mo_
def rwr (mo_ : Int) (e_ : Int × Nat) (S_ : sm_S) : Prop := S_.1 13 0 10 = e_.1 ∧ S_.1 13 0 11 = (e_.2 : Int) ∧ e_.1 ≠ 0 ∧ S_.1 13 0 32 ≤ 800 ∧ S_.1 13 0 27 = mo_
def ry (b_ : Nat → Int) (n_ T_ : Nat) (mo_ : Int) (p_ : Nat) (y_ : pE pO) (S_ : sm_S) : Prop := match y_ with
  | .inl e_ => rwr mo_ e_ S_
  | .inr s_ => rx b_ n_ T_ mo_ false 1 p_ s_.1 s_.2.1 S_ ∧ s_ok (mdo mo_) 1 s_
theorem stk_8p {S_ : sm_S} {k_ : Nat} {z_ a_ : Int} {l_ : List Int} (hk_ : k_ = 8 * l_.length) (hz_ : z_ = a_) (h_ : stk (fun j_ => S_.2.2.1 139 0 (8 * j_)) l_) : stk (fun j_ => (sm_aI S_ 139 0 k_ z_).2.2.1 139 0 (8 * j_)) (a_ :: l_) := by
  refine ⟨?_, stk_cg (fun j_ hj_ => ?_) h_⟩
  · show (sm_aI S_ 139 0 k_ z_).2.2.1 139 0 (8 * l_.length) = a_
    rw [rd_eq, if_pos hk_.symm, hz_]
  · show (sm_aI S_ 139 0 k_ z_).2.2.1 139 0 (8 * j_) = _
    rw [rd_eq, if_neg (by omega)]
theorem stk_8o {S_ : sm_S} {t_ k_ : Nat} {z_ : Int} {l_ : List Int} (h_ : stk (fun j_ => S_.2.2.1 139 0 (8 * j_)) l_) (ht_ : 139 ≠ t_) : stk (fun j_ => (sm_aI S_ t_ 0 k_ z_).2.2.1 139 0 (8 * j_)) l_ :=
  stk_cg (fun j_ _ => rd_ne ht_) h_
theorem rtp_at {b_ : Nat → Int} {n_ T_ p_ : Nat} {t_ : Int} {S_ : sm_S} (h_ : rtab b_ n_ T_ S_) (r_ : rtp b_ n_ T_ t_ p_) : (0 ≤ t_ ∧ t_ ≤ 1280) ∧ S_.2.2.1 120 0 t_.toNat = (p_ : Int) := by
  obtain ⟨i_, h1_, h2_, h3_, h4_⟩ := r_
  have hT_ := h_.2.1
  have t2_ := (h_.2.2.1.1 i_ h2_).2
  rw [← h3_] at t2_
  rw [show t_.toNat = i_ by omega]
  exact ⟨by omega, t2_.1⟩
theorem ry_r {b_ : Nat → Int} {n_ T_ p_ : Nat} {mo_ : Int} {y_ : pE pO} {S_ : sm_S} (h_ : ry b_ n_ T_ mo_ p_ y_ S_) (h0_ : S_.1 13 0 10 = 0) : ∃ s_, y_ = .inr s_ := by
  cases y_ with
  | inl e_ => exact absurd (h_.1.symm.trans h0_) h_.2.2.1
  | inr s_ => exact ⟨s_, rfl⟩
theorem ry_w {b_ : Nat → Int} {n_ T_ p_ : Nat} {mo_ : Int} {y_ : pE pO} {S_ : sm_S} (h_ : ry b_ n_ T_ mo_ p_ y_ S_) (h0_ : S_.1 13 0 10 ≠ 0) : ∃ e_, y_ = .inl e_ := by
  cases y_ with
  | inl e_ => exact ⟨e_, rfl⟩
  | inr s_ => exact absurd h_.1.1.1 h0_
def p_ap2 (md_ : Bool) (k_ : Int) (q_ : Nat) (o_ : List (Int × Nat)) (a_ b_ : Int) (g_ c_ : List Int) : pE pO := pb (p_ap md_ k_ q_ a_ b_ c_) fun r_ => .inr (o_, r_.1 :: g_, r_.2)
/-! M_.apply -/
def vw_313 : sx_Wl := ([(13, 10), (13, 11), (13, 32), (13, 34)], [138, 139], [])
def vq_313 (b_ : Nat → Int) (n_ : Nat) (T_ : Nat) (mo_ : Int) (p_ : Nat) (k_ : Int) (q_ : Nat) (o_ : List (Int × Nat)) (x_ : Int) (y_ : Int) (g_ : List Int) (c_ : List Int) (S0_ : sm_S) (u_ : Option sm_V) (S1_ : sm_S) : Prop := u_ = none ∧ gi S1_ ∧ ai_fr (sx_W vw_313) S0_ S1_ ∧ (ry b_ n_ T_ mo_ p_ (p_ap2 (mdo mo_) k_ q_ o_ x_ y_ g_ c_) S1_ ∧ (S1_.1 13 0 32) = (S0_.1 13 0 32) - 1)
set_option maxHeartbeats 1500000 in
set_option maxRecDepth 20000 in
theorem vc_313 {sc_ : Nat × (Nat → Int)} (b_ : Nat → Int) (n_ : Nat) (T_ : Nat) (mo_ : Int) (p_ : Nat) (k_ : Int) (q_ : Nat) (o_ : List (Int × Nat)) (x_ : Int) (y_ : Int) (g_ : List Int) (c_ : List Int) (S0_ : sm_S) (hI_ : gi S0_) (ht_ : rtab b_ n_ T_ S0_) (hy_ : ry b_ n_ T_ mo_ p_ (.inr ((k_, q_) :: o_, y_ :: x_ :: g_, c_)) S0_) (hk_ : 1 ≤ k_) (hmo_ : mo_ = 0 ∨ mo_ = 2) : sm_T (mt_P sc_) 1 313 (0, [some (.inr (.inr (some (13, 0)))), none, none, none, none, none, none], [], S0_) (fun r_ => ∃ u_ S1_, r_ = (.inl u_, S1_, 0) ∧ vq_313 b_ n_ T_ mo_ p_ k_ q_ o_ x_ y_ g_ c_ S0_ u_ S1_) := by
  have hF_ : ai_fr (sx_W vw_313) S0_ S0_ := ai_fr_rf
  obtain ⟨⟨hg_, ⟨w0_, hw_, hwl_⟩, hop_, hv_, hmo1_⟩, hs_⟩ := id hy_
  have hwl_ : wl b_ n_ T_ ((k_, q_) :: o_) w0_ := by rcases hwl_ with z_ | z_; (exact absurd z_.1 (by decide)); (exact z_.2)
  obtain ⟨tq_, u0_, rfl, hq_, hwr_⟩ := hwl_
  have hT_ := ht_.2.1
  have hq1_ := rtp_at ht_ hq_
  obtain ⟨v1_, v2_, v3_⟩ := id hv_
  have w1_ := ws_tp hw_ (by rw [hw_.1, List.length_cons]; push_cast; omega)
  obtain ⟨y9_, u9_, w3_, w4_, w5_⟩ := w1_.2
  cases w3_
  have hwl1_ : S0_.1 13 0 32 = (u0_.length : Int) + 1 := by rw [hw_.1, List.length_cons]; push_cast; rfl
  have hf0_ := hg_.1
  have hol_ := o_lim hs_.1 hs_.2.1
  have hwr1_ : wl b_ n_ T_ o_ u0_ := by rcases hwr_ with z_ | z_; (exact z_.2); (exact absurd z_.1 (by omega))
  clear hwr_
  have v4_ : S0_.1 13 0 34 = (g_.length : Int) + 2 := by rw [v1_]; simp only [List.length_cons]; push_cast; omega
  have l1_ : (S0_.1 13 0 34 - 2).toNat = g_.length := by omega
  have l2_ : (S0_.1 13 0 34 - 1).toNat = (x_ :: g_).length := by simp only [List.length_cons]; omega
  have l3_ : (8 * (S0_.1 13 0 34) - 16).toNat = 8 * g_.length := by omega
  have l4_ : (8 * (S0_.1 13 0 34) - 8).toNat = 8 * (x_ :: g_).length := by simp only [List.length_cons]; omega
  have e1_ : mo_ ≠ 2 → S0_.2.2.1 138 0 (S0_.1 13 0 34 - 2).toNat = x_ ∧ S0_.2.2.1 138 0 (S0_.1 13 0 34 - 1).toNat = y_ := fun z_ => by rw [l1_, l2_]; exact ⟨(v2_ z_).2.1, (v2_ z_).1⟩
  have e2_ : mo_ = 2 → S0_.2.2.1 139 0 (8 * (S0_.1 13 0 34) - 16).toNat = x_ ∧ S0_.2.2.1 139 0 (8 * (S0_.1 13 0 34) - 8).toNat = y_ := fun z_ => by rw [l3_, l4_]; exact ⟨(v3_ z_).2.1, (v3_ z_).1⟩
  have wsg_ : S0_.2.2.1 136 0 (S0_.1 13 0 32 - 1).toNat = w_sg k_ := w1_.1
  have wtk_ : S0_.2.2.1 137 0 (S0_.1 13 0 32 - 1).toNat = tq_ := w4_
  have hul_ : u0_.length ≤ 731 := by have := wl_len hwr1_; have h9_ : ((k_, q_) :: o_).length ≤ 365 := hol_.1; simp only [List.length_cons] at h9_; omega
  have hgl_ : (y_ :: x_ :: g_).length = o_hl ((k_, q_) :: o_) + 1 := hs_.2.2.1
  have hgl2_ : o_hl ((k_, q_) :: o_) ≤ 425 := hol_.2
  simp only [List.length_cons] at hgl_
  have bx1_ : 0 ≤ S0_.1 13 0 32 ∧ S0_.1 13 0 32 ≤ 1023 := hI_.1 13 0 32 rfl
  refine sm_T_go 5 (c1 := (9, [some (.inr (.inr (some (13, 0)))), none, none, none, none, none, none], [.inl 1, .inl (S0_.1 13 0 32), .inr (.inr (some (136, 0)))], S0_)) rfl ?_
  refine sm_T_bin (w := (S0_.1 13 0 32) - 1) rfl (bi_sub (by omega) (by omega) (by omega)) ?_
  refine sm_T_iald (n := 1024) rfl rfl (by omega) (by omega) ?_
  have bx2_ : (-2147483648) ≤ S0_.2.2.1 136 0 ((S0_.1 13 0 32) - 1).toNat ∧ S0_.2.2.1 136 0 ((S0_.1 13 0 32) - 1).toNat ≤ 2147483647 := hI_.2 136 0 _
  refine sm_T_go 6 (c1 := (21, [some (.inr (.inr (some (13, 0)))), some (.inl (S0_.2.2.1 136 0 ((S0_.1 13 0 32) - 1).toNat)), none, none, none, none, none], [.inl 1, .inl (S0_.1 13 0 32), .inr (.inr (some (137, 0)))], S0_)) rfl ?_
  refine sm_T_bin (w := (S0_.1 13 0 32) - 1) rfl (bi_sub (by omega) (by omega) (by omega)) ?_
  refine sm_T_iald (n := 1024) rfl rfl (by omega) (by omega) ?_
  have bx3_ : 0 ≤ S0_.2.2.1 137 0 ((S0_.1 13 0 32) - 1).toNat ∧ S0_.2.2.1 137 0 ((S0_.1 13 0 32) - 1).toNat ≤ 1280 := hI_.2 137 0 _
  refine sm_T_go 5 (c1 := (30, [some (.inr (.inr (some (13, 0)))), some (.inl (S0_.2.2.1 136 0 ((S0_.1 13 0 32) - 1).toNat)), some (.inl (S0_.2.2.1 137 0 ((S0_.1 13 0 32) - 1).toNat)), none, none, none, none], [.inl 1, .inl (S0_.1 13 0 32), .inr (.inr (some (13, 0)))], S0_)) rfl ?_
  refine sm_T_bin (w := (S0_.1 13 0 32) - 1) rfl (bi_sub (by omega) (by omega) (by omega)) ?_
  have hIx4_ : gi (sm_pI S0_ 13 0 32 ((S0_.1 13 0 32) - 1)) := gi_pI hI_ (show 0 ≤ (S0_.1 13 0 32) - 1 ∧ (S0_.1 13 0 32) - 1 ≤ 1023 from ⟨by omega, by omega⟩)
  have hFx5_ : ai_fr (sx_W vw_313) S0_ (sm_pI S0_ 13 0 32 ((S0_.1 13 0 32) - 1)) := ai_fr_tr hF_ (ai_fr_pI rfl)
  have bx6_ : 0 ≤ S0_.1 13 0 34 ∧ S0_.1 13 0 34 ≤ 1023 := hI_.1 13 0 34 rfl
  refine sm_T_go 4 (c1 := (39, [some (.inr (.inr (some (13, 0)))), some (.inl (S0_.2.2.1 136 0 ((S0_.1 13 0 32) - 1).toNat)), some (.inl (S0_.2.2.1 137 0 ((S0_.1 13 0 32) - 1).toNat)), none, none, none, none], [.inl 2, .inl (S0_.1 13 0 34)], sm_pI S0_ 13 0 32 ((S0_.1 13 0 32) - 1))) rfl ?_
  refine sm_T_bin (w := (S0_.1 13 0 34) - 2) rfl (bi_sub (by omega) (by omega) (by omega)) ?_
  refine sm_T_go 4 (c1 := (46, [some (.inr (.inr (some (13, 0)))), some (.inl (S0_.2.2.1 136 0 ((S0_.1 13 0 32) - 1).toNat)), some (.inl (S0_.2.2.1 137 0 ((S0_.1 13 0 32) - 1).toNat)), some (.inl ((S0_.1 13 0 34) - 2)), none, none, none], [.inl 1, .inl (S0_.1 13 0 34)], sm_pI S0_ 13 0 32 ((S0_.1 13 0 32) - 1))) rfl ?_
  refine sm_T_bin (w := (S0_.1 13 0 34) - 1) rfl (bi_sub (by omega) (by omega) (by omega)) ?_
  have bx7_ : 0 ≤ S0_.1 13 0 27 ∧ S0_.1 13 0 27 ≤ 2 := hI_.1 13 0 27 rfl
  refine sm_T_go 4 (c1 := (54, [some (.inr (.inr (some (13, 0)))), some (.inl (S0_.2.2.1 136 0 ((S0_.1 13 0 32) - 1).toNat)), some (.inl (S0_.2.2.1 137 0 ((S0_.1 13 0 32) - 1).toNat)), some (.inl ((S0_.1 13 0 34) - 2)), some (.inl ((S0_.1 13 0 34) - 1)), none, none], [.inl 2, .inl (S0_.1 13 0 27)], sm_pI S0_ 13 0 32 ((S0_.1 13 0 32) - 1))) rfl ?_
  refine sm_T_br (a := 3) (z := 26) rfl (fun cx8_ => ?_) (fun cx8_ => ?_)
  · have cx8_ : 2 ≤ (S0_.1 13 0 27) := of_decide_eq_true cx8_
    refine sm_T_go 3 (c1 := (85, [some (.inr (.inr (some (13, 0)))), some (.inl (S0_.2.2.1 136 0 ((S0_.1 13 0 32) - 1).toNat)), some (.inl (S0_.2.2.1 137 0 ((S0_.1 13 0 32) - 1).toNat)), some (.inl ((S0_.1 13 0 34) - 2)), some (.inl ((S0_.1 13 0 34) - 1)), none, none], [.inl 1, .inl (S0_.1 13 0 27)], sm_pI S0_ 13 0 32 ((S0_.1 13 0 32) - 1))) rfl ?_
    refine sm_T_br (a := 1) (z := 11) rfl (fun cx9_ => ?_) (fun cx9_ => ?_)
    · have cx9_ : (S0_.1 13 0 27) ≠ 1 := of_decide_eq_true cx9_
      refine sm_T_go 3 (c1 := (101, [some (.inr (.inr (some (13, 0)))), some (.inl (S0_.2.2.1 136 0 ((S0_.1 13 0 32) - 1).toNat)), some (.inl (S0_.2.2.1 137 0 ((S0_.1 13 0 32) - 1).toNat)), some (.inl ((S0_.1 13 0 34) - 2)), some (.inl ((S0_.1 13 0 34) - 1)), none, none], [.inl 2, .inl (S0_.1 13 0 27)], sm_pI S0_ 13 0 32 ((S0_.1 13 0 32) - 1))) rfl ?_
      refine sm_T_br (a := 1) (z := 68) rfl (fun cx10_ => ?_) (fun cx10_ => ?_)
      · have cx10_ : (S0_.1 13 0 27) ≠ 2 := of_decide_eq_true cx10_
        refine sm_T_go 5 (c1 := (178, [some (.inr (.inr (some (13, 0)))), some (.inl (S0_.2.2.1 136 0 ((S0_.1 13 0 32) - 1).toNat)), some (.inl (S0_.2.2.1 137 0 ((S0_.1 13 0 32) - 1).toNat)), some (.inl ((S0_.1 13 0 34) - 2)), some (.inl ((S0_.1 13 0 34) - 1)), none, none], [.inl 257, .inl (S0_.2.2.1 136 0 ((S0_.1 13 0 32) - 1).toNat), .inl ((S0_.1 13 0 34) - 2), .inr (.inr (some (138, 0)))], sm_pI S0_ 13 0 32 ((S0_.1 13 0 32) - 1))) rfl ?_
        refine sm_T_br (a := 1) (z := 7) rfl (fun cx11_ => ?_) (fun cx11_ => ?_)
        · have cx11_ : (S0_.2.2.1 136 0 ((S0_.1 13 0 32) - 1).toNat) ≠ 257 := of_decide_eq_true cx11_
          refine sm_T_go 3 (c1 := (190, [some (.inr (.inr (some (13, 0)))), some (.inl (S0_.2.2.1 136 0 ((S0_.1 13 0 32) - 1).toNat)), some (.inl (S0_.2.2.1 137 0 ((S0_.1 13 0 32) - 1).toNat)), some (.inl ((S0_.1 13 0 34) - 2)), some (.inl ((S0_.1 13 0 34) - 1)), none, none], [.inl ((S0_.1 13 0 34) - 2), .inr (.inr (some (138, 0))), .inl ((S0_.1 13 0 34) - 2), .inr (.inr (some (138, 0)))], sm_pI S0_ 13 0 32 ((S0_.1 13 0 32) - 1))) rfl ?_
          refine sm_T_iald (n := 1024) rfl rfl (by omega) (by omega) ?_
          have bx12_ : (-2147483648) ≤ S0_.2.2.1 138 0 ((S0_.1 13 0 34) - 2).toNat ∧ S0_.2.2.1 138 0 ((S0_.1 13 0 34) - 2).toNat ≤ 2147483647 := hI_.2 138 0 _
          refine sm_T_iast (n := 1024) rfl rfl (by omega) (by omega) ?_
          have hIx13_ : gi (sm_aI (sm_pI S0_ 13 0 32 ((S0_.1 13 0 32) - 1)) 138 0 ((S0_.1 13 0 34) - 2).toNat (S0_.2.2.1 138 0 ((S0_.1 13 0 34) - 2).toNat)) := gi_aI hIx4_ (show (-2147483648) ≤ (S0_.2.2.1 138 0 ((S0_.1 13 0 34) - 2).toNat) ∧ (S0_.2.2.1 138 0 ((S0_.1 13 0 34) - 2).toNat) ≤ 2147483647 from ⟨by omega, by omega⟩)
          have hFx14_ : ai_fr (sx_W vw_313) S0_ (sm_aI (sm_pI S0_ 13 0 32 ((S0_.1 13 0 32) - 1)) 138 0 ((S0_.1 13 0 34) - 2).toNat (S0_.2.2.1 138 0 ((S0_.1 13 0 34) - 2).toNat)) := ai_fr_tr hFx5_ (ai_fr_aI rfl)
          refine sm_T_go 4 (c1 := (198, [some (.inr (.inr (some (13, 0)))), some (.inl (S0_.2.2.1 136 0 ((S0_.1 13 0 32) - 1).toNat)), some (.inl (S0_.2.2.1 137 0 ((S0_.1 13 0 32) - 1).toNat)), some (.inl ((S0_.1 13 0 34) - 2)), some (.inl ((S0_.1 13 0 34) - 1)), none, none], [.inl 1, .inl (S0_.1 13 0 34), .inr (.inr (some (13, 0)))], sm_aI (sm_pI S0_ 13 0 32 ((S0_.1 13 0 32) - 1)) 138 0 ((S0_.1 13 0 34) - 2).toNat (S0_.2.2.1 138 0 ((S0_.1 13 0 34) - 2).toNat))) rfl ?_
          refine sm_T_bin (w := (S0_.1 13 0 34) - 1) rfl (bi_sub (by omega) (by omega) (by omega)) ?_
          have hIx15_ : gi (sm_pI (sm_aI (sm_pI S0_ 13 0 32 ((S0_.1 13 0 32) - 1)) 138 0 ((S0_.1 13 0 34) - 2).toNat (S0_.2.2.1 138 0 ((S0_.1 13 0 34) - 2).toNat)) 13 0 34 ((S0_.1 13 0 34) - 1)) := gi_pI hIx13_ (show 0 ≤ (S0_.1 13 0 34) - 1 ∧ (S0_.1 13 0 34) - 1 ≤ 1023 from ⟨by omega, by omega⟩)
          have hFx16_ : ai_fr (sx_W vw_313) S0_ (sm_pI (sm_aI (sm_pI S0_ 13 0 32 ((S0_.1 13 0 32) - 1)) 138 0 ((S0_.1 13 0 34) - 2).toNat (S0_.2.2.1 138 0 ((S0_.1 13 0 34) - 2).toNat)) 13 0 34 ((S0_.1 13 0 34) - 1)) := ai_fr_tr hFx14_ (ai_fr_pI rfl)
          refine sm_T_go 1 (c1 := (202, [some (.inr (.inr (some (13, 0)))), some (.inl (S0_.2.2.1 136 0 ((S0_.1 13 0 32) - 1).toNat)), some (.inl (S0_.2.2.1 137 0 ((S0_.1 13 0 32) - 1).toNat)), some (.inl ((S0_.1 13 0 34) - 2)), some (.inl ((S0_.1 13 0 34) - 1)), none, none], [], sm_pI (sm_aI (sm_pI S0_ 13 0 32 ((S0_.1 13 0 32) - 1)) 138 0 ((S0_.1 13 0 34) - 2).toNat (S0_.2.2.1 138 0 ((S0_.1 13 0 34) - 2).toNat)) 13 0 34 ((S0_.1 13 0 34) - 1))) rfl ?_
          refine sm_T_rv rfl ⟨_, _, rfl, rfl, hIx15_, hFx16_, ?_⟩
          refine ⟨?_, by first | rfl | ((try simp only [rd_eq, rd_ne, rf_eq, rf_nk, rf_nt, rd_fa, rd_af, rd_fl, rd_al, rd_lf, rd_la, rd_leq, rd_lne, rd_fr, rd_ar, ne_eq, Nat.reduceEqDiff, not_false_eq_true]); omega)⟩
          first | (exfalso; omega) | (have e0_ := e1_ (by omega); have mz_ : ¬ mdo mo_ = true := (by unfold mdo; rw [decide_eq_false (by omega)]; decide); have hp_ : p_ap2 (mdo mo_) k_ q_ o_ x_ y_ g_ c_ = .inr (o_, (if k_ = 4 then 1 else x_) :: g_, k_ :: c_) := (by unfold p_ap2 p_ap; rw [if_neg mz_, if_pos (by omega)]; rfl); rw [hp_]; refine ⟨⟨hg_, ⟨u0_, ⟨by (try simp only [rd_eq, rd_ne, rf_eq, rf_nk, rf_nt, rd_fa, rd_af, rd_fl, rd_al, rd_lf, rd_la, rd_leq, rd_lne, rd_fr, rd_ar, ne_eq, Nat.reduceEqDiff, not_false_eq_true]); omega, by rw [fr_arr hFx16_ rfl]; exact hw_.2.1.2, by rw [fr_arr hFx16_ rfl]; exact hw_.2.2.2⟩, Or.inr ⟨rfl, hwr1_⟩⟩, (hFx16_.1 13 0 33 rfl).trans (hop_.trans (by show (((if k_ < 0 then 1 else 0) + o_mk o_ : Nat) : Int) = _; rw [if_neg (by omega)]; simp)), ⟨?_, ?_, ?_⟩, (hFx16_.1 13 0 27 rfl).trans hmo1_⟩, s_ok_ap hk_ (by have xb_ := (h_ok_c.mp (h_ok_c.mp hs_.2.2.2).2).1; split; decide; exact xb_) hs_⟩; ((try simp only [rd_eq, rd_ne, rf_eq, rf_nk, rf_nt, rd_fa, rd_af, rd_fl, rd_al, rd_lf, rd_la, rd_leq, rd_lne, rd_fr, rd_ar, ne_eq, Nat.reduceEqDiff, not_false_eq_true]); simp only [List.length_cons]; push_cast; omega); (intro z_; refine stk_pu l1_ ?_ (v2_ z_).2.2; have q257_ := (w_sg_b (md_ := mdo mo_) (k_ := k_) (Or.inr (Or.inr (Or.inr ⟨hk_, (o_ok_lt hs_.1 hk_).2⟩)))).2.2.2.1; first | (rw [if_pos (by omega)]) | (rw [if_neg (by omega)]; exact e0_.1)); (intro z_; omega)) | (have e0_ := e2_ (by omega); have mz_ : mdo mo_ = true := (by unfold mdo; exact decide_eq_true (by omega)); have hp_ : p_ap2 (mdo mo_) k_ q_ o_ x_ y_ g_ c_ = .inr (o_, p_lo k_ x_ y_ :: g_, c_) := (by unfold p_ap2 p_ap; rw [if_pos mz_]; rfl); rw [hp_]; refine ⟨⟨hg_, ⟨u0_, ⟨by (try simp only [rd_eq, rd_ne, rf_eq, rf_nk, rf_nt, rd_fa, rd_af, rd_fl, rd_al, rd_lf, rd_la, rd_leq, rd_lne, rd_fr, rd_ar, ne_eq, Nat.reduceEqDiff, not_false_eq_true]); omega, by rw [fr_arr hFx16_ rfl]; exact hw_.2.1.2, by rw [fr_arr hFx16_ rfl]; exact hw_.2.2.2⟩, Or.inr ⟨rfl, hwr1_⟩⟩, (hFx16_.1 13 0 33 rfl).trans (hop_.trans (by show (((if k_ < 0 then 1 else 0) + o_mk o_ : Nat) : Int) = _; rw [if_neg (by omega)]; simp)), ⟨?_, ?_, ?_⟩, (hFx16_.1 13 0 27 rfl).trans hmo1_⟩, s_ok_ap hk_ (p_lo_b (h_ok_c.mp (h_ok_c.mp hs_.2.2.2).2).1 (h_ok_c.mp hs_.2.2.2).1) hs_⟩; ((try simp only [rd_eq, rd_ne, rf_eq, rf_nk, rf_nt, rd_fa, rd_af, rd_fl, rd_al, rd_lf, rd_la, rd_leq, rd_lne, rd_fr, rd_ar, ne_eq, Nat.reduceEqDiff, not_false_eq_true]); simp only [List.length_cons]; push_cast; omega); (intro z_; omega); (intro z_; refine stk_8o (stk_8p l3_ ?_ (v3_ z_).2.2) (by decide); unfold p_lo; rw [e0_.1, e0_.2]; have q124_ := (w_sg_b (md_ := mdo mo_) (k_ := k_) (Or.inr (Or.inr (Or.inr ⟨hk_, (o_ok_lt hs_.1 hk_).2⟩)))).2.2.2.2.2.2.2; first | (rw [if_pos (by omega)]) | (rw [if_neg (by omega), if_pos (by omega)]) | (rw [if_neg (by omega), if_neg (by omega)]))) | (have e0_ := e1_ (by omega); have mz_ : ¬ mdo mo_ = true := (by unfold mdo; rw [decide_eq_false (by omega)]; decide); have hp_ : p_ap2 (mdo mo_) k_ q_ o_ x_ y_ g_ c_ = .inl (13, q_) := (by unfold p_ap2 p_ap; rw [if_neg mz_, if_neg (by omega)]; rfl); rw [hp_]; rcases e77_ with z_ | z_; (exact absurd hf0_ z_.1); (refine ⟨z_.2.1, ?_, by show (13 : Int) ≠ 0; decide, ?_, md77_⟩; (refine Eq.trans z_.2.2 ?_; show S0_.2.2.1 120 0 (S0_.2.2.1 137 0 (S0_.1 13 0 32 - 1).toNat).toNat = _; rw [wtk_]; exact hq1_.2); ((try simp only [rd_eq, rd_ne, rf_eq, rf_nk, rf_nt, rd_fa, rd_af, rd_fl, rd_al, rd_lf, rd_la, rd_leq, rd_lne, rd_fr, rd_ar, ne_eq, Nat.reduceEqDiff, not_false_eq_true]); omega)))
        · have cx11_ : ¬ ((S0_.2.2.1 136 0 ((S0_.1 13 0 32) - 1).toNat) ≠ 257) := of_decide_eq_false cx11_
          refine sm_T_go 2 (c1 := (191, [some (.inr (.inr (some (13, 0)))), some (.inl (S0_.2.2.1 136 0 ((S0_.1 13 0 32) - 1).toNat)), some (.inl (S0_.2.2.1 137 0 ((S0_.1 13 0 32) - 1).toNat)), some (.inl ((S0_.1 13 0 34) - 2)), some (.inl ((S0_.1 13 0 34) - 1)), none, none], [.inl 1, .inl ((S0_.1 13 0 34) - 2), .inr (.inr (some (138, 0)))], sm_pI S0_ 13 0 32 ((S0_.1 13 0 32) - 1))) rfl ?_
          refine sm_T_iast (n := 1024) rfl rfl (by omega) (by omega) ?_
          have hIx17_ : gi (sm_aI (sm_pI S0_ 13 0 32 ((S0_.1 13 0 32) - 1)) 138 0 ((S0_.1 13 0 34) - 2).toNat 1) := gi_aI hIx4_ (show (-2147483648) ≤ 1 ∧ 1 ≤ 2147483647 from ⟨by omega, by omega⟩)
          have hFx18_ : ai_fr (sx_W vw_313) S0_ (sm_aI (sm_pI S0_ 13 0 32 ((S0_.1 13 0 32) - 1)) 138 0 ((S0_.1 13 0 34) - 2).toNat 1) := ai_fr_tr hFx5_ (ai_fr_aI rfl)
          refine sm_T_go 4 (c1 := (198, [some (.inr (.inr (some (13, 0)))), some (.inl (S0_.2.2.1 136 0 ((S0_.1 13 0 32) - 1).toNat)), some (.inl (S0_.2.2.1 137 0 ((S0_.1 13 0 32) - 1).toNat)), some (.inl ((S0_.1 13 0 34) - 2)), some (.inl ((S0_.1 13 0 34) - 1)), none, none], [.inl 1, .inl (S0_.1 13 0 34), .inr (.inr (some (13, 0)))], sm_aI (sm_pI S0_ 13 0 32 ((S0_.1 13 0 32) - 1)) 138 0 ((S0_.1 13 0 34) - 2).toNat 1)) rfl ?_
          refine sm_T_bin (w := (S0_.1 13 0 34) - 1) rfl (bi_sub (by omega) (by omega) (by omega)) ?_
          have hIx19_ : gi (sm_pI (sm_aI (sm_pI S0_ 13 0 32 ((S0_.1 13 0 32) - 1)) 138 0 ((S0_.1 13 0 34) - 2).toNat 1) 13 0 34 ((S0_.1 13 0 34) - 1)) := gi_pI hIx17_ (show 0 ≤ (S0_.1 13 0 34) - 1 ∧ (S0_.1 13 0 34) - 1 ≤ 1023 from ⟨by omega, by omega⟩)
          have hFx20_ : ai_fr (sx_W vw_313) S0_ (sm_pI (sm_aI (sm_pI S0_ 13 0 32 ((S0_.1 13 0 32) - 1)) 138 0 ((S0_.1 13 0 34) - 2).toNat 1) 13 0 34 ((S0_.1 13 0 34) - 1)) := ai_fr_tr hFx18_ (ai_fr_pI rfl)
          refine sm_T_go 1 (c1 := (202, [some (.inr (.inr (some (13, 0)))), some (.inl (S0_.2.2.1 136 0 ((S0_.1 13 0 32) - 1).toNat)), some (.inl (S0_.2.2.1 137 0 ((S0_.1 13 0 32) - 1).toNat)), some (.inl ((S0_.1 13 0 34) - 2)), some (.inl ((S0_.1 13 0 34) - 1)), none, none], [], sm_pI (sm_aI (sm_pI S0_ 13 0 32 ((S0_.1 13 0 32) - 1)) 138 0 ((S0_.1 13 0 34) - 2).toNat 1) 13 0 34 ((S0_.1 13 0 34) - 1))) rfl ?_
          refine sm_T_rv rfl ⟨_, _, rfl, rfl, hIx19_, hFx20_, ?_⟩
          refine ⟨?_, by first | rfl | ((try simp only [rd_eq, rd_ne, rf_eq, rf_nk, rf_nt, rd_fa, rd_af, rd_fl, rd_al, rd_lf, rd_la, rd_leq, rd_lne, rd_fr, rd_ar, ne_eq, Nat.reduceEqDiff, not_false_eq_true]); omega)⟩
          first | (exfalso; omega) | (have e0_ := e1_ (by omega); have mz_ : ¬ mdo mo_ = true := (by unfold mdo; rw [decide_eq_false (by omega)]; decide); have hp_ : p_ap2 (mdo mo_) k_ q_ o_ x_ y_ g_ c_ = .inr (o_, (if k_ = 4 then 1 else x_) :: g_, k_ :: c_) := (by unfold p_ap2 p_ap; rw [if_neg mz_, if_pos (by omega)]; rfl); rw [hp_]; refine ⟨⟨hg_, ⟨u0_, ⟨by (try simp only [rd_eq, rd_ne, rf_eq, rf_nk, rf_nt, rd_fa, rd_af, rd_fl, rd_al, rd_lf, rd_la, rd_leq, rd_lne, rd_fr, rd_ar, ne_eq, Nat.reduceEqDiff, not_false_eq_true]); omega, by rw [fr_arr hFx20_ rfl]; exact hw_.2.1.2, by rw [fr_arr hFx20_ rfl]; exact hw_.2.2.2⟩, Or.inr ⟨rfl, hwr1_⟩⟩, (hFx20_.1 13 0 33 rfl).trans (hop_.trans (by show (((if k_ < 0 then 1 else 0) + o_mk o_ : Nat) : Int) = _; rw [if_neg (by omega)]; simp)), ⟨?_, ?_, ?_⟩, (hFx20_.1 13 0 27 rfl).trans hmo1_⟩, s_ok_ap hk_ (by have xb_ := (h_ok_c.mp (h_ok_c.mp hs_.2.2.2).2).1; split; decide; exact xb_) hs_⟩; ((try simp only [rd_eq, rd_ne, rf_eq, rf_nk, rf_nt, rd_fa, rd_af, rd_fl, rd_al, rd_lf, rd_la, rd_leq, rd_lne, rd_fr, rd_ar, ne_eq, Nat.reduceEqDiff, not_false_eq_true]); simp only [List.length_cons]; push_cast; omega); (intro z_; refine stk_pu l1_ ?_ (v2_ z_).2.2; have q257_ := (w_sg_b (md_ := mdo mo_) (k_ := k_) (Or.inr (Or.inr (Or.inr ⟨hk_, (o_ok_lt hs_.1 hk_).2⟩)))).2.2.2.1; first | (rw [if_pos (by omega)]) | (rw [if_neg (by omega)]; exact e0_.1)); (intro z_; omega)) | (have e0_ := e2_ (by omega); have mz_ : mdo mo_ = true := (by unfold mdo; exact decide_eq_true (by omega)); have hp_ : p_ap2 (mdo mo_) k_ q_ o_ x_ y_ g_ c_ = .inr (o_, p_lo k_ x_ y_ :: g_, c_) := (by unfold p_ap2 p_ap; rw [if_pos mz_]; rfl); rw [hp_]; refine ⟨⟨hg_, ⟨u0_, ⟨by (try simp only [rd_eq, rd_ne, rf_eq, rf_nk, rf_nt, rd_fa, rd_af, rd_fl, rd_al, rd_lf, rd_la, rd_leq, rd_lne, rd_fr, rd_ar, ne_eq, Nat.reduceEqDiff, not_false_eq_true]); omega, by rw [fr_arr hFx20_ rfl]; exact hw_.2.1.2, by rw [fr_arr hFx20_ rfl]; exact hw_.2.2.2⟩, Or.inr ⟨rfl, hwr1_⟩⟩, (hFx20_.1 13 0 33 rfl).trans (hop_.trans (by show (((if k_ < 0 then 1 else 0) + o_mk o_ : Nat) : Int) = _; rw [if_neg (by omega)]; simp)), ⟨?_, ?_, ?_⟩, (hFx20_.1 13 0 27 rfl).trans hmo1_⟩, s_ok_ap hk_ (p_lo_b (h_ok_c.mp (h_ok_c.mp hs_.2.2.2).2).1 (h_ok_c.mp hs_.2.2.2).1) hs_⟩; ((try simp only [rd_eq, rd_ne, rf_eq, rf_nk, rf_nt, rd_fa, rd_af, rd_fl, rd_al, rd_lf, rd_la, rd_leq, rd_lne, rd_fr, rd_ar, ne_eq, Nat.reduceEqDiff, not_false_eq_true]); simp only [List.length_cons]; push_cast; omega); (intro z_; omega); (intro z_; refine stk_8o (stk_8p l3_ ?_ (v3_ z_).2.2) (by decide); unfold p_lo; rw [e0_.1, e0_.2]; have q124_ := (w_sg_b (md_ := mdo mo_) (k_ := k_) (Or.inr (Or.inr (Or.inr ⟨hk_, (o_ok_lt hs_.1 hk_).2⟩)))).2.2.2.2.2.2.2; first | (rw [if_pos (by omega)]) | (rw [if_neg (by omega), if_pos (by omega)]) | (rw [if_neg (by omega), if_neg (by omega)]))) | (have e0_ := e1_ (by omega); have mz_ : ¬ mdo mo_ = true := (by unfold mdo; rw [decide_eq_false (by omega)]; decide); have hp_ : p_ap2 (mdo mo_) k_ q_ o_ x_ y_ g_ c_ = .inl (13, q_) := (by unfold p_ap2 p_ap; rw [if_neg mz_, if_neg (by omega)]; rfl); rw [hp_]; rcases e77_ with z_ | z_; (exact absurd hf0_ z_.1); (refine ⟨z_.2.1, ?_, by show (13 : Int) ≠ 0; decide, ?_, md77_⟩; (refine Eq.trans z_.2.2 ?_; show S0_.2.2.1 120 0 (S0_.2.2.1 137 0 (S0_.1 13 0 32 - 1).toNat).toNat = _; rw [wtk_]; exact hq1_.2); ((try simp only [rd_eq, rd_ne, rf_eq, rf_nk, rf_nt, rd_fa, rd_af, rd_fl, rd_al, rd_lf, rd_la, rd_leq, rd_lne, rd_fr, rd_ar, ne_eq, Nat.reduceEqDiff, not_false_eq_true]); omega)))
      · have cx10_ : ¬ ((S0_.1 13 0 27) ≠ 2) := of_decide_eq_false cx10_
        refine sm_T_go 4 (c1 := (111, [some (.inr (.inr (some (13, 0)))), some (.inl (S0_.2.2.1 136 0 ((S0_.1 13 0 32) - 1).toNat)), some (.inl (S0_.2.2.1 137 0 ((S0_.1 13 0 32) - 1).toNat)), some (.inl ((S0_.1 13 0 34) - 2)), some (.inl ((S0_.1 13 0 34) - 1)), none, none], [.inl ((S0_.1 13 0 34) - 2), .inl 8, .inr (.inr (some (139, 0)))], sm_pI S0_ 13 0 32 ((S0_.1 13 0 32) - 1))) rfl ?_
        refine sm_T_bin (w := 8 * (S0_.1 13 0 34) - 16) rfl (bi_mul (by omega) (by omega) (by omega)) ?_
        refine sm_T_iald (n := 8192) rfl rfl (by omega) (by omega) ?_
        have bx21_ : 0 ≤ S0_.2.2.1 139 0 (8 * (S0_.1 13 0 34) - 16).toNat ∧ S0_.2.2.1 139 0 (8 * (S0_.1 13 0 34) - 16).toNat ≤ 2047 := hI_.2 139 0 _
        refine sm_T_go 5 (c1 := (123, [some (.inr (.inr (some (13, 0)))), some (.inl (S0_.2.2.1 136 0 ((S0_.1 13 0 32) - 1).toNat)), some (.inl (S0_.2.2.1 137 0 ((S0_.1 13 0 32) - 1).toNat)), some (.inl ((S0_.1 13 0 34) - 2)), some (.inl ((S0_.1 13 0 34) - 1)), some (.inl (S0_.2.2.1 139 0 (8 * (S0_.1 13 0 34) - 16).toNat)), none], [.inl ((S0_.1 13 0 34) - 1), .inl 8, .inr (.inr (some (139, 0)))], sm_pI S0_ 13 0 32 ((S0_.1 13 0 32) - 1))) rfl ?_
        refine sm_T_bin (w := 8 * (S0_.1 13 0 34) - 8) rfl (bi_mul (by omega) (by omega) (by omega)) ?_
        refine sm_T_iald (n := 8192) rfl rfl (by omega) (by omega) ?_
        have bx22_ : 0 ≤ S0_.2.2.1 139 0 (8 * (S0_.1 13 0 34) - 8).toNat ∧ S0_.2.2.1 139 0 (8 * (S0_.1 13 0 34) - 8).toNat ≤ 2047 := hI_.2 139 0 _
        refine sm_T_go 5 (c1 := (134, [some (.inr (.inr (some (13, 0)))), some (.inl (S0_.2.2.1 136 0 ((S0_.1 13 0 32) - 1).toNat)), some (.inl (S0_.2.2.1 137 0 ((S0_.1 13 0 32) - 1).toNat)), some (.inl ((S0_.1 13 0 34) - 2)), some (.inl ((S0_.1 13 0 34) - 1)), some (.inl (S0_.2.2.1 139 0 (8 * (S0_.1 13 0 34) - 16).toNat)), some (.inl (S0_.2.2.1 139 0 (8 * (S0_.1 13 0 34) - 8).toNat))], [.inl ((S0_.1 13 0 34) - 2), .inl 8, .inr (.inr (some (139, 0)))], sm_pI S0_ 13 0 32 ((S0_.1 13 0 32) - 1))) rfl ?_
        refine sm_T_bin (w := 8 * (S0_.1 13 0 34) - 16) rfl (bi_mul (by omega) (by omega) (by omega)) ?_
        refine sm_T_go 2 (c1 := (138, [some (.inr (.inr (some (13, 0)))), some (.inl (S0_.2.2.1 136 0 ((S0_.1 13 0 32) - 1).toNat)), some (.inl (S0_.2.2.1 137 0 ((S0_.1 13 0 32) - 1).toNat)), some (.inl ((S0_.1 13 0 34) - 2)), some (.inl ((S0_.1 13 0 34) - 1)), some (.inl (S0_.2.2.1 139 0 (8 * (S0_.1 13 0 34) - 16).toNat)), some (.inl (S0_.2.2.1 139 0 (8 * (S0_.1 13 0 34) - 8).toNat))], [.inl 124, .inl (S0_.2.2.1 136 0 ((S0_.1 13 0 32) - 1).toNat), .inl (8 * (S0_.1 13 0 34) - 16), .inr (.inr (some (139, 0)))], sm_pI S0_ 13 0 32 ((S0_.1 13 0 32) - 1))) rfl ?_
        refine sm_T_br (a := 1) (z := 11) rfl (fun cx23_ => ?_) (fun cx23_ => ?_)
        · have cx23_ : (S0_.2.2.1 136 0 ((S0_.1 13 0 32) - 1).toNat) ≠ 124 := of_decide_eq_true cx23_
          refine sm_T_go 2 (c1 := (152, [some (.inr (.inr (some (13, 0)))), some (.inl (S0_.2.2.1 136 0 ((S0_.1 13 0 32) - 1).toNat)), some (.inl (S0_.2.2.1 137 0 ((S0_.1 13 0 32) - 1).toNat)), some (.inl ((S0_.1 13 0 34) - 2)), some (.inl ((S0_.1 13 0 34) - 1)), some (.inl (S0_.2.2.1 139 0 (8 * (S0_.1 13 0 34) - 16).toNat)), some (.inl (S0_.2.2.1 139 0 (8 * (S0_.1 13 0 34) - 8).toNat))], [.inl 94, .inl (S0_.2.2.1 136 0 ((S0_.1 13 0 32) - 1).toNat), .inl (8 * (S0_.1 13 0 34) - 16), .inr (.inr (some (139, 0)))], sm_pI S0_ 13 0 32 ((S0_.1 13 0 32) - 1))) rfl ?_
          refine sm_T_br (a := 1) (z := 11) rfl (fun cx24_ => ?_) (fun cx24_ => ?_)
          · have cx24_ : (S0_.2.2.1 136 0 ((S0_.1 13 0 32) - 1).toNat) ≠ 94 := of_decide_eq_true cx24_
            refine sm_T_go 2 (c1 := (167, [some (.inr (.inr (some (13, 0)))), some (.inl (S0_.2.2.1 136 0 ((S0_.1 13 0 32) - 1).toNat)), some (.inl (S0_.2.2.1 137 0 ((S0_.1 13 0 32) - 1).toNat)), some (.inl ((S0_.1 13 0 34) - 2)), some (.inl ((S0_.1 13 0 34) - 1)), some (.inl (S0_.2.2.1 139 0 (8 * (S0_.1 13 0 34) - 16).toNat)), some (.inl (S0_.2.2.1 139 0 (8 * (S0_.1 13 0 34) - 8).toNat))], [.inl (S0_.2.2.1 139 0 (8 * (S0_.1 13 0 34) - 8).toNat), .inl (S0_.2.2.1 139 0 (8 * (S0_.1 13 0 34) - 16).toNat), .inl (8 * (S0_.1 13 0 34) - 16), .inr (.inr (some (139, 0)))], sm_pI S0_ 13 0 32 ((S0_.1 13 0 32) - 1))) rfl ?_
            refine sm_T_bin (w := (i_and (S0_.2.2.1 139 0 (8 * (S0_.1 13 0 34) - 16).toNat) (S0_.2.2.1 139 0 (8 * (S0_.1 13 0 34) - 8).toNat))) rfl rfl ?_
            have bx25_ := (i_x11 (x_ := (S0_.2.2.1 139 0 (8 * (S0_.1 13 0 34) - 16).toNat)) (y_ := (S0_.2.2.1 139 0 (8 * (S0_.1 13 0 34) - 8).toNat)) ⟨by omega, by omega⟩ ⟨by omega, by omega⟩).2.2
            refine sm_T_iast (n := 8192) rfl rfl (by omega) (by omega) ?_
            have hIx26_ : gi (sm_aI (sm_pI S0_ 13 0 32 ((S0_.1 13 0 32) - 1)) 139 0 (8 * (S0_.1 13 0 34) - 16).toNat (i_and (S0_.2.2.1 139 0 (8 * (S0_.1 13 0 34) - 16).toNat) (S0_.2.2.1 139 0 (8 * (S0_.1 13 0 34) - 8).toNat))) := gi_aI hIx4_ (show 0 ≤ (i_and (S0_.2.2.1 139 0 (8 * (S0_.1 13 0 34) - 16).toNat) (S0_.2.2.1 139 0 (8 * (S0_.1 13 0 34) - 8).toNat)) ∧ (i_and (S0_.2.2.1 139 0 (8 * (S0_.1 13 0 34) - 16).toNat) (S0_.2.2.1 139 0 (8 * (S0_.1 13 0 34) - 8).toNat)) ≤ 2047 from ⟨by omega, by omega⟩)
            have hFx27_ : ai_fr (sx_W vw_313) S0_ (sm_aI (sm_pI S0_ 13 0 32 ((S0_.1 13 0 32) - 1)) 139 0 (8 * (S0_.1 13 0 34) - 16).toNat (i_and (S0_.2.2.1 139 0 (8 * (S0_.1 13 0 34) - 16).toNat) (S0_.2.2.1 139 0 (8 * (S0_.1 13 0 34) - 8).toNat))) := ai_fr_tr hFx5_ (ai_fr_aI rfl)
            refine sm_T_go 5 (c1 := (178, [some (.inr (.inr (some (13, 0)))), some (.inl (S0_.2.2.1 136 0 ((S0_.1 13 0 32) - 1).toNat)), some (.inl (S0_.2.2.1 137 0 ((S0_.1 13 0 32) - 1).toNat)), some (.inl ((S0_.1 13 0 34) - 2)), some (.inl ((S0_.1 13 0 34) - 1)), some (.inl (S0_.2.2.1 139 0 (8 * (S0_.1 13 0 34) - 16).toNat)), some (.inl (S0_.2.2.1 139 0 (8 * (S0_.1 13 0 34) - 8).toNat))], [.inl 257, .inl (S0_.2.2.1 136 0 ((S0_.1 13 0 32) - 1).toNat), .inl ((S0_.1 13 0 34) - 2), .inr (.inr (some (138, 0)))], sm_aI (sm_pI S0_ 13 0 32 ((S0_.1 13 0 32) - 1)) 139 0 (8 * (S0_.1 13 0 34) - 16).toNat (i_and (S0_.2.2.1 139 0 (8 * (S0_.1 13 0 34) - 16).toNat) (S0_.2.2.1 139 0 (8 * (S0_.1 13 0 34) - 8).toNat)))) rfl ?_
            refine sm_T_br (a := 1) (z := 7) rfl (fun cx28_ => ?_) (fun cx28_ => ?_)
            · have cx28_ : (S0_.2.2.1 136 0 ((S0_.1 13 0 32) - 1).toNat) ≠ 257 := of_decide_eq_true cx28_
              refine sm_T_go 3 (c1 := (190, [some (.inr (.inr (some (13, 0)))), some (.inl (S0_.2.2.1 136 0 ((S0_.1 13 0 32) - 1).toNat)), some (.inl (S0_.2.2.1 137 0 ((S0_.1 13 0 32) - 1).toNat)), some (.inl ((S0_.1 13 0 34) - 2)), some (.inl ((S0_.1 13 0 34) - 1)), some (.inl (S0_.2.2.1 139 0 (8 * (S0_.1 13 0 34) - 16).toNat)), some (.inl (S0_.2.2.1 139 0 (8 * (S0_.1 13 0 34) - 8).toNat))], [.inl ((S0_.1 13 0 34) - 2), .inr (.inr (some (138, 0))), .inl ((S0_.1 13 0 34) - 2), .inr (.inr (some (138, 0)))], sm_aI (sm_pI S0_ 13 0 32 ((S0_.1 13 0 32) - 1)) 139 0 (8 * (S0_.1 13 0 34) - 16).toNat (i_and (S0_.2.2.1 139 0 (8 * (S0_.1 13 0 34) - 16).toNat) (S0_.2.2.1 139 0 (8 * (S0_.1 13 0 34) - 8).toNat)))) rfl ?_
              refine sm_T_iald (n := 1024) rfl rfl (by omega) (by omega) ?_
              have bx29_ : (-2147483648) ≤ S0_.2.2.1 138 0 ((S0_.1 13 0 34) - 2).toNat ∧ S0_.2.2.1 138 0 ((S0_.1 13 0 34) - 2).toNat ≤ 2147483647 := hI_.2 138 0 _
              refine sm_T_iast (n := 1024) rfl rfl (by omega) (by omega) ?_
              have hIx30_ : gi (sm_aI (sm_aI (sm_pI S0_ 13 0 32 ((S0_.1 13 0 32) - 1)) 139 0 (8 * (S0_.1 13 0 34) - 16).toNat (i_and (S0_.2.2.1 139 0 (8 * (S0_.1 13 0 34) - 16).toNat) (S0_.2.2.1 139 0 (8 * (S0_.1 13 0 34) - 8).toNat))) 138 0 ((S0_.1 13 0 34) - 2).toNat (S0_.2.2.1 138 0 ((S0_.1 13 0 34) - 2).toNat)) := gi_aI hIx26_ (show (-2147483648) ≤ (S0_.2.2.1 138 0 ((S0_.1 13 0 34) - 2).toNat) ∧ (S0_.2.2.1 138 0 ((S0_.1 13 0 34) - 2).toNat) ≤ 2147483647 from ⟨by omega, by omega⟩)
              have hFx31_ : ai_fr (sx_W vw_313) S0_ (sm_aI (sm_aI (sm_pI S0_ 13 0 32 ((S0_.1 13 0 32) - 1)) 139 0 (8 * (S0_.1 13 0 34) - 16).toNat (i_and (S0_.2.2.1 139 0 (8 * (S0_.1 13 0 34) - 16).toNat) (S0_.2.2.1 139 0 (8 * (S0_.1 13 0 34) - 8).toNat))) 138 0 ((S0_.1 13 0 34) - 2).toNat (S0_.2.2.1 138 0 ((S0_.1 13 0 34) - 2).toNat)) := ai_fr_tr hFx27_ (ai_fr_aI rfl)
              refine sm_T_go 4 (c1 := (198, [some (.inr (.inr (some (13, 0)))), some (.inl (S0_.2.2.1 136 0 ((S0_.1 13 0 32) - 1).toNat)), some (.inl (S0_.2.2.1 137 0 ((S0_.1 13 0 32) - 1).toNat)), some (.inl ((S0_.1 13 0 34) - 2)), some (.inl ((S0_.1 13 0 34) - 1)), some (.inl (S0_.2.2.1 139 0 (8 * (S0_.1 13 0 34) - 16).toNat)), some (.inl (S0_.2.2.1 139 0 (8 * (S0_.1 13 0 34) - 8).toNat))], [.inl 1, .inl (S0_.1 13 0 34), .inr (.inr (some (13, 0)))], sm_aI (sm_aI (sm_pI S0_ 13 0 32 ((S0_.1 13 0 32) - 1)) 139 0 (8 * (S0_.1 13 0 34) - 16).toNat (i_and (S0_.2.2.1 139 0 (8 * (S0_.1 13 0 34) - 16).toNat) (S0_.2.2.1 139 0 (8 * (S0_.1 13 0 34) - 8).toNat))) 138 0 ((S0_.1 13 0 34) - 2).toNat (S0_.2.2.1 138 0 ((S0_.1 13 0 34) - 2).toNat))) rfl ?_
              refine sm_T_bin (w := (S0_.1 13 0 34) - 1) rfl (bi_sub (by omega) (by omega) (by omega)) ?_
              have hIx32_ : gi (sm_pI (sm_aI (sm_aI (sm_pI S0_ 13 0 32 ((S0_.1 13 0 32) - 1)) 139 0 (8 * (S0_.1 13 0 34) - 16).toNat (i_and (S0_.2.2.1 139 0 (8 * (S0_.1 13 0 34) - 16).toNat) (S0_.2.2.1 139 0 (8 * (S0_.1 13 0 34) - 8).toNat))) 138 0 ((S0_.1 13 0 34) - 2).toNat (S0_.2.2.1 138 0 ((S0_.1 13 0 34) - 2).toNat)) 13 0 34 ((S0_.1 13 0 34) - 1)) := gi_pI hIx30_ (show 0 ≤ (S0_.1 13 0 34) - 1 ∧ (S0_.1 13 0 34) - 1 ≤ 1023 from ⟨by omega, by omega⟩)
              have hFx33_ : ai_fr (sx_W vw_313) S0_ (sm_pI (sm_aI (sm_aI (sm_pI S0_ 13 0 32 ((S0_.1 13 0 32) - 1)) 139 0 (8 * (S0_.1 13 0 34) - 16).toNat (i_and (S0_.2.2.1 139 0 (8 * (S0_.1 13 0 34) - 16).toNat) (S0_.2.2.1 139 0 (8 * (S0_.1 13 0 34) - 8).toNat))) 138 0 ((S0_.1 13 0 34) - 2).toNat (S0_.2.2.1 138 0 ((S0_.1 13 0 34) - 2).toNat)) 13 0 34 ((S0_.1 13 0 34) - 1)) := ai_fr_tr hFx31_ (ai_fr_pI rfl)
              refine sm_T_go 1 (c1 := (202, [some (.inr (.inr (some (13, 0)))), some (.inl (S0_.2.2.1 136 0 ((S0_.1 13 0 32) - 1).toNat)), some (.inl (S0_.2.2.1 137 0 ((S0_.1 13 0 32) - 1).toNat)), some (.inl ((S0_.1 13 0 34) - 2)), some (.inl ((S0_.1 13 0 34) - 1)), some (.inl (S0_.2.2.1 139 0 (8 * (S0_.1 13 0 34) - 16).toNat)), some (.inl (S0_.2.2.1 139 0 (8 * (S0_.1 13 0 34) - 8).toNat))], [], sm_pI (sm_aI (sm_aI (sm_pI S0_ 13 0 32 ((S0_.1 13 0 32) - 1)) 139 0 (8 * (S0_.1 13 0 34) - 16).toNat (i_and (S0_.2.2.1 139 0 (8 * (S0_.1 13 0 34) - 16).toNat) (S0_.2.2.1 139 0 (8 * (S0_.1 13 0 34) - 8).toNat))) 138 0 ((S0_.1 13 0 34) - 2).toNat (S0_.2.2.1 138 0 ((S0_.1 13 0 34) - 2).toNat)) 13 0 34 ((S0_.1 13 0 34) - 1))) rfl ?_
              refine sm_T_rv rfl ⟨_, _, rfl, rfl, hIx32_, hFx33_, ?_⟩
              refine ⟨?_, by first | rfl | ((try simp only [rd_eq, rd_ne, rf_eq, rf_nk, rf_nt, rd_fa, rd_af, rd_fl, rd_al, rd_lf, rd_la, rd_leq, rd_lne, rd_fr, rd_ar, ne_eq, Nat.reduceEqDiff, not_false_eq_true]); omega)⟩
              first | (exfalso; omega) | (have e0_ := e1_ (by omega); have mz_ : ¬ mdo mo_ = true := (by unfold mdo; rw [decide_eq_false (by omega)]; decide); have hp_ : p_ap2 (mdo mo_) k_ q_ o_ x_ y_ g_ c_ = .inr (o_, (if k_ = 4 then 1 else x_) :: g_, k_ :: c_) := (by unfold p_ap2 p_ap; rw [if_neg mz_, if_pos (by omega)]; rfl); rw [hp_]; refine ⟨⟨hg_, ⟨u0_, ⟨by (try simp only [rd_eq, rd_ne, rf_eq, rf_nk, rf_nt, rd_fa, rd_af, rd_fl, rd_al, rd_lf, rd_la, rd_leq, rd_lne, rd_fr, rd_ar, ne_eq, Nat.reduceEqDiff, not_false_eq_true]); omega, by rw [fr_arr hFx33_ rfl]; exact hw_.2.1.2, by rw [fr_arr hFx33_ rfl]; exact hw_.2.2.2⟩, Or.inr ⟨rfl, hwr1_⟩⟩, (hFx33_.1 13 0 33 rfl).trans (hop_.trans (by show (((if k_ < 0 then 1 else 0) + o_mk o_ : Nat) : Int) = _; rw [if_neg (by omega)]; simp)), ⟨?_, ?_, ?_⟩, (hFx33_.1 13 0 27 rfl).trans hmo1_⟩, s_ok_ap hk_ (by have xb_ := (h_ok_c.mp (h_ok_c.mp hs_.2.2.2).2).1; split; decide; exact xb_) hs_⟩; ((try simp only [rd_eq, rd_ne, rf_eq, rf_nk, rf_nt, rd_fa, rd_af, rd_fl, rd_al, rd_lf, rd_la, rd_leq, rd_lne, rd_fr, rd_ar, ne_eq, Nat.reduceEqDiff, not_false_eq_true]); simp only [List.length_cons]; push_cast; omega); (intro z_; refine stk_pu l1_ ?_ (v2_ z_).2.2; have q257_ := (w_sg_b (md_ := mdo mo_) (k_ := k_) (Or.inr (Or.inr (Or.inr ⟨hk_, (o_ok_lt hs_.1 hk_).2⟩)))).2.2.2.1; first | (rw [if_pos (by omega)]) | (rw [if_neg (by omega)]; exact e0_.1)); (intro z_; omega)) | (have e0_ := e2_ (by omega); have mz_ : mdo mo_ = true := (by unfold mdo; exact decide_eq_true (by omega)); have hp_ : p_ap2 (mdo mo_) k_ q_ o_ x_ y_ g_ c_ = .inr (o_, p_lo k_ x_ y_ :: g_, c_) := (by unfold p_ap2 p_ap; rw [if_pos mz_]; rfl); rw [hp_]; refine ⟨⟨hg_, ⟨u0_, ⟨by (try simp only [rd_eq, rd_ne, rf_eq, rf_nk, rf_nt, rd_fa, rd_af, rd_fl, rd_al, rd_lf, rd_la, rd_leq, rd_lne, rd_fr, rd_ar, ne_eq, Nat.reduceEqDiff, not_false_eq_true]); omega, by rw [fr_arr hFx33_ rfl]; exact hw_.2.1.2, by rw [fr_arr hFx33_ rfl]; exact hw_.2.2.2⟩, Or.inr ⟨rfl, hwr1_⟩⟩, (hFx33_.1 13 0 33 rfl).trans (hop_.trans (by show (((if k_ < 0 then 1 else 0) + o_mk o_ : Nat) : Int) = _; rw [if_neg (by omega)]; simp)), ⟨?_, ?_, ?_⟩, (hFx33_.1 13 0 27 rfl).trans hmo1_⟩, s_ok_ap hk_ (p_lo_b (h_ok_c.mp (h_ok_c.mp hs_.2.2.2).2).1 (h_ok_c.mp hs_.2.2.2).1) hs_⟩; ((try simp only [rd_eq, rd_ne, rf_eq, rf_nk, rf_nt, rd_fa, rd_af, rd_fl, rd_al, rd_lf, rd_la, rd_leq, rd_lne, rd_fr, rd_ar, ne_eq, Nat.reduceEqDiff, not_false_eq_true]); simp only [List.length_cons]; push_cast; omega); (intro z_; omega); (intro z_; refine stk_8o (stk_8p l3_ ?_ (v3_ z_).2.2) (by decide); unfold p_lo; rw [e0_.1, e0_.2]; have q124_ := (w_sg_b (md_ := mdo mo_) (k_ := k_) (Or.inr (Or.inr (Or.inr ⟨hk_, (o_ok_lt hs_.1 hk_).2⟩)))).2.2.2.2.2.2.2; first | (rw [if_pos (by omega)]) | (rw [if_neg (by omega), if_pos (by omega)]) | (rw [if_neg (by omega), if_neg (by omega)]))) | (have e0_ := e1_ (by omega); have mz_ : ¬ mdo mo_ = true := (by unfold mdo; rw [decide_eq_false (by omega)]; decide); have hp_ : p_ap2 (mdo mo_) k_ q_ o_ x_ y_ g_ c_ = .inl (13, q_) := (by unfold p_ap2 p_ap; rw [if_neg mz_, if_neg (by omega)]; rfl); rw [hp_]; rcases e77_ with z_ | z_; (exact absurd hf0_ z_.1); (refine ⟨z_.2.1, ?_, by show (13 : Int) ≠ 0; decide, ?_, md77_⟩; (refine Eq.trans z_.2.2 ?_; show S0_.2.2.1 120 0 (S0_.2.2.1 137 0 (S0_.1 13 0 32 - 1).toNat).toNat = _; rw [wtk_]; exact hq1_.2); ((try simp only [rd_eq, rd_ne, rf_eq, rf_nk, rf_nt, rd_fa, rd_af, rd_fl, rd_al, rd_lf, rd_la, rd_leq, rd_lne, rd_fr, rd_ar, ne_eq, Nat.reduceEqDiff, not_false_eq_true]); omega)))
            · have cx28_ : ¬ ((S0_.2.2.1 136 0 ((S0_.1 13 0 32) - 1).toNat) ≠ 257) := of_decide_eq_false cx28_
              refine sm_T_go 2 (c1 := (191, [some (.inr (.inr (some (13, 0)))), some (.inl (S0_.2.2.1 136 0 ((S0_.1 13 0 32) - 1).toNat)), some (.inl (S0_.2.2.1 137 0 ((S0_.1 13 0 32) - 1).toNat)), some (.inl ((S0_.1 13 0 34) - 2)), some (.inl ((S0_.1 13 0 34) - 1)), some (.inl (S0_.2.2.1 139 0 (8 * (S0_.1 13 0 34) - 16).toNat)), some (.inl (S0_.2.2.1 139 0 (8 * (S0_.1 13 0 34) - 8).toNat))], [.inl 1, .inl ((S0_.1 13 0 34) - 2), .inr (.inr (some (138, 0)))], sm_aI (sm_pI S0_ 13 0 32 ((S0_.1 13 0 32) - 1)) 139 0 (8 * (S0_.1 13 0 34) - 16).toNat (i_and (S0_.2.2.1 139 0 (8 * (S0_.1 13 0 34) - 16).toNat) (S0_.2.2.1 139 0 (8 * (S0_.1 13 0 34) - 8).toNat)))) rfl ?_
              refine sm_T_iast (n := 1024) rfl rfl (by omega) (by omega) ?_
              have hIx34_ : gi (sm_aI (sm_aI (sm_pI S0_ 13 0 32 ((S0_.1 13 0 32) - 1)) 139 0 (8 * (S0_.1 13 0 34) - 16).toNat (i_and (S0_.2.2.1 139 0 (8 * (S0_.1 13 0 34) - 16).toNat) (S0_.2.2.1 139 0 (8 * (S0_.1 13 0 34) - 8).toNat))) 138 0 ((S0_.1 13 0 34) - 2).toNat 1) := gi_aI hIx26_ (show (-2147483648) ≤ 1 ∧ 1 ≤ 2147483647 from ⟨by omega, by omega⟩)
              have hFx35_ : ai_fr (sx_W vw_313) S0_ (sm_aI (sm_aI (sm_pI S0_ 13 0 32 ((S0_.1 13 0 32) - 1)) 139 0 (8 * (S0_.1 13 0 34) - 16).toNat (i_and (S0_.2.2.1 139 0 (8 * (S0_.1 13 0 34) - 16).toNat) (S0_.2.2.1 139 0 (8 * (S0_.1 13 0 34) - 8).toNat))) 138 0 ((S0_.1 13 0 34) - 2).toNat 1) := ai_fr_tr hFx27_ (ai_fr_aI rfl)
              refine sm_T_go 4 (c1 := (198, [some (.inr (.inr (some (13, 0)))), some (.inl (S0_.2.2.1 136 0 ((S0_.1 13 0 32) - 1).toNat)), some (.inl (S0_.2.2.1 137 0 ((S0_.1 13 0 32) - 1).toNat)), some (.inl ((S0_.1 13 0 34) - 2)), some (.inl ((S0_.1 13 0 34) - 1)), some (.inl (S0_.2.2.1 139 0 (8 * (S0_.1 13 0 34) - 16).toNat)), some (.inl (S0_.2.2.1 139 0 (8 * (S0_.1 13 0 34) - 8).toNat))], [.inl 1, .inl (S0_.1 13 0 34), .inr (.inr (some (13, 0)))], sm_aI (sm_aI (sm_pI S0_ 13 0 32 ((S0_.1 13 0 32) - 1)) 139 0 (8 * (S0_.1 13 0 34) - 16).toNat (i_and (S0_.2.2.1 139 0 (8 * (S0_.1 13 0 34) - 16).toNat) (S0_.2.2.1 139 0 (8 * (S0_.1 13 0 34) - 8).toNat))) 138 0 ((S0_.1 13 0 34) - 2).toNat 1)) rfl ?_
              refine sm_T_bin (w := (S0_.1 13 0 34) - 1) rfl (bi_sub (by omega) (by omega) (by omega)) ?_
              have hIx36_ : gi (sm_pI (sm_aI (sm_aI (sm_pI S0_ 13 0 32 ((S0_.1 13 0 32) - 1)) 139 0 (8 * (S0_.1 13 0 34) - 16).toNat (i_and (S0_.2.2.1 139 0 (8 * (S0_.1 13 0 34) - 16).toNat) (S0_.2.2.1 139 0 (8 * (S0_.1 13 0 34) - 8).toNat))) 138 0 ((S0_.1 13 0 34) - 2).toNat 1) 13 0 34 ((S0_.1 13 0 34) - 1)) := gi_pI hIx34_ (show 0 ≤ (S0_.1 13 0 34) - 1 ∧ (S0_.1 13 0 34) - 1 ≤ 1023 from ⟨by omega, by omega⟩)
              have hFx37_ : ai_fr (sx_W vw_313) S0_ (sm_pI (sm_aI (sm_aI (sm_pI S0_ 13 0 32 ((S0_.1 13 0 32) - 1)) 139 0 (8 * (S0_.1 13 0 34) - 16).toNat (i_and (S0_.2.2.1 139 0 (8 * (S0_.1 13 0 34) - 16).toNat) (S0_.2.2.1 139 0 (8 * (S0_.1 13 0 34) - 8).toNat))) 138 0 ((S0_.1 13 0 34) - 2).toNat 1) 13 0 34 ((S0_.1 13 0 34) - 1)) := ai_fr_tr hFx35_ (ai_fr_pI rfl)
              refine sm_T_go 1 (c1 := (202, [some (.inr (.inr (some (13, 0)))), some (.inl (S0_.2.2.1 136 0 ((S0_.1 13 0 32) - 1).toNat)), some (.inl (S0_.2.2.1 137 0 ((S0_.1 13 0 32) - 1).toNat)), some (.inl ((S0_.1 13 0 34) - 2)), some (.inl ((S0_.1 13 0 34) - 1)), some (.inl (S0_.2.2.1 139 0 (8 * (S0_.1 13 0 34) - 16).toNat)), some (.inl (S0_.2.2.1 139 0 (8 * (S0_.1 13 0 34) - 8).toNat))], [], sm_pI (sm_aI (sm_aI (sm_pI S0_ 13 0 32 ((S0_.1 13 0 32) - 1)) 139 0 (8 * (S0_.1 13 0 34) - 16).toNat (i_and (S0_.2.2.1 139 0 (8 * (S0_.1 13 0 34) - 16).toNat) (S0_.2.2.1 139 0 (8 * (S0_.1 13 0 34) - 8).toNat))) 138 0 ((S0_.1 13 0 34) - 2).toNat 1) 13 0 34 ((S0_.1 13 0 34) - 1))) rfl ?_
              refine sm_T_rv rfl ⟨_, _, rfl, rfl, hIx36_, hFx37_, ?_⟩
              refine ⟨?_, by first | rfl | ((try simp only [rd_eq, rd_ne, rf_eq, rf_nk, rf_nt, rd_fa, rd_af, rd_fl, rd_al, rd_lf, rd_la, rd_leq, rd_lne, rd_fr, rd_ar, ne_eq, Nat.reduceEqDiff, not_false_eq_true]); omega)⟩
              first | (exfalso; omega) | (have e0_ := e1_ (by omega); have mz_ : ¬ mdo mo_ = true := (by unfold mdo; rw [decide_eq_false (by omega)]; decide); have hp_ : p_ap2 (mdo mo_) k_ q_ o_ x_ y_ g_ c_ = .inr (o_, (if k_ = 4 then 1 else x_) :: g_, k_ :: c_) := (by unfold p_ap2 p_ap; rw [if_neg mz_, if_pos (by omega)]; rfl); rw [hp_]; refine ⟨⟨hg_, ⟨u0_, ⟨by (try simp only [rd_eq, rd_ne, rf_eq, rf_nk, rf_nt, rd_fa, rd_af, rd_fl, rd_al, rd_lf, rd_la, rd_leq, rd_lne, rd_fr, rd_ar, ne_eq, Nat.reduceEqDiff, not_false_eq_true]); omega, by rw [fr_arr hFx37_ rfl]; exact hw_.2.1.2, by rw [fr_arr hFx37_ rfl]; exact hw_.2.2.2⟩, Or.inr ⟨rfl, hwr1_⟩⟩, (hFx37_.1 13 0 33 rfl).trans (hop_.trans (by show (((if k_ < 0 then 1 else 0) + o_mk o_ : Nat) : Int) = _; rw [if_neg (by omega)]; simp)), ⟨?_, ?_, ?_⟩, (hFx37_.1 13 0 27 rfl).trans hmo1_⟩, s_ok_ap hk_ (by have xb_ := (h_ok_c.mp (h_ok_c.mp hs_.2.2.2).2).1; split; decide; exact xb_) hs_⟩; ((try simp only [rd_eq, rd_ne, rf_eq, rf_nk, rf_nt, rd_fa, rd_af, rd_fl, rd_al, rd_lf, rd_la, rd_leq, rd_lne, rd_fr, rd_ar, ne_eq, Nat.reduceEqDiff, not_false_eq_true]); simp only [List.length_cons]; push_cast; omega); (intro z_; refine stk_pu l1_ ?_ (v2_ z_).2.2; have q257_ := (w_sg_b (md_ := mdo mo_) (k_ := k_) (Or.inr (Or.inr (Or.inr ⟨hk_, (o_ok_lt hs_.1 hk_).2⟩)))).2.2.2.1; first | (rw [if_pos (by omega)]) | (rw [if_neg (by omega)]; exact e0_.1)); (intro z_; omega)) | (have e0_ := e2_ (by omega); have mz_ : mdo mo_ = true := (by unfold mdo; exact decide_eq_true (by omega)); have hp_ : p_ap2 (mdo mo_) k_ q_ o_ x_ y_ g_ c_ = .inr (o_, p_lo k_ x_ y_ :: g_, c_) := (by unfold p_ap2 p_ap; rw [if_pos mz_]; rfl); rw [hp_]; refine ⟨⟨hg_, ⟨u0_, ⟨by (try simp only [rd_eq, rd_ne, rf_eq, rf_nk, rf_nt, rd_fa, rd_af, rd_fl, rd_al, rd_lf, rd_la, rd_leq, rd_lne, rd_fr, rd_ar, ne_eq, Nat.reduceEqDiff, not_false_eq_true]); omega, by rw [fr_arr hFx37_ rfl]; exact hw_.2.1.2, by rw [fr_arr hFx37_ rfl]; exact hw_.2.2.2⟩, Or.inr ⟨rfl, hwr1_⟩⟩, (hFx37_.1 13 0 33 rfl).trans (hop_.trans (by show (((if k_ < 0 then 1 else 0) + o_mk o_ : Nat) : Int) = _; rw [if_neg (by omega)]; simp)), ⟨?_, ?_, ?_⟩, (hFx37_.1 13 0 27 rfl).trans hmo1_⟩, s_ok_ap hk_ (p_lo_b (h_ok_c.mp (h_ok_c.mp hs_.2.2.2).2).1 (h_ok_c.mp hs_.2.2.2).1) hs_⟩; ((try simp only [rd_eq, rd_ne, rf_eq, rf_nk, rf_nt, rd_fa, rd_af, rd_fl, rd_al, rd_lf, rd_la, rd_leq, rd_lne, rd_fr, rd_ar, ne_eq, Nat.reduceEqDiff, not_false_eq_true]); simp only [List.length_cons]; push_cast; omega); (intro z_; omega); (intro z_; refine stk_8o (stk_8p l3_ ?_ (v3_ z_).2.2) (by decide); unfold p_lo; rw [e0_.1, e0_.2]; have q124_ := (w_sg_b (md_ := mdo mo_) (k_ := k_) (Or.inr (Or.inr (Or.inr ⟨hk_, (o_ok_lt hs_.1 hk_).2⟩)))).2.2.2.2.2.2.2; first | (rw [if_pos (by omega)]) | (rw [if_neg (by omega), if_pos (by omega)]) | (rw [if_neg (by omega), if_neg (by omega)]))) | (have e0_ := e1_ (by omega); have mz_ : ¬ mdo mo_ = true := (by unfold mdo; rw [decide_eq_false (by omega)]; decide); have hp_ : p_ap2 (mdo mo_) k_ q_ o_ x_ y_ g_ c_ = .inl (13, q_) := (by unfold p_ap2 p_ap; rw [if_neg mz_, if_neg (by omega)]; rfl); rw [hp_]; rcases e77_ with z_ | z_; (exact absurd hf0_ z_.1); (refine ⟨z_.2.1, ?_, by show (13 : Int) ≠ 0; decide, ?_, md77_⟩; (refine Eq.trans z_.2.2 ?_; show S0_.2.2.1 120 0 (S0_.2.2.1 137 0 (S0_.1 13 0 32 - 1).toNat).toNat = _; rw [wtk_]; exact hq1_.2); ((try simp only [rd_eq, rd_ne, rf_eq, rf_nk, rf_nt, rd_fa, rd_af, rd_fl, rd_al, rd_lf, rd_la, rd_leq, rd_lne, rd_fr, rd_ar, ne_eq, Nat.reduceEqDiff, not_false_eq_true]); omega)))
          · have cx24_ : ¬ ((S0_.2.2.1 136 0 ((S0_.1 13 0 32) - 1).toNat) ≠ 94) := of_decide_eq_false cx24_
            refine sm_T_go 2 (c1 := (159, [some (.inr (.inr (some (13, 0)))), some (.inl (S0_.2.2.1 136 0 ((S0_.1 13 0 32) - 1).toNat)), some (.inl (S0_.2.2.1 137 0 ((S0_.1 13 0 32) - 1).toNat)), some (.inl ((S0_.1 13 0 34) - 2)), some (.inl ((S0_.1 13 0 34) - 1)), some (.inl (S0_.2.2.1 139 0 (8 * (S0_.1 13 0 34) - 16).toNat)), some (.inl (S0_.2.2.1 139 0 (8 * (S0_.1 13 0 34) - 8).toNat))], [.inl (S0_.2.2.1 139 0 (8 * (S0_.1 13 0 34) - 8).toNat), .inl (S0_.2.2.1 139 0 (8 * (S0_.1 13 0 34) - 16).toNat), .inl (8 * (S0_.1 13 0 34) - 16), .inr (.inr (some (139, 0)))], sm_pI S0_ 13 0 32 ((S0_.1 13 0 32) - 1))) rfl ?_
            refine sm_T_bin (w := (i_xor (S0_.2.2.1 139 0 (8 * (S0_.1 13 0 34) - 16).toNat) (S0_.2.2.1 139 0 (8 * (S0_.1 13 0 34) - 8).toNat))) rfl rfl ?_
            have bx38_ := (i_x11 (x_ := (S0_.2.2.1 139 0 (8 * (S0_.1 13 0 34) - 16).toNat)) (y_ := (S0_.2.2.1 139 0 (8 * (S0_.1 13 0 34) - 8).toNat)) ⟨by omega, by omega⟩ ⟨by omega, by omega⟩).2.1
            refine sm_T_go 1 (c1 := (168, [some (.inr (.inr (some (13, 0)))), some (.inl (S0_.2.2.1 136 0 ((S0_.1 13 0 32) - 1).toNat)), some (.inl (S0_.2.2.1 137 0 ((S0_.1 13 0 32) - 1).toNat)), some (.inl ((S0_.1 13 0 34) - 2)), some (.inl ((S0_.1 13 0 34) - 1)), some (.inl (S0_.2.2.1 139 0 (8 * (S0_.1 13 0 34) - 16).toNat)), some (.inl (S0_.2.2.1 139 0 (8 * (S0_.1 13 0 34) - 8).toNat))], [.inl (i_xor (S0_.2.2.1 139 0 (8 * (S0_.1 13 0 34) - 16).toNat) (S0_.2.2.1 139 0 (8 * (S0_.1 13 0 34) - 8).toNat)), .inl (8 * (S0_.1 13 0 34) - 16), .inr (.inr (some (139, 0)))], sm_pI S0_ 13 0 32 ((S0_.1 13 0 32) - 1))) rfl ?_
            refine sm_T_iast (n := 8192) rfl rfl (by omega) (by omega) ?_
            have hIx39_ : gi (sm_aI (sm_pI S0_ 13 0 32 ((S0_.1 13 0 32) - 1)) 139 0 (8 * (S0_.1 13 0 34) - 16).toNat (i_xor (S0_.2.2.1 139 0 (8 * (S0_.1 13 0 34) - 16).toNat) (S0_.2.2.1 139 0 (8 * (S0_.1 13 0 34) - 8).toNat))) := gi_aI hIx4_ (show 0 ≤ (i_xor (S0_.2.2.1 139 0 (8 * (S0_.1 13 0 34) - 16).toNat) (S0_.2.2.1 139 0 (8 * (S0_.1 13 0 34) - 8).toNat)) ∧ (i_xor (S0_.2.2.1 139 0 (8 * (S0_.1 13 0 34) - 16).toNat) (S0_.2.2.1 139 0 (8 * (S0_.1 13 0 34) - 8).toNat)) ≤ 2047 from ⟨by omega, by omega⟩)
            have hFx40_ : ai_fr (sx_W vw_313) S0_ (sm_aI (sm_pI S0_ 13 0 32 ((S0_.1 13 0 32) - 1)) 139 0 (8 * (S0_.1 13 0 34) - 16).toNat (i_xor (S0_.2.2.1 139 0 (8 * (S0_.1 13 0 34) - 16).toNat) (S0_.2.2.1 139 0 (8 * (S0_.1 13 0 34) - 8).toNat))) := ai_fr_tr hFx5_ (ai_fr_aI rfl)
            refine sm_T_go 5 (c1 := (178, [some (.inr (.inr (some (13, 0)))), some (.inl (S0_.2.2.1 136 0 ((S0_.1 13 0 32) - 1).toNat)), some (.inl (S0_.2.2.1 137 0 ((S0_.1 13 0 32) - 1).toNat)), some (.inl ((S0_.1 13 0 34) - 2)), some (.inl ((S0_.1 13 0 34) - 1)), some (.inl (S0_.2.2.1 139 0 (8 * (S0_.1 13 0 34) - 16).toNat)), some (.inl (S0_.2.2.1 139 0 (8 * (S0_.1 13 0 34) - 8).toNat))], [.inl 257, .inl (S0_.2.2.1 136 0 ((S0_.1 13 0 32) - 1).toNat), .inl ((S0_.1 13 0 34) - 2), .inr (.inr (some (138, 0)))], sm_aI (sm_pI S0_ 13 0 32 ((S0_.1 13 0 32) - 1)) 139 0 (8 * (S0_.1 13 0 34) - 16).toNat (i_xor (S0_.2.2.1 139 0 (8 * (S0_.1 13 0 34) - 16).toNat) (S0_.2.2.1 139 0 (8 * (S0_.1 13 0 34) - 8).toNat)))) rfl ?_
            refine sm_T_br (a := 1) (z := 7) rfl (fun cx41_ => ?_) (fun cx41_ => ?_)
            · have cx41_ : (S0_.2.2.1 136 0 ((S0_.1 13 0 32) - 1).toNat) ≠ 257 := of_decide_eq_true cx41_
              refine sm_T_go 3 (c1 := (190, [some (.inr (.inr (some (13, 0)))), some (.inl (S0_.2.2.1 136 0 ((S0_.1 13 0 32) - 1).toNat)), some (.inl (S0_.2.2.1 137 0 ((S0_.1 13 0 32) - 1).toNat)), some (.inl ((S0_.1 13 0 34) - 2)), some (.inl ((S0_.1 13 0 34) - 1)), some (.inl (S0_.2.2.1 139 0 (8 * (S0_.1 13 0 34) - 16).toNat)), some (.inl (S0_.2.2.1 139 0 (8 * (S0_.1 13 0 34) - 8).toNat))], [.inl ((S0_.1 13 0 34) - 2), .inr (.inr (some (138, 0))), .inl ((S0_.1 13 0 34) - 2), .inr (.inr (some (138, 0)))], sm_aI (sm_pI S0_ 13 0 32 ((S0_.1 13 0 32) - 1)) 139 0 (8 * (S0_.1 13 0 34) - 16).toNat (i_xor (S0_.2.2.1 139 0 (8 * (S0_.1 13 0 34) - 16).toNat) (S0_.2.2.1 139 0 (8 * (S0_.1 13 0 34) - 8).toNat)))) rfl ?_
              refine sm_T_iald (n := 1024) rfl rfl (by omega) (by omega) ?_
              have bx42_ : (-2147483648) ≤ S0_.2.2.1 138 0 ((S0_.1 13 0 34) - 2).toNat ∧ S0_.2.2.1 138 0 ((S0_.1 13 0 34) - 2).toNat ≤ 2147483647 := hI_.2 138 0 _
              refine sm_T_iast (n := 1024) rfl rfl (by omega) (by omega) ?_
              have hIx43_ : gi (sm_aI (sm_aI (sm_pI S0_ 13 0 32 ((S0_.1 13 0 32) - 1)) 139 0 (8 * (S0_.1 13 0 34) - 16).toNat (i_xor (S0_.2.2.1 139 0 (8 * (S0_.1 13 0 34) - 16).toNat) (S0_.2.2.1 139 0 (8 * (S0_.1 13 0 34) - 8).toNat))) 138 0 ((S0_.1 13 0 34) - 2).toNat (S0_.2.2.1 138 0 ((S0_.1 13 0 34) - 2).toNat)) := gi_aI hIx39_ (show (-2147483648) ≤ (S0_.2.2.1 138 0 ((S0_.1 13 0 34) - 2).toNat) ∧ (S0_.2.2.1 138 0 ((S0_.1 13 0 34) - 2).toNat) ≤ 2147483647 from ⟨by omega, by omega⟩)
              have hFx44_ : ai_fr (sx_W vw_313) S0_ (sm_aI (sm_aI (sm_pI S0_ 13 0 32 ((S0_.1 13 0 32) - 1)) 139 0 (8 * (S0_.1 13 0 34) - 16).toNat (i_xor (S0_.2.2.1 139 0 (8 * (S0_.1 13 0 34) - 16).toNat) (S0_.2.2.1 139 0 (8 * (S0_.1 13 0 34) - 8).toNat))) 138 0 ((S0_.1 13 0 34) - 2).toNat (S0_.2.2.1 138 0 ((S0_.1 13 0 34) - 2).toNat)) := ai_fr_tr hFx40_ (ai_fr_aI rfl)
              refine sm_T_go 4 (c1 := (198, [some (.inr (.inr (some (13, 0)))), some (.inl (S0_.2.2.1 136 0 ((S0_.1 13 0 32) - 1).toNat)), some (.inl (S0_.2.2.1 137 0 ((S0_.1 13 0 32) - 1).toNat)), some (.inl ((S0_.1 13 0 34) - 2)), some (.inl ((S0_.1 13 0 34) - 1)), some (.inl (S0_.2.2.1 139 0 (8 * (S0_.1 13 0 34) - 16).toNat)), some (.inl (S0_.2.2.1 139 0 (8 * (S0_.1 13 0 34) - 8).toNat))], [.inl 1, .inl (S0_.1 13 0 34), .inr (.inr (some (13, 0)))], sm_aI (sm_aI (sm_pI S0_ 13 0 32 ((S0_.1 13 0 32) - 1)) 139 0 (8 * (S0_.1 13 0 34) - 16).toNat (i_xor (S0_.2.2.1 139 0 (8 * (S0_.1 13 0 34) - 16).toNat) (S0_.2.2.1 139 0 (8 * (S0_.1 13 0 34) - 8).toNat))) 138 0 ((S0_.1 13 0 34) - 2).toNat (S0_.2.2.1 138 0 ((S0_.1 13 0 34) - 2).toNat))) rfl ?_
              refine sm_T_bin (w := (S0_.1 13 0 34) - 1) rfl (bi_sub (by omega) (by omega) (by omega)) ?_
              have hIx45_ : gi (sm_pI (sm_aI (sm_aI (sm_pI S0_ 13 0 32 ((S0_.1 13 0 32) - 1)) 139 0 (8 * (S0_.1 13 0 34) - 16).toNat (i_xor (S0_.2.2.1 139 0 (8 * (S0_.1 13 0 34) - 16).toNat) (S0_.2.2.1 139 0 (8 * (S0_.1 13 0 34) - 8).toNat))) 138 0 ((S0_.1 13 0 34) - 2).toNat (S0_.2.2.1 138 0 ((S0_.1 13 0 34) - 2).toNat)) 13 0 34 ((S0_.1 13 0 34) - 1)) := gi_pI hIx43_ (show 0 ≤ (S0_.1 13 0 34) - 1 ∧ (S0_.1 13 0 34) - 1 ≤ 1023 from ⟨by omega, by omega⟩)
              have hFx46_ : ai_fr (sx_W vw_313) S0_ (sm_pI (sm_aI (sm_aI (sm_pI S0_ 13 0 32 ((S0_.1 13 0 32) - 1)) 139 0 (8 * (S0_.1 13 0 34) - 16).toNat (i_xor (S0_.2.2.1 139 0 (8 * (S0_.1 13 0 34) - 16).toNat) (S0_.2.2.1 139 0 (8 * (S0_.1 13 0 34) - 8).toNat))) 138 0 ((S0_.1 13 0 34) - 2).toNat (S0_.2.2.1 138 0 ((S0_.1 13 0 34) - 2).toNat)) 13 0 34 ((S0_.1 13 0 34) - 1)) := ai_fr_tr hFx44_ (ai_fr_pI rfl)
              refine sm_T_go 1 (c1 := (202, [some (.inr (.inr (some (13, 0)))), some (.inl (S0_.2.2.1 136 0 ((S0_.1 13 0 32) - 1).toNat)), some (.inl (S0_.2.2.1 137 0 ((S0_.1 13 0 32) - 1).toNat)), some (.inl ((S0_.1 13 0 34) - 2)), some (.inl ((S0_.1 13 0 34) - 1)), some (.inl (S0_.2.2.1 139 0 (8 * (S0_.1 13 0 34) - 16).toNat)), some (.inl (S0_.2.2.1 139 0 (8 * (S0_.1 13 0 34) - 8).toNat))], [], sm_pI (sm_aI (sm_aI (sm_pI S0_ 13 0 32 ((S0_.1 13 0 32) - 1)) 139 0 (8 * (S0_.1 13 0 34) - 16).toNat (i_xor (S0_.2.2.1 139 0 (8 * (S0_.1 13 0 34) - 16).toNat) (S0_.2.2.1 139 0 (8 * (S0_.1 13 0 34) - 8).toNat))) 138 0 ((S0_.1 13 0 34) - 2).toNat (S0_.2.2.1 138 0 ((S0_.1 13 0 34) - 2).toNat)) 13 0 34 ((S0_.1 13 0 34) - 1))) rfl ?_
              refine sm_T_rv rfl ⟨_, _, rfl, rfl, hIx45_, hFx46_, ?_⟩
              refine ⟨?_, by first | rfl | ((try simp only [rd_eq, rd_ne, rf_eq, rf_nk, rf_nt, rd_fa, rd_af, rd_fl, rd_al, rd_lf, rd_la, rd_leq, rd_lne, rd_fr, rd_ar, ne_eq, Nat.reduceEqDiff, not_false_eq_true]); omega)⟩
              first | (exfalso; omega) | (have e0_ := e1_ (by omega); have mz_ : ¬ mdo mo_ = true := (by unfold mdo; rw [decide_eq_false (by omega)]; decide); have hp_ : p_ap2 (mdo mo_) k_ q_ o_ x_ y_ g_ c_ = .inr (o_, (if k_ = 4 then 1 else x_) :: g_, k_ :: c_) := (by unfold p_ap2 p_ap; rw [if_neg mz_, if_pos (by omega)]; rfl); rw [hp_]; refine ⟨⟨hg_, ⟨u0_, ⟨by (try simp only [rd_eq, rd_ne, rf_eq, rf_nk, rf_nt, rd_fa, rd_af, rd_fl, rd_al, rd_lf, rd_la, rd_leq, rd_lne, rd_fr, rd_ar, ne_eq, Nat.reduceEqDiff, not_false_eq_true]); omega, by rw [fr_arr hFx46_ rfl]; exact hw_.2.1.2, by rw [fr_arr hFx46_ rfl]; exact hw_.2.2.2⟩, Or.inr ⟨rfl, hwr1_⟩⟩, (hFx46_.1 13 0 33 rfl).trans (hop_.trans (by show (((if k_ < 0 then 1 else 0) + o_mk o_ : Nat) : Int) = _; rw [if_neg (by omega)]; simp)), ⟨?_, ?_, ?_⟩, (hFx46_.1 13 0 27 rfl).trans hmo1_⟩, s_ok_ap hk_ (by have xb_ := (h_ok_c.mp (h_ok_c.mp hs_.2.2.2).2).1; split; decide; exact xb_) hs_⟩; ((try simp only [rd_eq, rd_ne, rf_eq, rf_nk, rf_nt, rd_fa, rd_af, rd_fl, rd_al, rd_lf, rd_la, rd_leq, rd_lne, rd_fr, rd_ar, ne_eq, Nat.reduceEqDiff, not_false_eq_true]); simp only [List.length_cons]; push_cast; omega); (intro z_; refine stk_pu l1_ ?_ (v2_ z_).2.2; have q257_ := (w_sg_b (md_ := mdo mo_) (k_ := k_) (Or.inr (Or.inr (Or.inr ⟨hk_, (o_ok_lt hs_.1 hk_).2⟩)))).2.2.2.1; first | (rw [if_pos (by omega)]) | (rw [if_neg (by omega)]; exact e0_.1)); (intro z_; omega)) | (have e0_ := e2_ (by omega); have mz_ : mdo mo_ = true := (by unfold mdo; exact decide_eq_true (by omega)); have hp_ : p_ap2 (mdo mo_) k_ q_ o_ x_ y_ g_ c_ = .inr (o_, p_lo k_ x_ y_ :: g_, c_) := (by unfold p_ap2 p_ap; rw [if_pos mz_]; rfl); rw [hp_]; refine ⟨⟨hg_, ⟨u0_, ⟨by (try simp only [rd_eq, rd_ne, rf_eq, rf_nk, rf_nt, rd_fa, rd_af, rd_fl, rd_al, rd_lf, rd_la, rd_leq, rd_lne, rd_fr, rd_ar, ne_eq, Nat.reduceEqDiff, not_false_eq_true]); omega, by rw [fr_arr hFx46_ rfl]; exact hw_.2.1.2, by rw [fr_arr hFx46_ rfl]; exact hw_.2.2.2⟩, Or.inr ⟨rfl, hwr1_⟩⟩, (hFx46_.1 13 0 33 rfl).trans (hop_.trans (by show (((if k_ < 0 then 1 else 0) + o_mk o_ : Nat) : Int) = _; rw [if_neg (by omega)]; simp)), ⟨?_, ?_, ?_⟩, (hFx46_.1 13 0 27 rfl).trans hmo1_⟩, s_ok_ap hk_ (p_lo_b (h_ok_c.mp (h_ok_c.mp hs_.2.2.2).2).1 (h_ok_c.mp hs_.2.2.2).1) hs_⟩; ((try simp only [rd_eq, rd_ne, rf_eq, rf_nk, rf_nt, rd_fa, rd_af, rd_fl, rd_al, rd_lf, rd_la, rd_leq, rd_lne, rd_fr, rd_ar, ne_eq, Nat.reduceEqDiff, not_false_eq_true]); simp only [List.length_cons]; push_cast; omega); (intro z_; omega); (intro z_; refine stk_8o (stk_8p l3_ ?_ (v3_ z_).2.2) (by decide); unfold p_lo; rw [e0_.1, e0_.2]; have q124_ := (w_sg_b (md_ := mdo mo_) (k_ := k_) (Or.inr (Or.inr (Or.inr ⟨hk_, (o_ok_lt hs_.1 hk_).2⟩)))).2.2.2.2.2.2.2; first | (rw [if_pos (by omega)]) | (rw [if_neg (by omega), if_pos (by omega)]) | (rw [if_neg (by omega), if_neg (by omega)]))) | (have e0_ := e1_ (by omega); have mz_ : ¬ mdo mo_ = true := (by unfold mdo; rw [decide_eq_false (by omega)]; decide); have hp_ : p_ap2 (mdo mo_) k_ q_ o_ x_ y_ g_ c_ = .inl (13, q_) := (by unfold p_ap2 p_ap; rw [if_neg mz_, if_neg (by omega)]; rfl); rw [hp_]; rcases e77_ with z_ | z_; (exact absurd hf0_ z_.1); (refine ⟨z_.2.1, ?_, by show (13 : Int) ≠ 0; decide, ?_, md77_⟩; (refine Eq.trans z_.2.2 ?_; show S0_.2.2.1 120 0 (S0_.2.2.1 137 0 (S0_.1 13 0 32 - 1).toNat).toNat = _; rw [wtk_]; exact hq1_.2); ((try simp only [rd_eq, rd_ne, rf_eq, rf_nk, rf_nt, rd_fa, rd_af, rd_fl, rd_al, rd_lf, rd_la, rd_leq, rd_lne, rd_fr, rd_ar, ne_eq, Nat.reduceEqDiff, not_false_eq_true]); omega)))
            · have cx41_ : ¬ ((S0_.2.2.1 136 0 ((S0_.1 13 0 32) - 1).toNat) ≠ 257) := of_decide_eq_false cx41_
              exfalso; omega
        · have cx23_ : ¬ ((S0_.2.2.1 136 0 ((S0_.1 13 0 32) - 1).toNat) ≠ 124) := of_decide_eq_false cx23_
          refine sm_T_go 2 (c1 := (145, [some (.inr (.inr (some (13, 0)))), some (.inl (S0_.2.2.1 136 0 ((S0_.1 13 0 32) - 1).toNat)), some (.inl (S0_.2.2.1 137 0 ((S0_.1 13 0 32) - 1).toNat)), some (.inl ((S0_.1 13 0 34) - 2)), some (.inl ((S0_.1 13 0 34) - 1)), some (.inl (S0_.2.2.1 139 0 (8 * (S0_.1 13 0 34) - 16).toNat)), some (.inl (S0_.2.2.1 139 0 (8 * (S0_.1 13 0 34) - 8).toNat))], [.inl (S0_.2.2.1 139 0 (8 * (S0_.1 13 0 34) - 8).toNat), .inl (S0_.2.2.1 139 0 (8 * (S0_.1 13 0 34) - 16).toNat), .inl (8 * (S0_.1 13 0 34) - 16), .inr (.inr (some (139, 0)))], sm_pI S0_ 13 0 32 ((S0_.1 13 0 32) - 1))) rfl ?_
          refine sm_T_bin (w := (i_or (S0_.2.2.1 139 0 (8 * (S0_.1 13 0 34) - 16).toNat) (S0_.2.2.1 139 0 (8 * (S0_.1 13 0 34) - 8).toNat))) rfl rfl ?_
          have bx47_ := (i_x11 (x_ := (S0_.2.2.1 139 0 (8 * (S0_.1 13 0 34) - 16).toNat)) (y_ := (S0_.2.2.1 139 0 (8 * (S0_.1 13 0 34) - 8).toNat)) ⟨by omega, by omega⟩ ⟨by omega, by omega⟩).1
          refine sm_T_go 1 (c1 := (168, [some (.inr (.inr (some (13, 0)))), some (.inl (S0_.2.2.1 136 0 ((S0_.1 13 0 32) - 1).toNat)), some (.inl (S0_.2.2.1 137 0 ((S0_.1 13 0 32) - 1).toNat)), some (.inl ((S0_.1 13 0 34) - 2)), some (.inl ((S0_.1 13 0 34) - 1)), some (.inl (S0_.2.2.1 139 0 (8 * (S0_.1 13 0 34) - 16).toNat)), some (.inl (S0_.2.2.1 139 0 (8 * (S0_.1 13 0 34) - 8).toNat))], [.inl (i_or (S0_.2.2.1 139 0 (8 * (S0_.1 13 0 34) - 16).toNat) (S0_.2.2.1 139 0 (8 * (S0_.1 13 0 34) - 8).toNat)), .inl (8 * (S0_.1 13 0 34) - 16), .inr (.inr (some (139, 0)))], sm_pI S0_ 13 0 32 ((S0_.1 13 0 32) - 1))) rfl ?_
          refine sm_T_iast (n := 8192) rfl rfl (by omega) (by omega) ?_
          have hIx48_ : gi (sm_aI (sm_pI S0_ 13 0 32 ((S0_.1 13 0 32) - 1)) 139 0 (8 * (S0_.1 13 0 34) - 16).toNat (i_or (S0_.2.2.1 139 0 (8 * (S0_.1 13 0 34) - 16).toNat) (S0_.2.2.1 139 0 (8 * (S0_.1 13 0 34) - 8).toNat))) := gi_aI hIx4_ (show 0 ≤ (i_or (S0_.2.2.1 139 0 (8 * (S0_.1 13 0 34) - 16).toNat) (S0_.2.2.1 139 0 (8 * (S0_.1 13 0 34) - 8).toNat)) ∧ (i_or (S0_.2.2.1 139 0 (8 * (S0_.1 13 0 34) - 16).toNat) (S0_.2.2.1 139 0 (8 * (S0_.1 13 0 34) - 8).toNat)) ≤ 2047 from ⟨by omega, by omega⟩)
          have hFx49_ : ai_fr (sx_W vw_313) S0_ (sm_aI (sm_pI S0_ 13 0 32 ((S0_.1 13 0 32) - 1)) 139 0 (8 * (S0_.1 13 0 34) - 16).toNat (i_or (S0_.2.2.1 139 0 (8 * (S0_.1 13 0 34) - 16).toNat) (S0_.2.2.1 139 0 (8 * (S0_.1 13 0 34) - 8).toNat))) := ai_fr_tr hFx5_ (ai_fr_aI rfl)
          refine sm_T_go 5 (c1 := (178, [some (.inr (.inr (some (13, 0)))), some (.inl (S0_.2.2.1 136 0 ((S0_.1 13 0 32) - 1).toNat)), some (.inl (S0_.2.2.1 137 0 ((S0_.1 13 0 32) - 1).toNat)), some (.inl ((S0_.1 13 0 34) - 2)), some (.inl ((S0_.1 13 0 34) - 1)), some (.inl (S0_.2.2.1 139 0 (8 * (S0_.1 13 0 34) - 16).toNat)), some (.inl (S0_.2.2.1 139 0 (8 * (S0_.1 13 0 34) - 8).toNat))], [.inl 257, .inl (S0_.2.2.1 136 0 ((S0_.1 13 0 32) - 1).toNat), .inl ((S0_.1 13 0 34) - 2), .inr (.inr (some (138, 0)))], sm_aI (sm_pI S0_ 13 0 32 ((S0_.1 13 0 32) - 1)) 139 0 (8 * (S0_.1 13 0 34) - 16).toNat (i_or (S0_.2.2.1 139 0 (8 * (S0_.1 13 0 34) - 16).toNat) (S0_.2.2.1 139 0 (8 * (S0_.1 13 0 34) - 8).toNat)))) rfl ?_
          refine sm_T_br (a := 1) (z := 7) rfl (fun cx50_ => ?_) (fun cx50_ => ?_)
          · have cx50_ : (S0_.2.2.1 136 0 ((S0_.1 13 0 32) - 1).toNat) ≠ 257 := of_decide_eq_true cx50_
            refine sm_T_go 3 (c1 := (190, [some (.inr (.inr (some (13, 0)))), some (.inl (S0_.2.2.1 136 0 ((S0_.1 13 0 32) - 1).toNat)), some (.inl (S0_.2.2.1 137 0 ((S0_.1 13 0 32) - 1).toNat)), some (.inl ((S0_.1 13 0 34) - 2)), some (.inl ((S0_.1 13 0 34) - 1)), some (.inl (S0_.2.2.1 139 0 (8 * (S0_.1 13 0 34) - 16).toNat)), some (.inl (S0_.2.2.1 139 0 (8 * (S0_.1 13 0 34) - 8).toNat))], [.inl ((S0_.1 13 0 34) - 2), .inr (.inr (some (138, 0))), .inl ((S0_.1 13 0 34) - 2), .inr (.inr (some (138, 0)))], sm_aI (sm_pI S0_ 13 0 32 ((S0_.1 13 0 32) - 1)) 139 0 (8 * (S0_.1 13 0 34) - 16).toNat (i_or (S0_.2.2.1 139 0 (8 * (S0_.1 13 0 34) - 16).toNat) (S0_.2.2.1 139 0 (8 * (S0_.1 13 0 34) - 8).toNat)))) rfl ?_
            refine sm_T_iald (n := 1024) rfl rfl (by omega) (by omega) ?_
            have bx51_ : (-2147483648) ≤ S0_.2.2.1 138 0 ((S0_.1 13 0 34) - 2).toNat ∧ S0_.2.2.1 138 0 ((S0_.1 13 0 34) - 2).toNat ≤ 2147483647 := hI_.2 138 0 _
            refine sm_T_iast (n := 1024) rfl rfl (by omega) (by omega) ?_
            have hIx52_ : gi (sm_aI (sm_aI (sm_pI S0_ 13 0 32 ((S0_.1 13 0 32) - 1)) 139 0 (8 * (S0_.1 13 0 34) - 16).toNat (i_or (S0_.2.2.1 139 0 (8 * (S0_.1 13 0 34) - 16).toNat) (S0_.2.2.1 139 0 (8 * (S0_.1 13 0 34) - 8).toNat))) 138 0 ((S0_.1 13 0 34) - 2).toNat (S0_.2.2.1 138 0 ((S0_.1 13 0 34) - 2).toNat)) := gi_aI hIx48_ (show (-2147483648) ≤ (S0_.2.2.1 138 0 ((S0_.1 13 0 34) - 2).toNat) ∧ (S0_.2.2.1 138 0 ((S0_.1 13 0 34) - 2).toNat) ≤ 2147483647 from ⟨by omega, by omega⟩)
            have hFx53_ : ai_fr (sx_W vw_313) S0_ (sm_aI (sm_aI (sm_pI S0_ 13 0 32 ((S0_.1 13 0 32) - 1)) 139 0 (8 * (S0_.1 13 0 34) - 16).toNat (i_or (S0_.2.2.1 139 0 (8 * (S0_.1 13 0 34) - 16).toNat) (S0_.2.2.1 139 0 (8 * (S0_.1 13 0 34) - 8).toNat))) 138 0 ((S0_.1 13 0 34) - 2).toNat (S0_.2.2.1 138 0 ((S0_.1 13 0 34) - 2).toNat)) := ai_fr_tr hFx49_ (ai_fr_aI rfl)
            refine sm_T_go 4 (c1 := (198, [some (.inr (.inr (some (13, 0)))), some (.inl (S0_.2.2.1 136 0 ((S0_.1 13 0 32) - 1).toNat)), some (.inl (S0_.2.2.1 137 0 ((S0_.1 13 0 32) - 1).toNat)), some (.inl ((S0_.1 13 0 34) - 2)), some (.inl ((S0_.1 13 0 34) - 1)), some (.inl (S0_.2.2.1 139 0 (8 * (S0_.1 13 0 34) - 16).toNat)), some (.inl (S0_.2.2.1 139 0 (8 * (S0_.1 13 0 34) - 8).toNat))], [.inl 1, .inl (S0_.1 13 0 34), .inr (.inr (some (13, 0)))], sm_aI (sm_aI (sm_pI S0_ 13 0 32 ((S0_.1 13 0 32) - 1)) 139 0 (8 * (S0_.1 13 0 34) - 16).toNat (i_or (S0_.2.2.1 139 0 (8 * (S0_.1 13 0 34) - 16).toNat) (S0_.2.2.1 139 0 (8 * (S0_.1 13 0 34) - 8).toNat))) 138 0 ((S0_.1 13 0 34) - 2).toNat (S0_.2.2.1 138 0 ((S0_.1 13 0 34) - 2).toNat))) rfl ?_
            refine sm_T_bin (w := (S0_.1 13 0 34) - 1) rfl (bi_sub (by omega) (by omega) (by omega)) ?_
            have hIx54_ : gi (sm_pI (sm_aI (sm_aI (sm_pI S0_ 13 0 32 ((S0_.1 13 0 32) - 1)) 139 0 (8 * (S0_.1 13 0 34) - 16).toNat (i_or (S0_.2.2.1 139 0 (8 * (S0_.1 13 0 34) - 16).toNat) (S0_.2.2.1 139 0 (8 * (S0_.1 13 0 34) - 8).toNat))) 138 0 ((S0_.1 13 0 34) - 2).toNat (S0_.2.2.1 138 0 ((S0_.1 13 0 34) - 2).toNat)) 13 0 34 ((S0_.1 13 0 34) - 1)) := gi_pI hIx52_ (show 0 ≤ (S0_.1 13 0 34) - 1 ∧ (S0_.1 13 0 34) - 1 ≤ 1023 from ⟨by omega, by omega⟩)
            have hFx55_ : ai_fr (sx_W vw_313) S0_ (sm_pI (sm_aI (sm_aI (sm_pI S0_ 13 0 32 ((S0_.1 13 0 32) - 1)) 139 0 (8 * (S0_.1 13 0 34) - 16).toNat (i_or (S0_.2.2.1 139 0 (8 * (S0_.1 13 0 34) - 16).toNat) (S0_.2.2.1 139 0 (8 * (S0_.1 13 0 34) - 8).toNat))) 138 0 ((S0_.1 13 0 34) - 2).toNat (S0_.2.2.1 138 0 ((S0_.1 13 0 34) - 2).toNat)) 13 0 34 ((S0_.1 13 0 34) - 1)) := ai_fr_tr hFx53_ (ai_fr_pI rfl)
            refine sm_T_go 1 (c1 := (202, [some (.inr (.inr (some (13, 0)))), some (.inl (S0_.2.2.1 136 0 ((S0_.1 13 0 32) - 1).toNat)), some (.inl (S0_.2.2.1 137 0 ((S0_.1 13 0 32) - 1).toNat)), some (.inl ((S0_.1 13 0 34) - 2)), some (.inl ((S0_.1 13 0 34) - 1)), some (.inl (S0_.2.2.1 139 0 (8 * (S0_.1 13 0 34) - 16).toNat)), some (.inl (S0_.2.2.1 139 0 (8 * (S0_.1 13 0 34) - 8).toNat))], [], sm_pI (sm_aI (sm_aI (sm_pI S0_ 13 0 32 ((S0_.1 13 0 32) - 1)) 139 0 (8 * (S0_.1 13 0 34) - 16).toNat (i_or (S0_.2.2.1 139 0 (8 * (S0_.1 13 0 34) - 16).toNat) (S0_.2.2.1 139 0 (8 * (S0_.1 13 0 34) - 8).toNat))) 138 0 ((S0_.1 13 0 34) - 2).toNat (S0_.2.2.1 138 0 ((S0_.1 13 0 34) - 2).toNat)) 13 0 34 ((S0_.1 13 0 34) - 1))) rfl ?_
            refine sm_T_rv rfl ⟨_, _, rfl, rfl, hIx54_, hFx55_, ?_⟩
            refine ⟨?_, by first | rfl | ((try simp only [rd_eq, rd_ne, rf_eq, rf_nk, rf_nt, rd_fa, rd_af, rd_fl, rd_al, rd_lf, rd_la, rd_leq, rd_lne, rd_fr, rd_ar, ne_eq, Nat.reduceEqDiff, not_false_eq_true]); omega)⟩
            first | (exfalso; omega) | (have e0_ := e1_ (by omega); have mz_ : ¬ mdo mo_ = true := (by unfold mdo; rw [decide_eq_false (by omega)]; decide); have hp_ : p_ap2 (mdo mo_) k_ q_ o_ x_ y_ g_ c_ = .inr (o_, (if k_ = 4 then 1 else x_) :: g_, k_ :: c_) := (by unfold p_ap2 p_ap; rw [if_neg mz_, if_pos (by omega)]; rfl); rw [hp_]; refine ⟨⟨hg_, ⟨u0_, ⟨by (try simp only [rd_eq, rd_ne, rf_eq, rf_nk, rf_nt, rd_fa, rd_af, rd_fl, rd_al, rd_lf, rd_la, rd_leq, rd_lne, rd_fr, rd_ar, ne_eq, Nat.reduceEqDiff, not_false_eq_true]); omega, by rw [fr_arr hFx55_ rfl]; exact hw_.2.1.2, by rw [fr_arr hFx55_ rfl]; exact hw_.2.2.2⟩, Or.inr ⟨rfl, hwr1_⟩⟩, (hFx55_.1 13 0 33 rfl).trans (hop_.trans (by show (((if k_ < 0 then 1 else 0) + o_mk o_ : Nat) : Int) = _; rw [if_neg (by omega)]; simp)), ⟨?_, ?_, ?_⟩, (hFx55_.1 13 0 27 rfl).trans hmo1_⟩, s_ok_ap hk_ (by have xb_ := (h_ok_c.mp (h_ok_c.mp hs_.2.2.2).2).1; split; decide; exact xb_) hs_⟩; ((try simp only [rd_eq, rd_ne, rf_eq, rf_nk, rf_nt, rd_fa, rd_af, rd_fl, rd_al, rd_lf, rd_la, rd_leq, rd_lne, rd_fr, rd_ar, ne_eq, Nat.reduceEqDiff, not_false_eq_true]); simp only [List.length_cons]; push_cast; omega); (intro z_; refine stk_pu l1_ ?_ (v2_ z_).2.2; have q257_ := (w_sg_b (md_ := mdo mo_) (k_ := k_) (Or.inr (Or.inr (Or.inr ⟨hk_, (o_ok_lt hs_.1 hk_).2⟩)))).2.2.2.1; first | (rw [if_pos (by omega)]) | (rw [if_neg (by omega)]; exact e0_.1)); (intro z_; omega)) | (have e0_ := e2_ (by omega); have mz_ : mdo mo_ = true := (by unfold mdo; exact decide_eq_true (by omega)); have hp_ : p_ap2 (mdo mo_) k_ q_ o_ x_ y_ g_ c_ = .inr (o_, p_lo k_ x_ y_ :: g_, c_) := (by unfold p_ap2 p_ap; rw [if_pos mz_]; rfl); rw [hp_]; refine ⟨⟨hg_, ⟨u0_, ⟨by (try simp only [rd_eq, rd_ne, rf_eq, rf_nk, rf_nt, rd_fa, rd_af, rd_fl, rd_al, rd_lf, rd_la, rd_leq, rd_lne, rd_fr, rd_ar, ne_eq, Nat.reduceEqDiff, not_false_eq_true]); omega, by rw [fr_arr hFx55_ rfl]; exact hw_.2.1.2, by rw [fr_arr hFx55_ rfl]; exact hw_.2.2.2⟩, Or.inr ⟨rfl, hwr1_⟩⟩, (hFx55_.1 13 0 33 rfl).trans (hop_.trans (by show (((if k_ < 0 then 1 else 0) + o_mk o_ : Nat) : Int) = _; rw [if_neg (by omega)]; simp)), ⟨?_, ?_, ?_⟩, (hFx55_.1 13 0 27 rfl).trans hmo1_⟩, s_ok_ap hk_ (p_lo_b (h_ok_c.mp (h_ok_c.mp hs_.2.2.2).2).1 (h_ok_c.mp hs_.2.2.2).1) hs_⟩; ((try simp only [rd_eq, rd_ne, rf_eq, rf_nk, rf_nt, rd_fa, rd_af, rd_fl, rd_al, rd_lf, rd_la, rd_leq, rd_lne, rd_fr, rd_ar, ne_eq, Nat.reduceEqDiff, not_false_eq_true]); simp only [List.length_cons]; push_cast; omega); (intro z_; omega); (intro z_; refine stk_8o (stk_8p l3_ ?_ (v3_ z_).2.2) (by decide); unfold p_lo; rw [e0_.1, e0_.2]; have q124_ := (w_sg_b (md_ := mdo mo_) (k_ := k_) (Or.inr (Or.inr (Or.inr ⟨hk_, (o_ok_lt hs_.1 hk_).2⟩)))).2.2.2.2.2.2.2; first | (rw [if_pos (by omega)]) | (rw [if_neg (by omega), if_pos (by omega)]) | (rw [if_neg (by omega), if_neg (by omega)]))) | (have e0_ := e1_ (by omega); have mz_ : ¬ mdo mo_ = true := (by unfold mdo; rw [decide_eq_false (by omega)]; decide); have hp_ : p_ap2 (mdo mo_) k_ q_ o_ x_ y_ g_ c_ = .inl (13, q_) := (by unfold p_ap2 p_ap; rw [if_neg mz_, if_neg (by omega)]; rfl); rw [hp_]; rcases e77_ with z_ | z_; (exact absurd hf0_ z_.1); (refine ⟨z_.2.1, ?_, by show (13 : Int) ≠ 0; decide, ?_, md77_⟩; (refine Eq.trans z_.2.2 ?_; show S0_.2.2.1 120 0 (S0_.2.2.1 137 0 (S0_.1 13 0 32 - 1).toNat).toNat = _; rw [wtk_]; exact hq1_.2); ((try simp only [rd_eq, rd_ne, rf_eq, rf_nk, rf_nt, rd_fa, rd_af, rd_fl, rd_al, rd_lf, rd_la, rd_leq, rd_lne, rd_fr, rd_ar, ne_eq, Nat.reduceEqDiff, not_false_eq_true]); omega)))
          · have cx50_ : ¬ ((S0_.2.2.1 136 0 ((S0_.1 13 0 32) - 1).toNat) ≠ 257) := of_decide_eq_false cx50_
            exfalso; omega
    · have cx9_ : ¬ ((S0_.1 13 0 27) ≠ 1) := of_decide_eq_false cx9_
      exfalso; omega
  · have cx8_ : ¬ (2 ≤ (S0_.1 13 0 27)) := of_decide_eq_false cx8_
    refine sm_T_go 3 (c1 := (62, [some (.inr (.inr (some (13, 0)))), some (.inl (S0_.2.2.1 136 0 ((S0_.1 13 0 32) - 1).toNat)), some (.inl (S0_.2.2.1 137 0 ((S0_.1 13 0 32) - 1).toNat)), some (.inl ((S0_.1 13 0 34) - 2)), some (.inl ((S0_.1 13 0 34) - 1)), none, none], [.inl ((S0_.1 13 0 34) - 2), .inr (.inr (some (138, 0)))], sm_pI S0_ 13 0 32 ((S0_.1 13 0 32) - 1))) rfl ?_
    refine sm_T_iald (n := 1024) rfl rfl (by omega) (by omega) ?_
    have bx56_ : (-2147483648) ≤ S0_.2.2.1 138 0 ((S0_.1 13 0 34) - 2).toNat ∧ S0_.2.2.1 138 0 ((S0_.1 13 0 34) - 2).toNat ≤ 2147483647 := hI_.2 138 0 _
    refine sm_T_go 3 (c1 := (69, [some (.inr (.inr (some (13, 0)))), some (.inl (S0_.2.2.1 136 0 ((S0_.1 13 0 32) - 1).toNat)), some (.inl (S0_.2.2.1 137 0 ((S0_.1 13 0 32) - 1).toNat)), some (.inl ((S0_.1 13 0 34) - 2)), some (.inl ((S0_.1 13 0 34) - 1)), none, none], [.inl ((S0_.1 13 0 34) - 1), .inr (.inr (some (138, 0))), .inl (S0_.2.2.1 138 0 ((S0_.1 13 0 34) - 2).toNat)], sm_pI S0_ 13 0 32 ((S0_.1 13 0 32) - 1))) rfl ?_
    refine sm_T_iald (n := 1024) rfl rfl (by omega) (by omega) ?_
    have bx57_ : (-2147483648) ≤ S0_.2.2.1 138 0 ((S0_.1 13 0 34) - 1).toNat ∧ S0_.2.2.1 138 0 ((S0_.1 13 0 34) - 1).toNat ≤ 2147483647 := hI_.2 138 0 _
    refine sm_T_br (a := 0) (z := 10) rfl (fun cx58_ => ?_) (fun cx58_ => ?_)
    · have cx58_ : (S0_.2.2.1 138 0 ((S0_.1 13 0 34) - 2).toNat) = (S0_.2.2.1 138 0 ((S0_.1 13 0 34) - 1).toNat) := of_decide_eq_true cx58_
      refine sm_T_go 3 (c1 := (85, [some (.inr (.inr (some (13, 0)))), some (.inl (S0_.2.2.1 136 0 ((S0_.1 13 0 32) - 1).toNat)), some (.inl (S0_.2.2.1 137 0 ((S0_.1 13 0 32) - 1).toNat)), some (.inl ((S0_.1 13 0 34) - 2)), some (.inl ((S0_.1 13 0 34) - 1)), none, none], [.inl 1, .inl (S0_.1 13 0 27)], sm_pI S0_ 13 0 32 ((S0_.1 13 0 32) - 1))) rfl ?_
      refine sm_T_br (a := 1) (z := 11) rfl (fun cx59_ => ?_) (fun cx59_ => ?_)
      · have cx59_ : (S0_.1 13 0 27) ≠ 1 := of_decide_eq_true cx59_
        refine sm_T_go 3 (c1 := (101, [some (.inr (.inr (some (13, 0)))), some (.inl (S0_.2.2.1 136 0 ((S0_.1 13 0 32) - 1).toNat)), some (.inl (S0_.2.2.1 137 0 ((S0_.1 13 0 32) - 1).toNat)), some (.inl ((S0_.1 13 0 34) - 2)), some (.inl ((S0_.1 13 0 34) - 1)), none, none], [.inl 2, .inl (S0_.1 13 0 27)], sm_pI S0_ 13 0 32 ((S0_.1 13 0 32) - 1))) rfl ?_
        refine sm_T_br (a := 1) (z := 68) rfl (fun cx60_ => ?_) (fun cx60_ => ?_)
        · have cx60_ : (S0_.1 13 0 27) ≠ 2 := of_decide_eq_true cx60_
          refine sm_T_go 5 (c1 := (178, [some (.inr (.inr (some (13, 0)))), some (.inl (S0_.2.2.1 136 0 ((S0_.1 13 0 32) - 1).toNat)), some (.inl (S0_.2.2.1 137 0 ((S0_.1 13 0 32) - 1).toNat)), some (.inl ((S0_.1 13 0 34) - 2)), some (.inl ((S0_.1 13 0 34) - 1)), none, none], [.inl 257, .inl (S0_.2.2.1 136 0 ((S0_.1 13 0 32) - 1).toNat), .inl ((S0_.1 13 0 34) - 2), .inr (.inr (some (138, 0)))], sm_pI S0_ 13 0 32 ((S0_.1 13 0 32) - 1))) rfl ?_
          refine sm_T_br (a := 1) (z := 7) rfl (fun cx61_ => ?_) (fun cx61_ => ?_)
          · have cx61_ : (S0_.2.2.1 136 0 ((S0_.1 13 0 32) - 1).toNat) ≠ 257 := of_decide_eq_true cx61_
            refine sm_T_go 3 (c1 := (190, [some (.inr (.inr (some (13, 0)))), some (.inl (S0_.2.2.1 136 0 ((S0_.1 13 0 32) - 1).toNat)), some (.inl (S0_.2.2.1 137 0 ((S0_.1 13 0 32) - 1).toNat)), some (.inl ((S0_.1 13 0 34) - 2)), some (.inl ((S0_.1 13 0 34) - 1)), none, none], [.inl ((S0_.1 13 0 34) - 2), .inr (.inr (some (138, 0))), .inl ((S0_.1 13 0 34) - 2), .inr (.inr (some (138, 0)))], sm_pI S0_ 13 0 32 ((S0_.1 13 0 32) - 1))) rfl ?_
            refine sm_T_iald (n := 1024) rfl rfl (by omega) (by omega) ?_
            refine sm_T_iast (n := 1024) rfl rfl (by omega) (by omega) ?_
            have hIx62_ : gi (sm_aI (sm_pI S0_ 13 0 32 ((S0_.1 13 0 32) - 1)) 138 0 ((S0_.1 13 0 34) - 2).toNat (S0_.2.2.1 138 0 ((S0_.1 13 0 34) - 2).toNat)) := gi_aI hIx4_ (show (-2147483648) ≤ (S0_.2.2.1 138 0 ((S0_.1 13 0 34) - 2).toNat) ∧ (S0_.2.2.1 138 0 ((S0_.1 13 0 34) - 2).toNat) ≤ 2147483647 from ⟨by omega, by omega⟩)
            have hFx63_ : ai_fr (sx_W vw_313) S0_ (sm_aI (sm_pI S0_ 13 0 32 ((S0_.1 13 0 32) - 1)) 138 0 ((S0_.1 13 0 34) - 2).toNat (S0_.2.2.1 138 0 ((S0_.1 13 0 34) - 2).toNat)) := ai_fr_tr hFx5_ (ai_fr_aI rfl)
            refine sm_T_go 4 (c1 := (198, [some (.inr (.inr (some (13, 0)))), some (.inl (S0_.2.2.1 136 0 ((S0_.1 13 0 32) - 1).toNat)), some (.inl (S0_.2.2.1 137 0 ((S0_.1 13 0 32) - 1).toNat)), some (.inl ((S0_.1 13 0 34) - 2)), some (.inl ((S0_.1 13 0 34) - 1)), none, none], [.inl 1, .inl (S0_.1 13 0 34), .inr (.inr (some (13, 0)))], sm_aI (sm_pI S0_ 13 0 32 ((S0_.1 13 0 32) - 1)) 138 0 ((S0_.1 13 0 34) - 2).toNat (S0_.2.2.1 138 0 ((S0_.1 13 0 34) - 2).toNat))) rfl ?_
            refine sm_T_bin (w := (S0_.1 13 0 34) - 1) rfl (bi_sub (by omega) (by omega) (by omega)) ?_
            have hIx64_ : gi (sm_pI (sm_aI (sm_pI S0_ 13 0 32 ((S0_.1 13 0 32) - 1)) 138 0 ((S0_.1 13 0 34) - 2).toNat (S0_.2.2.1 138 0 ((S0_.1 13 0 34) - 2).toNat)) 13 0 34 ((S0_.1 13 0 34) - 1)) := gi_pI hIx62_ (show 0 ≤ (S0_.1 13 0 34) - 1 ∧ (S0_.1 13 0 34) - 1 ≤ 1023 from ⟨by omega, by omega⟩)
            have hFx65_ : ai_fr (sx_W vw_313) S0_ (sm_pI (sm_aI (sm_pI S0_ 13 0 32 ((S0_.1 13 0 32) - 1)) 138 0 ((S0_.1 13 0 34) - 2).toNat (S0_.2.2.1 138 0 ((S0_.1 13 0 34) - 2).toNat)) 13 0 34 ((S0_.1 13 0 34) - 1)) := ai_fr_tr hFx63_ (ai_fr_pI rfl)
            refine sm_T_go 1 (c1 := (202, [some (.inr (.inr (some (13, 0)))), some (.inl (S0_.2.2.1 136 0 ((S0_.1 13 0 32) - 1).toNat)), some (.inl (S0_.2.2.1 137 0 ((S0_.1 13 0 32) - 1).toNat)), some (.inl ((S0_.1 13 0 34) - 2)), some (.inl ((S0_.1 13 0 34) - 1)), none, none], [], sm_pI (sm_aI (sm_pI S0_ 13 0 32 ((S0_.1 13 0 32) - 1)) 138 0 ((S0_.1 13 0 34) - 2).toNat (S0_.2.2.1 138 0 ((S0_.1 13 0 34) - 2).toNat)) 13 0 34 ((S0_.1 13 0 34) - 1))) rfl ?_
            refine sm_T_rv rfl ⟨_, _, rfl, rfl, hIx64_, hFx65_, ?_⟩
            refine ⟨?_, by first | rfl | ((try simp only [rd_eq, rd_ne, rf_eq, rf_nk, rf_nt, rd_fa, rd_af, rd_fl, rd_al, rd_lf, rd_la, rd_leq, rd_lne, rd_fr, rd_ar, ne_eq, Nat.reduceEqDiff, not_false_eq_true]); omega)⟩
            first | (exfalso; omega) | (have e0_ := e1_ (by omega); have mz_ : ¬ mdo mo_ = true := (by unfold mdo; rw [decide_eq_false (by omega)]; decide); have hp_ : p_ap2 (mdo mo_) k_ q_ o_ x_ y_ g_ c_ = .inr (o_, (if k_ = 4 then 1 else x_) :: g_, k_ :: c_) := (by unfold p_ap2 p_ap; rw [if_neg mz_, if_pos (by omega)]; rfl); rw [hp_]; refine ⟨⟨hg_, ⟨u0_, ⟨by (try simp only [rd_eq, rd_ne, rf_eq, rf_nk, rf_nt, rd_fa, rd_af, rd_fl, rd_al, rd_lf, rd_la, rd_leq, rd_lne, rd_fr, rd_ar, ne_eq, Nat.reduceEqDiff, not_false_eq_true]); omega, by rw [fr_arr hFx65_ rfl]; exact hw_.2.1.2, by rw [fr_arr hFx65_ rfl]; exact hw_.2.2.2⟩, Or.inr ⟨rfl, hwr1_⟩⟩, (hFx65_.1 13 0 33 rfl).trans (hop_.trans (by show (((if k_ < 0 then 1 else 0) + o_mk o_ : Nat) : Int) = _; rw [if_neg (by omega)]; simp)), ⟨?_, ?_, ?_⟩, (hFx65_.1 13 0 27 rfl).trans hmo1_⟩, s_ok_ap hk_ (by have xb_ := (h_ok_c.mp (h_ok_c.mp hs_.2.2.2).2).1; split; decide; exact xb_) hs_⟩; ((try simp only [rd_eq, rd_ne, rf_eq, rf_nk, rf_nt, rd_fa, rd_af, rd_fl, rd_al, rd_lf, rd_la, rd_leq, rd_lne, rd_fr, rd_ar, ne_eq, Nat.reduceEqDiff, not_false_eq_true]); simp only [List.length_cons]; push_cast; omega); (intro z_; refine stk_pu l1_ ?_ (v2_ z_).2.2; have q257_ := (w_sg_b (md_ := mdo mo_) (k_ := k_) (Or.inr (Or.inr (Or.inr ⟨hk_, (o_ok_lt hs_.1 hk_).2⟩)))).2.2.2.1; first | (rw [if_pos (by omega)]) | (rw [if_neg (by omega)]; exact e0_.1)); (intro z_; omega)) | (have e0_ := e2_ (by omega); have mz_ : mdo mo_ = true := (by unfold mdo; exact decide_eq_true (by omega)); have hp_ : p_ap2 (mdo mo_) k_ q_ o_ x_ y_ g_ c_ = .inr (o_, p_lo k_ x_ y_ :: g_, c_) := (by unfold p_ap2 p_ap; rw [if_pos mz_]; rfl); rw [hp_]; refine ⟨⟨hg_, ⟨u0_, ⟨by (try simp only [rd_eq, rd_ne, rf_eq, rf_nk, rf_nt, rd_fa, rd_af, rd_fl, rd_al, rd_lf, rd_la, rd_leq, rd_lne, rd_fr, rd_ar, ne_eq, Nat.reduceEqDiff, not_false_eq_true]); omega, by rw [fr_arr hFx65_ rfl]; exact hw_.2.1.2, by rw [fr_arr hFx65_ rfl]; exact hw_.2.2.2⟩, Or.inr ⟨rfl, hwr1_⟩⟩, (hFx65_.1 13 0 33 rfl).trans (hop_.trans (by show (((if k_ < 0 then 1 else 0) + o_mk o_ : Nat) : Int) = _; rw [if_neg (by omega)]; simp)), ⟨?_, ?_, ?_⟩, (hFx65_.1 13 0 27 rfl).trans hmo1_⟩, s_ok_ap hk_ (p_lo_b (h_ok_c.mp (h_ok_c.mp hs_.2.2.2).2).1 (h_ok_c.mp hs_.2.2.2).1) hs_⟩; ((try simp only [rd_eq, rd_ne, rf_eq, rf_nk, rf_nt, rd_fa, rd_af, rd_fl, rd_al, rd_lf, rd_la, rd_leq, rd_lne, rd_fr, rd_ar, ne_eq, Nat.reduceEqDiff, not_false_eq_true]); simp only [List.length_cons]; push_cast; omega); (intro z_; omega); (intro z_; refine stk_8o (stk_8p l3_ ?_ (v3_ z_).2.2) (by decide); unfold p_lo; rw [e0_.1, e0_.2]; have q124_ := (w_sg_b (md_ := mdo mo_) (k_ := k_) (Or.inr (Or.inr (Or.inr ⟨hk_, (o_ok_lt hs_.1 hk_).2⟩)))).2.2.2.2.2.2.2; first | (rw [if_pos (by omega)]) | (rw [if_neg (by omega), if_pos (by omega)]) | (rw [if_neg (by omega), if_neg (by omega)]))) | (have e0_ := e1_ (by omega); have mz_ : ¬ mdo mo_ = true := (by unfold mdo; rw [decide_eq_false (by omega)]; decide); have hp_ : p_ap2 (mdo mo_) k_ q_ o_ x_ y_ g_ c_ = .inl (13, q_) := (by unfold p_ap2 p_ap; rw [if_neg mz_, if_neg (by omega)]; rfl); rw [hp_]; rcases e77_ with z_ | z_; (exact absurd hf0_ z_.1); (refine ⟨z_.2.1, ?_, by show (13 : Int) ≠ 0; decide, ?_, md77_⟩; (refine Eq.trans z_.2.2 ?_; show S0_.2.2.1 120 0 (S0_.2.2.1 137 0 (S0_.1 13 0 32 - 1).toNat).toNat = _; rw [wtk_]; exact hq1_.2); ((try simp only [rd_eq, rd_ne, rf_eq, rf_nk, rf_nt, rd_fa, rd_af, rd_fl, rd_al, rd_lf, rd_la, rd_leq, rd_lne, rd_fr, rd_ar, ne_eq, Nat.reduceEqDiff, not_false_eq_true]); omega)))
          · have cx61_ : ¬ ((S0_.2.2.1 136 0 ((S0_.1 13 0 32) - 1).toNat) ≠ 257) := of_decide_eq_false cx61_
            refine sm_T_go 2 (c1 := (191, [some (.inr (.inr (some (13, 0)))), some (.inl (S0_.2.2.1 136 0 ((S0_.1 13 0 32) - 1).toNat)), some (.inl (S0_.2.2.1 137 0 ((S0_.1 13 0 32) - 1).toNat)), some (.inl ((S0_.1 13 0 34) - 2)), some (.inl ((S0_.1 13 0 34) - 1)), none, none], [.inl 1, .inl ((S0_.1 13 0 34) - 2), .inr (.inr (some (138, 0)))], sm_pI S0_ 13 0 32 ((S0_.1 13 0 32) - 1))) rfl ?_
            refine sm_T_iast (n := 1024) rfl rfl (by omega) (by omega) ?_
            have hIx66_ : gi (sm_aI (sm_pI S0_ 13 0 32 ((S0_.1 13 0 32) - 1)) 138 0 ((S0_.1 13 0 34) - 2).toNat 1) := gi_aI hIx4_ (show (-2147483648) ≤ 1 ∧ 1 ≤ 2147483647 from ⟨by omega, by omega⟩)
            have hFx67_ : ai_fr (sx_W vw_313) S0_ (sm_aI (sm_pI S0_ 13 0 32 ((S0_.1 13 0 32) - 1)) 138 0 ((S0_.1 13 0 34) - 2).toNat 1) := ai_fr_tr hFx5_ (ai_fr_aI rfl)
            refine sm_T_go 4 (c1 := (198, [some (.inr (.inr (some (13, 0)))), some (.inl (S0_.2.2.1 136 0 ((S0_.1 13 0 32) - 1).toNat)), some (.inl (S0_.2.2.1 137 0 ((S0_.1 13 0 32) - 1).toNat)), some (.inl ((S0_.1 13 0 34) - 2)), some (.inl ((S0_.1 13 0 34) - 1)), none, none], [.inl 1, .inl (S0_.1 13 0 34), .inr (.inr (some (13, 0)))], sm_aI (sm_pI S0_ 13 0 32 ((S0_.1 13 0 32) - 1)) 138 0 ((S0_.1 13 0 34) - 2).toNat 1)) rfl ?_
            refine sm_T_bin (w := (S0_.1 13 0 34) - 1) rfl (bi_sub (by omega) (by omega) (by omega)) ?_
            have hIx68_ : gi (sm_pI (sm_aI (sm_pI S0_ 13 0 32 ((S0_.1 13 0 32) - 1)) 138 0 ((S0_.1 13 0 34) - 2).toNat 1) 13 0 34 ((S0_.1 13 0 34) - 1)) := gi_pI hIx66_ (show 0 ≤ (S0_.1 13 0 34) - 1 ∧ (S0_.1 13 0 34) - 1 ≤ 1023 from ⟨by omega, by omega⟩)
            have hFx69_ : ai_fr (sx_W vw_313) S0_ (sm_pI (sm_aI (sm_pI S0_ 13 0 32 ((S0_.1 13 0 32) - 1)) 138 0 ((S0_.1 13 0 34) - 2).toNat 1) 13 0 34 ((S0_.1 13 0 34) - 1)) := ai_fr_tr hFx67_ (ai_fr_pI rfl)
            refine sm_T_go 1 (c1 := (202, [some (.inr (.inr (some (13, 0)))), some (.inl (S0_.2.2.1 136 0 ((S0_.1 13 0 32) - 1).toNat)), some (.inl (S0_.2.2.1 137 0 ((S0_.1 13 0 32) - 1).toNat)), some (.inl ((S0_.1 13 0 34) - 2)), some (.inl ((S0_.1 13 0 34) - 1)), none, none], [], sm_pI (sm_aI (sm_pI S0_ 13 0 32 ((S0_.1 13 0 32) - 1)) 138 0 ((S0_.1 13 0 34) - 2).toNat 1) 13 0 34 ((S0_.1 13 0 34) - 1))) rfl ?_
            refine sm_T_rv rfl ⟨_, _, rfl, rfl, hIx68_, hFx69_, ?_⟩
            refine ⟨?_, by first | rfl | ((try simp only [rd_eq, rd_ne, rf_eq, rf_nk, rf_nt, rd_fa, rd_af, rd_fl, rd_al, rd_lf, rd_la, rd_leq, rd_lne, rd_fr, rd_ar, ne_eq, Nat.reduceEqDiff, not_false_eq_true]); omega)⟩
            first | (exfalso; omega) | (have e0_ := e1_ (by omega); have mz_ : ¬ mdo mo_ = true := (by unfold mdo; rw [decide_eq_false (by omega)]; decide); have hp_ : p_ap2 (mdo mo_) k_ q_ o_ x_ y_ g_ c_ = .inr (o_, (if k_ = 4 then 1 else x_) :: g_, k_ :: c_) := (by unfold p_ap2 p_ap; rw [if_neg mz_, if_pos (by omega)]; rfl); rw [hp_]; refine ⟨⟨hg_, ⟨u0_, ⟨by (try simp only [rd_eq, rd_ne, rf_eq, rf_nk, rf_nt, rd_fa, rd_af, rd_fl, rd_al, rd_lf, rd_la, rd_leq, rd_lne, rd_fr, rd_ar, ne_eq, Nat.reduceEqDiff, not_false_eq_true]); omega, by rw [fr_arr hFx69_ rfl]; exact hw_.2.1.2, by rw [fr_arr hFx69_ rfl]; exact hw_.2.2.2⟩, Or.inr ⟨rfl, hwr1_⟩⟩, (hFx69_.1 13 0 33 rfl).trans (hop_.trans (by show (((if k_ < 0 then 1 else 0) + o_mk o_ : Nat) : Int) = _; rw [if_neg (by omega)]; simp)), ⟨?_, ?_, ?_⟩, (hFx69_.1 13 0 27 rfl).trans hmo1_⟩, s_ok_ap hk_ (by have xb_ := (h_ok_c.mp (h_ok_c.mp hs_.2.2.2).2).1; split; decide; exact xb_) hs_⟩; ((try simp only [rd_eq, rd_ne, rf_eq, rf_nk, rf_nt, rd_fa, rd_af, rd_fl, rd_al, rd_lf, rd_la, rd_leq, rd_lne, rd_fr, rd_ar, ne_eq, Nat.reduceEqDiff, not_false_eq_true]); simp only [List.length_cons]; push_cast; omega); (intro z_; refine stk_pu l1_ ?_ (v2_ z_).2.2; have q257_ := (w_sg_b (md_ := mdo mo_) (k_ := k_) (Or.inr (Or.inr (Or.inr ⟨hk_, (o_ok_lt hs_.1 hk_).2⟩)))).2.2.2.1; first | (rw [if_pos (by omega)]) | (rw [if_neg (by omega)]; exact e0_.1)); (intro z_; omega)) | (have e0_ := e2_ (by omega); have mz_ : mdo mo_ = true := (by unfold mdo; exact decide_eq_true (by omega)); have hp_ : p_ap2 (mdo mo_) k_ q_ o_ x_ y_ g_ c_ = .inr (o_, p_lo k_ x_ y_ :: g_, c_) := (by unfold p_ap2 p_ap; rw [if_pos mz_]; rfl); rw [hp_]; refine ⟨⟨hg_, ⟨u0_, ⟨by (try simp only [rd_eq, rd_ne, rf_eq, rf_nk, rf_nt, rd_fa, rd_af, rd_fl, rd_al, rd_lf, rd_la, rd_leq, rd_lne, rd_fr, rd_ar, ne_eq, Nat.reduceEqDiff, not_false_eq_true]); omega, by rw [fr_arr hFx69_ rfl]; exact hw_.2.1.2, by rw [fr_arr hFx69_ rfl]; exact hw_.2.2.2⟩, Or.inr ⟨rfl, hwr1_⟩⟩, (hFx69_.1 13 0 33 rfl).trans (hop_.trans (by show (((if k_ < 0 then 1 else 0) + o_mk o_ : Nat) : Int) = _; rw [if_neg (by omega)]; simp)), ⟨?_, ?_, ?_⟩, (hFx69_.1 13 0 27 rfl).trans hmo1_⟩, s_ok_ap hk_ (p_lo_b (h_ok_c.mp (h_ok_c.mp hs_.2.2.2).2).1 (h_ok_c.mp hs_.2.2.2).1) hs_⟩; ((try simp only [rd_eq, rd_ne, rf_eq, rf_nk, rf_nt, rd_fa, rd_af, rd_fl, rd_al, rd_lf, rd_la, rd_leq, rd_lne, rd_fr, rd_ar, ne_eq, Nat.reduceEqDiff, not_false_eq_true]); simp only [List.length_cons]; push_cast; omega); (intro z_; omega); (intro z_; refine stk_8o (stk_8p l3_ ?_ (v3_ z_).2.2) (by decide); unfold p_lo; rw [e0_.1, e0_.2]; have q124_ := (w_sg_b (md_ := mdo mo_) (k_ := k_) (Or.inr (Or.inr (Or.inr ⟨hk_, (o_ok_lt hs_.1 hk_).2⟩)))).2.2.2.2.2.2.2; first | (rw [if_pos (by omega)]) | (rw [if_neg (by omega), if_pos (by omega)]) | (rw [if_neg (by omega), if_neg (by omega)]))) | (have e0_ := e1_ (by omega); have mz_ : ¬ mdo mo_ = true := (by unfold mdo; rw [decide_eq_false (by omega)]; decide); have hp_ : p_ap2 (mdo mo_) k_ q_ o_ x_ y_ g_ c_ = .inl (13, q_) := (by unfold p_ap2 p_ap; rw [if_neg mz_, if_neg (by omega)]; rfl); rw [hp_]; rcases e77_ with z_ | z_; (exact absurd hf0_ z_.1); (refine ⟨z_.2.1, ?_, by show (13 : Int) ≠ 0; decide, ?_, md77_⟩; (refine Eq.trans z_.2.2 ?_; show S0_.2.2.1 120 0 (S0_.2.2.1 137 0 (S0_.1 13 0 32 - 1).toNat).toNat = _; rw [wtk_]; exact hq1_.2); ((try simp only [rd_eq, rd_ne, rf_eq, rf_nk, rf_nt, rd_fa, rd_af, rd_fl, rd_al, rd_lf, rd_la, rd_leq, rd_lne, rd_fr, rd_ar, ne_eq, Nat.reduceEqDiff, not_false_eq_true]); omega)))
        · have cx60_ : ¬ ((S0_.1 13 0 27) ≠ 2) := of_decide_eq_false cx60_
          exfalso; omega
      · have cx59_ : ¬ ((S0_.1 13 0 27) ≠ 1) := of_decide_eq_false cx59_
        exfalso; omega
    · have cx58_ : ¬ ((S0_.2.2.1 138 0 ((S0_.1 13 0 34) - 2).toNat) = (S0_.2.2.1 138 0 ((S0_.1 13 0 34) - 1).toNat)) := of_decide_eq_false cx58_
      refine sm_T_go 3 (c1 := (77, [some (.inr (.inr (some (13, 0)))), some (.inl (S0_.2.2.1 136 0 ((S0_.1 13 0 32) - 1).toNat)), some (.inl (S0_.2.2.1 137 0 ((S0_.1 13 0 32) - 1).toNat)), some (.inl ((S0_.1 13 0 34) - 2)), some (.inl ((S0_.1 13 0 34) - 1)), none, none], [.inl (S0_.2.2.1 137 0 ((S0_.1 13 0 32) - 1).toNat), .inl 13, .inr (.inr (some (13, 0)))], sm_pI S0_ 13 0 32 ((S0_.1 13 0 32) - 1))) rfl ?_
      refine sm_T_cal (d1 := 0) (Q1 := vq_294 13 (S0_.2.2.1 137 0 ((S0_.1 13 0 32) - 1).toNat) (sm_pI S0_ 13 0 32 ((S0_.1 13 0 32) - 1))) rfl rfl (by decide) (vc_294 13 (S0_.2.2.1 137 0 ((S0_.1 13 0 32) - 1).toNat) (sm_pI S0_ 13 0 32 ((S0_.1 13 0 32) - 1)) hIx4_ (by decide) (by omega)) (fun u_ Sx70_ px73_ => ?_)
      obtain ⟨rfl, hIx71_, hFx72_, px73_⟩ := px73_
      have hFx74_ : ai_fr (sx_W vw_313) S0_ Sx70_ := ai_fr_tr hFx5_ (fr_le hFx72_ rfl)
      have e77_ := px73_
      have F77_ := hFx72_
      have md77_ : Sx70_.1 13 0 27 = mo_ := (hFx72_.1 13 0 27 rfl).trans hmo1_
      have v77_ : Sx70_.1 13 0 34 = (g_.length : Int) + 2 := (hFx72_.1 13 0 34 rfl).trans v4_
      have w77_ : Sx70_.1 13 0 32 = (u0_.length : Int) := (hFx72_.1 13 0 32 rfl).trans (by show S0_.1 13 0 32 - 1 = _; omega)
      have bx75_ : 0 ≤ Sx70_.1 13 0 27 ∧ Sx70_.1 13 0 27 ≤ 2 := hIx71_.1 13 0 27 rfl
      refine sm_T_go 3 (c1 := (85, [some (.inr (.inr (some (13, 0)))), some (.inl (S0_.2.2.1 136 0 ((S0_.1 13 0 32) - 1).toNat)), some (.inl (S0_.2.2.1 137 0 ((S0_.1 13 0 32) - 1).toNat)), some (.inl ((S0_.1 13 0 34) - 2)), some (.inl ((S0_.1 13 0 34) - 1)), none, none], [.inl 1, .inl (Sx70_.1 13 0 27)], Sx70_)) rfl ?_
      refine sm_T_br (a := 1) (z := 11) rfl (fun cx76_ => ?_) (fun cx76_ => ?_)
      · have cx76_ : (Sx70_.1 13 0 27) ≠ 1 := of_decide_eq_true cx76_
        refine sm_T_go 3 (c1 := (101, [some (.inr (.inr (some (13, 0)))), some (.inl (S0_.2.2.1 136 0 ((S0_.1 13 0 32) - 1).toNat)), some (.inl (S0_.2.2.1 137 0 ((S0_.1 13 0 32) - 1).toNat)), some (.inl ((S0_.1 13 0 34) - 2)), some (.inl ((S0_.1 13 0 34) - 1)), none, none], [.inl 2, .inl (Sx70_.1 13 0 27)], Sx70_)) rfl ?_
        refine sm_T_br (a := 1) (z := 68) rfl (fun cx77_ => ?_) (fun cx77_ => ?_)
        · have cx77_ : (Sx70_.1 13 0 27) ≠ 2 := of_decide_eq_true cx77_
          refine sm_T_go 5 (c1 := (178, [some (.inr (.inr (some (13, 0)))), some (.inl (S0_.2.2.1 136 0 ((S0_.1 13 0 32) - 1).toNat)), some (.inl (S0_.2.2.1 137 0 ((S0_.1 13 0 32) - 1).toNat)), some (.inl ((S0_.1 13 0 34) - 2)), some (.inl ((S0_.1 13 0 34) - 1)), none, none], [.inl 257, .inl (S0_.2.2.1 136 0 ((S0_.1 13 0 32) - 1).toNat), .inl ((S0_.1 13 0 34) - 2), .inr (.inr (some (138, 0)))], Sx70_)) rfl ?_
          refine sm_T_br (a := 1) (z := 7) rfl (fun cx78_ => ?_) (fun cx78_ => ?_)
          · have cx78_ : (S0_.2.2.1 136 0 ((S0_.1 13 0 32) - 1).toNat) ≠ 257 := of_decide_eq_true cx78_
            refine sm_T_go 3 (c1 := (190, [some (.inr (.inr (some (13, 0)))), some (.inl (S0_.2.2.1 136 0 ((S0_.1 13 0 32) - 1).toNat)), some (.inl (S0_.2.2.1 137 0 ((S0_.1 13 0 32) - 1).toNat)), some (.inl ((S0_.1 13 0 34) - 2)), some (.inl ((S0_.1 13 0 34) - 1)), none, none], [.inl ((S0_.1 13 0 34) - 2), .inr (.inr (some (138, 0))), .inl ((S0_.1 13 0 34) - 2), .inr (.inr (some (138, 0)))], Sx70_)) rfl ?_
            refine sm_T_iald (n := 1024) rfl rfl (by omega) (by omega) ?_
            have bx79_ : (-2147483648) ≤ Sx70_.2.2.1 138 0 ((S0_.1 13 0 34) - 2).toNat ∧ Sx70_.2.2.1 138 0 ((S0_.1 13 0 34) - 2).toNat ≤ 2147483647 := hIx71_.2 138 0 _
            refine sm_T_iast (n := 1024) rfl rfl (by omega) (by omega) ?_
            have hIx80_ : gi (sm_aI Sx70_ 138 0 ((S0_.1 13 0 34) - 2).toNat (Sx70_.2.2.1 138 0 ((S0_.1 13 0 34) - 2).toNat)) := gi_aI hIx71_ (show (-2147483648) ≤ (Sx70_.2.2.1 138 0 ((S0_.1 13 0 34) - 2).toNat) ∧ (Sx70_.2.2.1 138 0 ((S0_.1 13 0 34) - 2).toNat) ≤ 2147483647 from ⟨by omega, by omega⟩)
            have hFx81_ : ai_fr (sx_W vw_313) S0_ (sm_aI Sx70_ 138 0 ((S0_.1 13 0 34) - 2).toNat (Sx70_.2.2.1 138 0 ((S0_.1 13 0 34) - 2).toNat)) := ai_fr_tr hFx74_ (ai_fr_aI rfl)
            have bx82_ : 0 ≤ Sx70_.1 13 0 34 ∧ Sx70_.1 13 0 34 ≤ 1023 := hIx71_.1 13 0 34 rfl
            refine sm_T_go 4 (c1 := (198, [some (.inr (.inr (some (13, 0)))), some (.inl (S0_.2.2.1 136 0 ((S0_.1 13 0 32) - 1).toNat)), some (.inl (S0_.2.2.1 137 0 ((S0_.1 13 0 32) - 1).toNat)), some (.inl ((S0_.1 13 0 34) - 2)), some (.inl ((S0_.1 13 0 34) - 1)), none, none], [.inl 1, .inl (Sx70_.1 13 0 34), .inr (.inr (some (13, 0)))], sm_aI Sx70_ 138 0 ((S0_.1 13 0 34) - 2).toNat (Sx70_.2.2.1 138 0 ((S0_.1 13 0 34) - 2).toNat))) rfl ?_
            refine sm_T_bin (w := (Sx70_.1 13 0 34) - 1) rfl (bi_sub (by omega) (by omega) (by omega)) ?_
            have hIx83_ : gi (sm_pI (sm_aI Sx70_ 138 0 ((S0_.1 13 0 34) - 2).toNat (Sx70_.2.2.1 138 0 ((S0_.1 13 0 34) - 2).toNat)) 13 0 34 ((Sx70_.1 13 0 34) - 1)) := gi_pI hIx80_ (show 0 ≤ (Sx70_.1 13 0 34) - 1 ∧ (Sx70_.1 13 0 34) - 1 ≤ 1023 from ⟨by omega, by omega⟩)
            have hFx84_ : ai_fr (sx_W vw_313) S0_ (sm_pI (sm_aI Sx70_ 138 0 ((S0_.1 13 0 34) - 2).toNat (Sx70_.2.2.1 138 0 ((S0_.1 13 0 34) - 2).toNat)) 13 0 34 ((Sx70_.1 13 0 34) - 1)) := ai_fr_tr hFx81_ (ai_fr_pI rfl)
            refine sm_T_go 1 (c1 := (202, [some (.inr (.inr (some (13, 0)))), some (.inl (S0_.2.2.1 136 0 ((S0_.1 13 0 32) - 1).toNat)), some (.inl (S0_.2.2.1 137 0 ((S0_.1 13 0 32) - 1).toNat)), some (.inl ((S0_.1 13 0 34) - 2)), some (.inl ((S0_.1 13 0 34) - 1)), none, none], [], sm_pI (sm_aI Sx70_ 138 0 ((S0_.1 13 0 34) - 2).toNat (Sx70_.2.2.1 138 0 ((S0_.1 13 0 34) - 2).toNat)) 13 0 34 ((Sx70_.1 13 0 34) - 1))) rfl ?_
            refine sm_T_rv rfl ⟨_, _, rfl, rfl, hIx83_, hFx84_, ?_⟩
            refine ⟨?_, by first | rfl | ((try simp only [rd_eq, rd_ne, rf_eq, rf_nk, rf_nt, rd_fa, rd_af, rd_fl, rd_al, rd_lf, rd_la, rd_leq, rd_lne, rd_fr, rd_ar, ne_eq, Nat.reduceEqDiff, not_false_eq_true]); omega)⟩
            first | (exfalso; omega) | (have e0_ := e1_ (by omega); have mz_ : ¬ mdo mo_ = true := (by unfold mdo; rw [decide_eq_false (by omega)]; decide); have hp_ : p_ap2 (mdo mo_) k_ q_ o_ x_ y_ g_ c_ = .inr (o_, (if k_ = 4 then 1 else x_) :: g_, k_ :: c_) := (by unfold p_ap2 p_ap; rw [if_neg mz_, if_pos (by omega)]; rfl); rw [hp_]; refine ⟨⟨hg_, ⟨u0_, ⟨by (try simp only [rd_eq, rd_ne, rf_eq, rf_nk, rf_nt, rd_fa, rd_af, rd_fl, rd_al, rd_lf, rd_la, rd_leq, rd_lne, rd_fr, rd_ar, ne_eq, Nat.reduceEqDiff, not_false_eq_true]); omega, by rw [fr_arr hFx84_ rfl]; exact hw_.2.1.2, by rw [fr_arr hFx84_ rfl]; exact hw_.2.2.2⟩, Or.inr ⟨rfl, hwr1_⟩⟩, (hFx84_.1 13 0 33 rfl).trans (hop_.trans (by show (((if k_ < 0 then 1 else 0) + o_mk o_ : Nat) : Int) = _; rw [if_neg (by omega)]; simp)), ⟨?_, ?_, ?_⟩, (hFx84_.1 13 0 27 rfl).trans hmo1_⟩, s_ok_ap hk_ (by have xb_ := (h_ok_c.mp (h_ok_c.mp hs_.2.2.2).2).1; split; decide; exact xb_) hs_⟩; ((try simp only [rd_eq, rd_ne, rf_eq, rf_nk, rf_nt, rd_fa, rd_af, rd_fl, rd_al, rd_lf, rd_la, rd_leq, rd_lne, rd_fr, rd_ar, ne_eq, Nat.reduceEqDiff, not_false_eq_true]); simp only [List.length_cons]; push_cast; omega); (intro z_; refine stk_pu l1_ ?_ (v2_ z_).2.2; have q257_ := (w_sg_b (md_ := mdo mo_) (k_ := k_) (Or.inr (Or.inr (Or.inr ⟨hk_, (o_ok_lt hs_.1 hk_).2⟩)))).2.2.2.1; first | (rw [if_pos (by omega)]) | (rw [if_neg (by omega)]; exact e0_.1)); (intro z_; omega)) | (have e0_ := e2_ (by omega); have mz_ : mdo mo_ = true := (by unfold mdo; exact decide_eq_true (by omega)); have hp_ : p_ap2 (mdo mo_) k_ q_ o_ x_ y_ g_ c_ = .inr (o_, p_lo k_ x_ y_ :: g_, c_) := (by unfold p_ap2 p_ap; rw [if_pos mz_]; rfl); rw [hp_]; refine ⟨⟨hg_, ⟨u0_, ⟨by (try simp only [rd_eq, rd_ne, rf_eq, rf_nk, rf_nt, rd_fa, rd_af, rd_fl, rd_al, rd_lf, rd_la, rd_leq, rd_lne, rd_fr, rd_ar, ne_eq, Nat.reduceEqDiff, not_false_eq_true]); omega, by rw [fr_arr hFx84_ rfl]; exact hw_.2.1.2, by rw [fr_arr hFx84_ rfl]; exact hw_.2.2.2⟩, Or.inr ⟨rfl, hwr1_⟩⟩, (hFx84_.1 13 0 33 rfl).trans (hop_.trans (by show (((if k_ < 0 then 1 else 0) + o_mk o_ : Nat) : Int) = _; rw [if_neg (by omega)]; simp)), ⟨?_, ?_, ?_⟩, (hFx84_.1 13 0 27 rfl).trans hmo1_⟩, s_ok_ap hk_ (p_lo_b (h_ok_c.mp (h_ok_c.mp hs_.2.2.2).2).1 (h_ok_c.mp hs_.2.2.2).1) hs_⟩; ((try simp only [rd_eq, rd_ne, rf_eq, rf_nk, rf_nt, rd_fa, rd_af, rd_fl, rd_al, rd_lf, rd_la, rd_leq, rd_lne, rd_fr, rd_ar, ne_eq, Nat.reduceEqDiff, not_false_eq_true]); simp only [List.length_cons]; push_cast; omega); (intro z_; omega); (intro z_; refine stk_8o (stk_8p l3_ ?_ (v3_ z_).2.2) (by decide); unfold p_lo; rw [e0_.1, e0_.2]; have q124_ := (w_sg_b (md_ := mdo mo_) (k_ := k_) (Or.inr (Or.inr (Or.inr ⟨hk_, (o_ok_lt hs_.1 hk_).2⟩)))).2.2.2.2.2.2.2; first | (rw [if_pos (by omega)]) | (rw [if_neg (by omega), if_pos (by omega)]) | (rw [if_neg (by omega), if_neg (by omega)]))) | (have e0_ := e1_ (by omega); have mz_ : ¬ mdo mo_ = true := (by unfold mdo; rw [decide_eq_false (by omega)]; decide); have hp_ : p_ap2 (mdo mo_) k_ q_ o_ x_ y_ g_ c_ = .inl (13, q_) := (by unfold p_ap2 p_ap; rw [if_neg mz_, if_neg (by omega)]; rfl); rw [hp_]; rcases e77_ with z_ | z_; (exact absurd hf0_ z_.1); (refine ⟨z_.2.1, ?_, by show (13 : Int) ≠ 0; decide, ?_, md77_⟩; (refine Eq.trans z_.2.2 ?_; show S0_.2.2.1 120 0 (S0_.2.2.1 137 0 (S0_.1 13 0 32 - 1).toNat).toNat = _; rw [wtk_]; exact hq1_.2); ((try simp only [rd_eq, rd_ne, rf_eq, rf_nk, rf_nt, rd_fa, rd_af, rd_fl, rd_al, rd_lf, rd_la, rd_leq, rd_lne, rd_fr, rd_ar, ne_eq, Nat.reduceEqDiff, not_false_eq_true]); omega)))
          · have cx78_ : ¬ ((S0_.2.2.1 136 0 ((S0_.1 13 0 32) - 1).toNat) ≠ 257) := of_decide_eq_false cx78_
            refine sm_T_go 2 (c1 := (191, [some (.inr (.inr (some (13, 0)))), some (.inl (S0_.2.2.1 136 0 ((S0_.1 13 0 32) - 1).toNat)), some (.inl (S0_.2.2.1 137 0 ((S0_.1 13 0 32) - 1).toNat)), some (.inl ((S0_.1 13 0 34) - 2)), some (.inl ((S0_.1 13 0 34) - 1)), none, none], [.inl 1, .inl ((S0_.1 13 0 34) - 2), .inr (.inr (some (138, 0)))], Sx70_)) rfl ?_
            refine sm_T_iast (n := 1024) rfl rfl (by omega) (by omega) ?_
            have hIx85_ : gi (sm_aI Sx70_ 138 0 ((S0_.1 13 0 34) - 2).toNat 1) := gi_aI hIx71_ (show (-2147483648) ≤ 1 ∧ 1 ≤ 2147483647 from ⟨by omega, by omega⟩)
            have hFx86_ : ai_fr (sx_W vw_313) S0_ (sm_aI Sx70_ 138 0 ((S0_.1 13 0 34) - 2).toNat 1) := ai_fr_tr hFx74_ (ai_fr_aI rfl)
            have bx87_ : 0 ≤ Sx70_.1 13 0 34 ∧ Sx70_.1 13 0 34 ≤ 1023 := hIx71_.1 13 0 34 rfl
            refine sm_T_go 4 (c1 := (198, [some (.inr (.inr (some (13, 0)))), some (.inl (S0_.2.2.1 136 0 ((S0_.1 13 0 32) - 1).toNat)), some (.inl (S0_.2.2.1 137 0 ((S0_.1 13 0 32) - 1).toNat)), some (.inl ((S0_.1 13 0 34) - 2)), some (.inl ((S0_.1 13 0 34) - 1)), none, none], [.inl 1, .inl (Sx70_.1 13 0 34), .inr (.inr (some (13, 0)))], sm_aI Sx70_ 138 0 ((S0_.1 13 0 34) - 2).toNat 1)) rfl ?_
            refine sm_T_bin (w := (Sx70_.1 13 0 34) - 1) rfl (bi_sub (by omega) (by omega) (by omega)) ?_
            have hIx88_ : gi (sm_pI (sm_aI Sx70_ 138 0 ((S0_.1 13 0 34) - 2).toNat 1) 13 0 34 ((Sx70_.1 13 0 34) - 1)) := gi_pI hIx85_ (show 0 ≤ (Sx70_.1 13 0 34) - 1 ∧ (Sx70_.1 13 0 34) - 1 ≤ 1023 from ⟨by omega, by omega⟩)
            have hFx89_ : ai_fr (sx_W vw_313) S0_ (sm_pI (sm_aI Sx70_ 138 0 ((S0_.1 13 0 34) - 2).toNat 1) 13 0 34 ((Sx70_.1 13 0 34) - 1)) := ai_fr_tr hFx86_ (ai_fr_pI rfl)
            refine sm_T_go 1 (c1 := (202, [some (.inr (.inr (some (13, 0)))), some (.inl (S0_.2.2.1 136 0 ((S0_.1 13 0 32) - 1).toNat)), some (.inl (S0_.2.2.1 137 0 ((S0_.1 13 0 32) - 1).toNat)), some (.inl ((S0_.1 13 0 34) - 2)), some (.inl ((S0_.1 13 0 34) - 1)), none, none], [], sm_pI (sm_aI Sx70_ 138 0 ((S0_.1 13 0 34) - 2).toNat 1) 13 0 34 ((Sx70_.1 13 0 34) - 1))) rfl ?_
            refine sm_T_rv rfl ⟨_, _, rfl, rfl, hIx88_, hFx89_, ?_⟩
            refine ⟨?_, by first | rfl | ((try simp only [rd_eq, rd_ne, rf_eq, rf_nk, rf_nt, rd_fa, rd_af, rd_fl, rd_al, rd_lf, rd_la, rd_leq, rd_lne, rd_fr, rd_ar, ne_eq, Nat.reduceEqDiff, not_false_eq_true]); omega)⟩
            first | (exfalso; omega) | (have e0_ := e1_ (by omega); have mz_ : ¬ mdo mo_ = true := (by unfold mdo; rw [decide_eq_false (by omega)]; decide); have hp_ : p_ap2 (mdo mo_) k_ q_ o_ x_ y_ g_ c_ = .inr (o_, (if k_ = 4 then 1 else x_) :: g_, k_ :: c_) := (by unfold p_ap2 p_ap; rw [if_neg mz_, if_pos (by omega)]; rfl); rw [hp_]; refine ⟨⟨hg_, ⟨u0_, ⟨by (try simp only [rd_eq, rd_ne, rf_eq, rf_nk, rf_nt, rd_fa, rd_af, rd_fl, rd_al, rd_lf, rd_la, rd_leq, rd_lne, rd_fr, rd_ar, ne_eq, Nat.reduceEqDiff, not_false_eq_true]); omega, by rw [fr_arr hFx89_ rfl]; exact hw_.2.1.2, by rw [fr_arr hFx89_ rfl]; exact hw_.2.2.2⟩, Or.inr ⟨rfl, hwr1_⟩⟩, (hFx89_.1 13 0 33 rfl).trans (hop_.trans (by show (((if k_ < 0 then 1 else 0) + o_mk o_ : Nat) : Int) = _; rw [if_neg (by omega)]; simp)), ⟨?_, ?_, ?_⟩, (hFx89_.1 13 0 27 rfl).trans hmo1_⟩, s_ok_ap hk_ (by have xb_ := (h_ok_c.mp (h_ok_c.mp hs_.2.2.2).2).1; split; decide; exact xb_) hs_⟩; ((try simp only [rd_eq, rd_ne, rf_eq, rf_nk, rf_nt, rd_fa, rd_af, rd_fl, rd_al, rd_lf, rd_la, rd_leq, rd_lne, rd_fr, rd_ar, ne_eq, Nat.reduceEqDiff, not_false_eq_true]); simp only [List.length_cons]; push_cast; omega); (intro z_; refine stk_pu l1_ ?_ (v2_ z_).2.2; have q257_ := (w_sg_b (md_ := mdo mo_) (k_ := k_) (Or.inr (Or.inr (Or.inr ⟨hk_, (o_ok_lt hs_.1 hk_).2⟩)))).2.2.2.1; first | (rw [if_pos (by omega)]) | (rw [if_neg (by omega)]; exact e0_.1)); (intro z_; omega)) | (have e0_ := e2_ (by omega); have mz_ : mdo mo_ = true := (by unfold mdo; exact decide_eq_true (by omega)); have hp_ : p_ap2 (mdo mo_) k_ q_ o_ x_ y_ g_ c_ = .inr (o_, p_lo k_ x_ y_ :: g_, c_) := (by unfold p_ap2 p_ap; rw [if_pos mz_]; rfl); rw [hp_]; refine ⟨⟨hg_, ⟨u0_, ⟨by (try simp only [rd_eq, rd_ne, rf_eq, rf_nk, rf_nt, rd_fa, rd_af, rd_fl, rd_al, rd_lf, rd_la, rd_leq, rd_lne, rd_fr, rd_ar, ne_eq, Nat.reduceEqDiff, not_false_eq_true]); omega, by rw [fr_arr hFx89_ rfl]; exact hw_.2.1.2, by rw [fr_arr hFx89_ rfl]; exact hw_.2.2.2⟩, Or.inr ⟨rfl, hwr1_⟩⟩, (hFx89_.1 13 0 33 rfl).trans (hop_.trans (by show (((if k_ < 0 then 1 else 0) + o_mk o_ : Nat) : Int) = _; rw [if_neg (by omega)]; simp)), ⟨?_, ?_, ?_⟩, (hFx89_.1 13 0 27 rfl).trans hmo1_⟩, s_ok_ap hk_ (p_lo_b (h_ok_c.mp (h_ok_c.mp hs_.2.2.2).2).1 (h_ok_c.mp hs_.2.2.2).1) hs_⟩; ((try simp only [rd_eq, rd_ne, rf_eq, rf_nk, rf_nt, rd_fa, rd_af, rd_fl, rd_al, rd_lf, rd_la, rd_leq, rd_lne, rd_fr, rd_ar, ne_eq, Nat.reduceEqDiff, not_false_eq_true]); simp only [List.length_cons]; push_cast; omega); (intro z_; omega); (intro z_; refine stk_8o (stk_8p l3_ ?_ (v3_ z_).2.2) (by decide); unfold p_lo; rw [e0_.1, e0_.2]; have q124_ := (w_sg_b (md_ := mdo mo_) (k_ := k_) (Or.inr (Or.inr (Or.inr ⟨hk_, (o_ok_lt hs_.1 hk_).2⟩)))).2.2.2.2.2.2.2; first | (rw [if_pos (by omega)]) | (rw [if_neg (by omega), if_pos (by omega)]) | (rw [if_neg (by omega), if_neg (by omega)]))) | (have e0_ := e1_ (by omega); have mz_ : ¬ mdo mo_ = true := (by unfold mdo; rw [decide_eq_false (by omega)]; decide); have hp_ : p_ap2 (mdo mo_) k_ q_ o_ x_ y_ g_ c_ = .inl (13, q_) := (by unfold p_ap2 p_ap; rw [if_neg mz_, if_neg (by omega)]; rfl); rw [hp_]; rcases e77_ with z_ | z_; (exact absurd hf0_ z_.1); (refine ⟨z_.2.1, ?_, by show (13 : Int) ≠ 0; decide, ?_, md77_⟩; (refine Eq.trans z_.2.2 ?_; show S0_.2.2.1 120 0 (S0_.2.2.1 137 0 (S0_.1 13 0 32 - 1).toNat).toNat = _; rw [wtk_]; exact hq1_.2); ((try simp only [rd_eq, rd_ne, rf_eq, rf_nk, rf_nt, rd_fa, rd_af, rd_fl, rd_al, rd_lf, rd_la, rd_leq, rd_lne, rd_fr, rd_ar, ne_eq, Nat.reduceEqDiff, not_false_eq_true]); omega)))
        · have cx77_ : ¬ ((Sx70_.1 13 0 27) ≠ 2) := of_decide_eq_false cx77_
          refine sm_T_go 4 (c1 := (111, [some (.inr (.inr (some (13, 0)))), some (.inl (S0_.2.2.1 136 0 ((S0_.1 13 0 32) - 1).toNat)), some (.inl (S0_.2.2.1 137 0 ((S0_.1 13 0 32) - 1).toNat)), some (.inl ((S0_.1 13 0 34) - 2)), some (.inl ((S0_.1 13 0 34) - 1)), none, none], [.inl ((S0_.1 13 0 34) - 2), .inl 8, .inr (.inr (some (139, 0)))], Sx70_)) rfl ?_
          refine sm_T_bin (w := 8 * (S0_.1 13 0 34) - 16) rfl (bi_mul (by omega) (by omega) (by omega)) ?_
          refine sm_T_iald (n := 8192) rfl rfl (by omega) (by omega) ?_
          have bx90_ : 0 ≤ Sx70_.2.2.1 139 0 (8 * (S0_.1 13 0 34) - 16).toNat ∧ Sx70_.2.2.1 139 0 (8 * (S0_.1 13 0 34) - 16).toNat ≤ 2047 := hIx71_.2 139 0 _
          refine sm_T_go 5 (c1 := (123, [some (.inr (.inr (some (13, 0)))), some (.inl (S0_.2.2.1 136 0 ((S0_.1 13 0 32) - 1).toNat)), some (.inl (S0_.2.2.1 137 0 ((S0_.1 13 0 32) - 1).toNat)), some (.inl ((S0_.1 13 0 34) - 2)), some (.inl ((S0_.1 13 0 34) - 1)), some (.inl (Sx70_.2.2.1 139 0 (8 * (S0_.1 13 0 34) - 16).toNat)), none], [.inl ((S0_.1 13 0 34) - 1), .inl 8, .inr (.inr (some (139, 0)))], Sx70_)) rfl ?_
          refine sm_T_bin (w := 8 * (S0_.1 13 0 34) - 8) rfl (bi_mul (by omega) (by omega) (by omega)) ?_
          refine sm_T_iald (n := 8192) rfl rfl (by omega) (by omega) ?_
          have bx91_ : 0 ≤ Sx70_.2.2.1 139 0 (8 * (S0_.1 13 0 34) - 8).toNat ∧ Sx70_.2.2.1 139 0 (8 * (S0_.1 13 0 34) - 8).toNat ≤ 2047 := hIx71_.2 139 0 _
          refine sm_T_go 5 (c1 := (134, [some (.inr (.inr (some (13, 0)))), some (.inl (S0_.2.2.1 136 0 ((S0_.1 13 0 32) - 1).toNat)), some (.inl (S0_.2.2.1 137 0 ((S0_.1 13 0 32) - 1).toNat)), some (.inl ((S0_.1 13 0 34) - 2)), some (.inl ((S0_.1 13 0 34) - 1)), some (.inl (Sx70_.2.2.1 139 0 (8 * (S0_.1 13 0 34) - 16).toNat)), some (.inl (Sx70_.2.2.1 139 0 (8 * (S0_.1 13 0 34) - 8).toNat))], [.inl ((S0_.1 13 0 34) - 2), .inl 8, .inr (.inr (some (139, 0)))], Sx70_)) rfl ?_
          refine sm_T_bin (w := 8 * (S0_.1 13 0 34) - 16) rfl (bi_mul (by omega) (by omega) (by omega)) ?_
          refine sm_T_go 2 (c1 := (138, [some (.inr (.inr (some (13, 0)))), some (.inl (S0_.2.2.1 136 0 ((S0_.1 13 0 32) - 1).toNat)), some (.inl (S0_.2.2.1 137 0 ((S0_.1 13 0 32) - 1).toNat)), some (.inl ((S0_.1 13 0 34) - 2)), some (.inl ((S0_.1 13 0 34) - 1)), some (.inl (Sx70_.2.2.1 139 0 (8 * (S0_.1 13 0 34) - 16).toNat)), some (.inl (Sx70_.2.2.1 139 0 (8 * (S0_.1 13 0 34) - 8).toNat))], [.inl 124, .inl (S0_.2.2.1 136 0 ((S0_.1 13 0 32) - 1).toNat), .inl (8 * (S0_.1 13 0 34) - 16), .inr (.inr (some (139, 0)))], Sx70_)) rfl ?_
          refine sm_T_br (a := 1) (z := 11) rfl (fun cx92_ => ?_) (fun cx92_ => ?_)
          · have cx92_ : (S0_.2.2.1 136 0 ((S0_.1 13 0 32) - 1).toNat) ≠ 124 := of_decide_eq_true cx92_
            refine sm_T_go 2 (c1 := (152, [some (.inr (.inr (some (13, 0)))), some (.inl (S0_.2.2.1 136 0 ((S0_.1 13 0 32) - 1).toNat)), some (.inl (S0_.2.2.1 137 0 ((S0_.1 13 0 32) - 1).toNat)), some (.inl ((S0_.1 13 0 34) - 2)), some (.inl ((S0_.1 13 0 34) - 1)), some (.inl (Sx70_.2.2.1 139 0 (8 * (S0_.1 13 0 34) - 16).toNat)), some (.inl (Sx70_.2.2.1 139 0 (8 * (S0_.1 13 0 34) - 8).toNat))], [.inl 94, .inl (S0_.2.2.1 136 0 ((S0_.1 13 0 32) - 1).toNat), .inl (8 * (S0_.1 13 0 34) - 16), .inr (.inr (some (139, 0)))], Sx70_)) rfl ?_
            refine sm_T_br (a := 1) (z := 11) rfl (fun cx93_ => ?_) (fun cx93_ => ?_)
            · have cx93_ : (S0_.2.2.1 136 0 ((S0_.1 13 0 32) - 1).toNat) ≠ 94 := of_decide_eq_true cx93_
              refine sm_T_go 2 (c1 := (167, [some (.inr (.inr (some (13, 0)))), some (.inl (S0_.2.2.1 136 0 ((S0_.1 13 0 32) - 1).toNat)), some (.inl (S0_.2.2.1 137 0 ((S0_.1 13 0 32) - 1).toNat)), some (.inl ((S0_.1 13 0 34) - 2)), some (.inl ((S0_.1 13 0 34) - 1)), some (.inl (Sx70_.2.2.1 139 0 (8 * (S0_.1 13 0 34) - 16).toNat)), some (.inl (Sx70_.2.2.1 139 0 (8 * (S0_.1 13 0 34) - 8).toNat))], [.inl (Sx70_.2.2.1 139 0 (8 * (S0_.1 13 0 34) - 8).toNat), .inl (Sx70_.2.2.1 139 0 (8 * (S0_.1 13 0 34) - 16).toNat), .inl (8 * (S0_.1 13 0 34) - 16), .inr (.inr (some (139, 0)))], Sx70_)) rfl ?_
              refine sm_T_bin (w := (i_and (Sx70_.2.2.1 139 0 (8 * (S0_.1 13 0 34) - 16).toNat) (Sx70_.2.2.1 139 0 (8 * (S0_.1 13 0 34) - 8).toNat))) rfl rfl ?_
              have bx94_ := (i_x11 (x_ := (Sx70_.2.2.1 139 0 (8 * (S0_.1 13 0 34) - 16).toNat)) (y_ := (Sx70_.2.2.1 139 0 (8 * (S0_.1 13 0 34) - 8).toNat)) ⟨by omega, by omega⟩ ⟨by omega, by omega⟩).2.2
              refine sm_T_iast (n := 8192) rfl rfl (by omega) (by omega) ?_
              have hIx95_ : gi (sm_aI Sx70_ 139 0 (8 * (S0_.1 13 0 34) - 16).toNat (i_and (Sx70_.2.2.1 139 0 (8 * (S0_.1 13 0 34) - 16).toNat) (Sx70_.2.2.1 139 0 (8 * (S0_.1 13 0 34) - 8).toNat))) := gi_aI hIx71_ (show 0 ≤ (i_and (Sx70_.2.2.1 139 0 (8 * (S0_.1 13 0 34) - 16).toNat) (Sx70_.2.2.1 139 0 (8 * (S0_.1 13 0 34) - 8).toNat)) ∧ (i_and (Sx70_.2.2.1 139 0 (8 * (S0_.1 13 0 34) - 16).toNat) (Sx70_.2.2.1 139 0 (8 * (S0_.1 13 0 34) - 8).toNat)) ≤ 2047 from ⟨by omega, by omega⟩)
              have hFx96_ : ai_fr (sx_W vw_313) S0_ (sm_aI Sx70_ 139 0 (8 * (S0_.1 13 0 34) - 16).toNat (i_and (Sx70_.2.2.1 139 0 (8 * (S0_.1 13 0 34) - 16).toNat) (Sx70_.2.2.1 139 0 (8 * (S0_.1 13 0 34) - 8).toNat))) := ai_fr_tr hFx74_ (ai_fr_aI rfl)
              refine sm_T_go 5 (c1 := (178, [some (.inr (.inr (some (13, 0)))), some (.inl (S0_.2.2.1 136 0 ((S0_.1 13 0 32) - 1).toNat)), some (.inl (S0_.2.2.1 137 0 ((S0_.1 13 0 32) - 1).toNat)), some (.inl ((S0_.1 13 0 34) - 2)), some (.inl ((S0_.1 13 0 34) - 1)), some (.inl (Sx70_.2.2.1 139 0 (8 * (S0_.1 13 0 34) - 16).toNat)), some (.inl (Sx70_.2.2.1 139 0 (8 * (S0_.1 13 0 34) - 8).toNat))], [.inl 257, .inl (S0_.2.2.1 136 0 ((S0_.1 13 0 32) - 1).toNat), .inl ((S0_.1 13 0 34) - 2), .inr (.inr (some (138, 0)))], sm_aI Sx70_ 139 0 (8 * (S0_.1 13 0 34) - 16).toNat (i_and (Sx70_.2.2.1 139 0 (8 * (S0_.1 13 0 34) - 16).toNat) (Sx70_.2.2.1 139 0 (8 * (S0_.1 13 0 34) - 8).toNat)))) rfl ?_
              refine sm_T_br (a := 1) (z := 7) rfl (fun cx97_ => ?_) (fun cx97_ => ?_)
              · have cx97_ : (S0_.2.2.1 136 0 ((S0_.1 13 0 32) - 1).toNat) ≠ 257 := of_decide_eq_true cx97_
                refine sm_T_go 3 (c1 := (190, [some (.inr (.inr (some (13, 0)))), some (.inl (S0_.2.2.1 136 0 ((S0_.1 13 0 32) - 1).toNat)), some (.inl (S0_.2.2.1 137 0 ((S0_.1 13 0 32) - 1).toNat)), some (.inl ((S0_.1 13 0 34) - 2)), some (.inl ((S0_.1 13 0 34) - 1)), some (.inl (Sx70_.2.2.1 139 0 (8 * (S0_.1 13 0 34) - 16).toNat)), some (.inl (Sx70_.2.2.1 139 0 (8 * (S0_.1 13 0 34) - 8).toNat))], [.inl ((S0_.1 13 0 34) - 2), .inr (.inr (some (138, 0))), .inl ((S0_.1 13 0 34) - 2), .inr (.inr (some (138, 0)))], sm_aI Sx70_ 139 0 (8 * (S0_.1 13 0 34) - 16).toNat (i_and (Sx70_.2.2.1 139 0 (8 * (S0_.1 13 0 34) - 16).toNat) (Sx70_.2.2.1 139 0 (8 * (S0_.1 13 0 34) - 8).toNat)))) rfl ?_
                refine sm_T_iald (n := 1024) rfl rfl (by omega) (by omega) ?_
                have bx98_ : (-2147483648) ≤ Sx70_.2.2.1 138 0 ((S0_.1 13 0 34) - 2).toNat ∧ Sx70_.2.2.1 138 0 ((S0_.1 13 0 34) - 2).toNat ≤ 2147483647 := hIx71_.2 138 0 _
                refine sm_T_iast (n := 1024) rfl rfl (by omega) (by omega) ?_
                have hIx99_ : gi (sm_aI (sm_aI Sx70_ 139 0 (8 * (S0_.1 13 0 34) - 16).toNat (i_and (Sx70_.2.2.1 139 0 (8 * (S0_.1 13 0 34) - 16).toNat) (Sx70_.2.2.1 139 0 (8 * (S0_.1 13 0 34) - 8).toNat))) 138 0 ((S0_.1 13 0 34) - 2).toNat (Sx70_.2.2.1 138 0 ((S0_.1 13 0 34) - 2).toNat)) := gi_aI hIx95_ (show (-2147483648) ≤ (Sx70_.2.2.1 138 0 ((S0_.1 13 0 34) - 2).toNat) ∧ (Sx70_.2.2.1 138 0 ((S0_.1 13 0 34) - 2).toNat) ≤ 2147483647 from ⟨by omega, by omega⟩)
                have hFx100_ : ai_fr (sx_W vw_313) S0_ (sm_aI (sm_aI Sx70_ 139 0 (8 * (S0_.1 13 0 34) - 16).toNat (i_and (Sx70_.2.2.1 139 0 (8 * (S0_.1 13 0 34) - 16).toNat) (Sx70_.2.2.1 139 0 (8 * (S0_.1 13 0 34) - 8).toNat))) 138 0 ((S0_.1 13 0 34) - 2).toNat (Sx70_.2.2.1 138 0 ((S0_.1 13 0 34) - 2).toNat)) := ai_fr_tr hFx96_ (ai_fr_aI rfl)
                have bx101_ : 0 ≤ Sx70_.1 13 0 34 ∧ Sx70_.1 13 0 34 ≤ 1023 := hIx71_.1 13 0 34 rfl
                refine sm_T_go 4 (c1 := (198, [some (.inr (.inr (some (13, 0)))), some (.inl (S0_.2.2.1 136 0 ((S0_.1 13 0 32) - 1).toNat)), some (.inl (S0_.2.2.1 137 0 ((S0_.1 13 0 32) - 1).toNat)), some (.inl ((S0_.1 13 0 34) - 2)), some (.inl ((S0_.1 13 0 34) - 1)), some (.inl (Sx70_.2.2.1 139 0 (8 * (S0_.1 13 0 34) - 16).toNat)), some (.inl (Sx70_.2.2.1 139 0 (8 * (S0_.1 13 0 34) - 8).toNat))], [.inl 1, .inl (Sx70_.1 13 0 34), .inr (.inr (some (13, 0)))], sm_aI (sm_aI Sx70_ 139 0 (8 * (S0_.1 13 0 34) - 16).toNat (i_and (Sx70_.2.2.1 139 0 (8 * (S0_.1 13 0 34) - 16).toNat) (Sx70_.2.2.1 139 0 (8 * (S0_.1 13 0 34) - 8).toNat))) 138 0 ((S0_.1 13 0 34) - 2).toNat (Sx70_.2.2.1 138 0 ((S0_.1 13 0 34) - 2).toNat))) rfl ?_
                refine sm_T_bin (w := (Sx70_.1 13 0 34) - 1) rfl (bi_sub (by omega) (by omega) (by omega)) ?_
                have hIx102_ : gi (sm_pI (sm_aI (sm_aI Sx70_ 139 0 (8 * (S0_.1 13 0 34) - 16).toNat (i_and (Sx70_.2.2.1 139 0 (8 * (S0_.1 13 0 34) - 16).toNat) (Sx70_.2.2.1 139 0 (8 * (S0_.1 13 0 34) - 8).toNat))) 138 0 ((S0_.1 13 0 34) - 2).toNat (Sx70_.2.2.1 138 0 ((S0_.1 13 0 34) - 2).toNat)) 13 0 34 ((Sx70_.1 13 0 34) - 1)) := gi_pI hIx99_ (show 0 ≤ (Sx70_.1 13 0 34) - 1 ∧ (Sx70_.1 13 0 34) - 1 ≤ 1023 from ⟨by omega, by omega⟩)
                have hFx103_ : ai_fr (sx_W vw_313) S0_ (sm_pI (sm_aI (sm_aI Sx70_ 139 0 (8 * (S0_.1 13 0 34) - 16).toNat (i_and (Sx70_.2.2.1 139 0 (8 * (S0_.1 13 0 34) - 16).toNat) (Sx70_.2.2.1 139 0 (8 * (S0_.1 13 0 34) - 8).toNat))) 138 0 ((S0_.1 13 0 34) - 2).toNat (Sx70_.2.2.1 138 0 ((S0_.1 13 0 34) - 2).toNat)) 13 0 34 ((Sx70_.1 13 0 34) - 1)) := ai_fr_tr hFx100_ (ai_fr_pI rfl)
                refine sm_T_go 1 (c1 := (202, [some (.inr (.inr (some (13, 0)))), some (.inl (S0_.2.2.1 136 0 ((S0_.1 13 0 32) - 1).toNat)), some (.inl (S0_.2.2.1 137 0 ((S0_.1 13 0 32) - 1).toNat)), some (.inl ((S0_.1 13 0 34) - 2)), some (.inl ((S0_.1 13 0 34) - 1)), some (.inl (Sx70_.2.2.1 139 0 (8 * (S0_.1 13 0 34) - 16).toNat)), some (.inl (Sx70_.2.2.1 139 0 (8 * (S0_.1 13 0 34) - 8).toNat))], [], sm_pI (sm_aI (sm_aI Sx70_ 139 0 (8 * (S0_.1 13 0 34) - 16).toNat (i_and (Sx70_.2.2.1 139 0 (8 * (S0_.1 13 0 34) - 16).toNat) (Sx70_.2.2.1 139 0 (8 * (S0_.1 13 0 34) - 8).toNat))) 138 0 ((S0_.1 13 0 34) - 2).toNat (Sx70_.2.2.1 138 0 ((S0_.1 13 0 34) - 2).toNat)) 13 0 34 ((Sx70_.1 13 0 34) - 1))) rfl ?_
                refine sm_T_rv rfl ⟨_, _, rfl, rfl, hIx102_, hFx103_, ?_⟩
                refine ⟨?_, by first | rfl | ((try simp only [rd_eq, rd_ne, rf_eq, rf_nk, rf_nt, rd_fa, rd_af, rd_fl, rd_al, rd_lf, rd_la, rd_leq, rd_lne, rd_fr, rd_ar, ne_eq, Nat.reduceEqDiff, not_false_eq_true]); omega)⟩
                first | (exfalso; omega) | (have e0_ := e1_ (by omega); have mz_ : ¬ mdo mo_ = true := (by unfold mdo; rw [decide_eq_false (by omega)]; decide); have hp_ : p_ap2 (mdo mo_) k_ q_ o_ x_ y_ g_ c_ = .inr (o_, (if k_ = 4 then 1 else x_) :: g_, k_ :: c_) := (by unfold p_ap2 p_ap; rw [if_neg mz_, if_pos (by omega)]; rfl); rw [hp_]; refine ⟨⟨hg_, ⟨u0_, ⟨by (try simp only [rd_eq, rd_ne, rf_eq, rf_nk, rf_nt, rd_fa, rd_af, rd_fl, rd_al, rd_lf, rd_la, rd_leq, rd_lne, rd_fr, rd_ar, ne_eq, Nat.reduceEqDiff, not_false_eq_true]); omega, by rw [fr_arr hFx103_ rfl]; exact hw_.2.1.2, by rw [fr_arr hFx103_ rfl]; exact hw_.2.2.2⟩, Or.inr ⟨rfl, hwr1_⟩⟩, (hFx103_.1 13 0 33 rfl).trans (hop_.trans (by show (((if k_ < 0 then 1 else 0) + o_mk o_ : Nat) : Int) = _; rw [if_neg (by omega)]; simp)), ⟨?_, ?_, ?_⟩, (hFx103_.1 13 0 27 rfl).trans hmo1_⟩, s_ok_ap hk_ (by have xb_ := (h_ok_c.mp (h_ok_c.mp hs_.2.2.2).2).1; split; decide; exact xb_) hs_⟩; ((try simp only [rd_eq, rd_ne, rf_eq, rf_nk, rf_nt, rd_fa, rd_af, rd_fl, rd_al, rd_lf, rd_la, rd_leq, rd_lne, rd_fr, rd_ar, ne_eq, Nat.reduceEqDiff, not_false_eq_true]); simp only [List.length_cons]; push_cast; omega); (intro z_; refine stk_pu l1_ ?_ (v2_ z_).2.2; have q257_ := (w_sg_b (md_ := mdo mo_) (k_ := k_) (Or.inr (Or.inr (Or.inr ⟨hk_, (o_ok_lt hs_.1 hk_).2⟩)))).2.2.2.1; first | (rw [if_pos (by omega)]) | (rw [if_neg (by omega)]; exact e0_.1)); (intro z_; omega)) | (have e0_ := e2_ (by omega); have mz_ : mdo mo_ = true := (by unfold mdo; exact decide_eq_true (by omega)); have hp_ : p_ap2 (mdo mo_) k_ q_ o_ x_ y_ g_ c_ = .inr (o_, p_lo k_ x_ y_ :: g_, c_) := (by unfold p_ap2 p_ap; rw [if_pos mz_]; rfl); rw [hp_]; refine ⟨⟨hg_, ⟨u0_, ⟨by (try simp only [rd_eq, rd_ne, rf_eq, rf_nk, rf_nt, rd_fa, rd_af, rd_fl, rd_al, rd_lf, rd_la, rd_leq, rd_lne, rd_fr, rd_ar, ne_eq, Nat.reduceEqDiff, not_false_eq_true]); omega, by rw [fr_arr hFx103_ rfl]; exact hw_.2.1.2, by rw [fr_arr hFx103_ rfl]; exact hw_.2.2.2⟩, Or.inr ⟨rfl, hwr1_⟩⟩, (hFx103_.1 13 0 33 rfl).trans (hop_.trans (by show (((if k_ < 0 then 1 else 0) + o_mk o_ : Nat) : Int) = _; rw [if_neg (by omega)]; simp)), ⟨?_, ?_, ?_⟩, (hFx103_.1 13 0 27 rfl).trans hmo1_⟩, s_ok_ap hk_ (p_lo_b (h_ok_c.mp (h_ok_c.mp hs_.2.2.2).2).1 (h_ok_c.mp hs_.2.2.2).1) hs_⟩; ((try simp only [rd_eq, rd_ne, rf_eq, rf_nk, rf_nt, rd_fa, rd_af, rd_fl, rd_al, rd_lf, rd_la, rd_leq, rd_lne, rd_fr, rd_ar, ne_eq, Nat.reduceEqDiff, not_false_eq_true]); simp only [List.length_cons]; push_cast; omega); (intro z_; omega); (intro z_; refine stk_8o (stk_8p l3_ ?_ (v3_ z_).2.2) (by decide); unfold p_lo; rw [e0_.1, e0_.2]; have q124_ := (w_sg_b (md_ := mdo mo_) (k_ := k_) (Or.inr (Or.inr (Or.inr ⟨hk_, (o_ok_lt hs_.1 hk_).2⟩)))).2.2.2.2.2.2.2; first | (rw [if_pos (by omega)]) | (rw [if_neg (by omega), if_pos (by omega)]) | (rw [if_neg (by omega), if_neg (by omega)]))) | (have e0_ := e1_ (by omega); have mz_ : ¬ mdo mo_ = true := (by unfold mdo; rw [decide_eq_false (by omega)]; decide); have hp_ : p_ap2 (mdo mo_) k_ q_ o_ x_ y_ g_ c_ = .inl (13, q_) := (by unfold p_ap2 p_ap; rw [if_neg mz_, if_neg (by omega)]; rfl); rw [hp_]; rcases e77_ with z_ | z_; (exact absurd hf0_ z_.1); (refine ⟨z_.2.1, ?_, by show (13 : Int) ≠ 0; decide, ?_, md77_⟩; (refine Eq.trans z_.2.2 ?_; show S0_.2.2.1 120 0 (S0_.2.2.1 137 0 (S0_.1 13 0 32 - 1).toNat).toNat = _; rw [wtk_]; exact hq1_.2); ((try simp only [rd_eq, rd_ne, rf_eq, rf_nk, rf_nt, rd_fa, rd_af, rd_fl, rd_al, rd_lf, rd_la, rd_leq, rd_lne, rd_fr, rd_ar, ne_eq, Nat.reduceEqDiff, not_false_eq_true]); omega)))
              · have cx97_ : ¬ ((S0_.2.2.1 136 0 ((S0_.1 13 0 32) - 1).toNat) ≠ 257) := of_decide_eq_false cx97_
                refine sm_T_go 2 (c1 := (191, [some (.inr (.inr (some (13, 0)))), some (.inl (S0_.2.2.1 136 0 ((S0_.1 13 0 32) - 1).toNat)), some (.inl (S0_.2.2.1 137 0 ((S0_.1 13 0 32) - 1).toNat)), some (.inl ((S0_.1 13 0 34) - 2)), some (.inl ((S0_.1 13 0 34) - 1)), some (.inl (Sx70_.2.2.1 139 0 (8 * (S0_.1 13 0 34) - 16).toNat)), some (.inl (Sx70_.2.2.1 139 0 (8 * (S0_.1 13 0 34) - 8).toNat))], [.inl 1, .inl ((S0_.1 13 0 34) - 2), .inr (.inr (some (138, 0)))], sm_aI Sx70_ 139 0 (8 * (S0_.1 13 0 34) - 16).toNat (i_and (Sx70_.2.2.1 139 0 (8 * (S0_.1 13 0 34) - 16).toNat) (Sx70_.2.2.1 139 0 (8 * (S0_.1 13 0 34) - 8).toNat)))) rfl ?_
                refine sm_T_iast (n := 1024) rfl rfl (by omega) (by omega) ?_
                have hIx104_ : gi (sm_aI (sm_aI Sx70_ 139 0 (8 * (S0_.1 13 0 34) - 16).toNat (i_and (Sx70_.2.2.1 139 0 (8 * (S0_.1 13 0 34) - 16).toNat) (Sx70_.2.2.1 139 0 (8 * (S0_.1 13 0 34) - 8).toNat))) 138 0 ((S0_.1 13 0 34) - 2).toNat 1) := gi_aI hIx95_ (show (-2147483648) ≤ 1 ∧ 1 ≤ 2147483647 from ⟨by omega, by omega⟩)
                have hFx105_ : ai_fr (sx_W vw_313) S0_ (sm_aI (sm_aI Sx70_ 139 0 (8 * (S0_.1 13 0 34) - 16).toNat (i_and (Sx70_.2.2.1 139 0 (8 * (S0_.1 13 0 34) - 16).toNat) (Sx70_.2.2.1 139 0 (8 * (S0_.1 13 0 34) - 8).toNat))) 138 0 ((S0_.1 13 0 34) - 2).toNat 1) := ai_fr_tr hFx96_ (ai_fr_aI rfl)
                have bx106_ : 0 ≤ Sx70_.1 13 0 34 ∧ Sx70_.1 13 0 34 ≤ 1023 := hIx71_.1 13 0 34 rfl
                refine sm_T_go 4 (c1 := (198, [some (.inr (.inr (some (13, 0)))), some (.inl (S0_.2.2.1 136 0 ((S0_.1 13 0 32) - 1).toNat)), some (.inl (S0_.2.2.1 137 0 ((S0_.1 13 0 32) - 1).toNat)), some (.inl ((S0_.1 13 0 34) - 2)), some (.inl ((S0_.1 13 0 34) - 1)), some (.inl (Sx70_.2.2.1 139 0 (8 * (S0_.1 13 0 34) - 16).toNat)), some (.inl (Sx70_.2.2.1 139 0 (8 * (S0_.1 13 0 34) - 8).toNat))], [.inl 1, .inl (Sx70_.1 13 0 34), .inr (.inr (some (13, 0)))], sm_aI (sm_aI Sx70_ 139 0 (8 * (S0_.1 13 0 34) - 16).toNat (i_and (Sx70_.2.2.1 139 0 (8 * (S0_.1 13 0 34) - 16).toNat) (Sx70_.2.2.1 139 0 (8 * (S0_.1 13 0 34) - 8).toNat))) 138 0 ((S0_.1 13 0 34) - 2).toNat 1)) rfl ?_
                refine sm_T_bin (w := (Sx70_.1 13 0 34) - 1) rfl (bi_sub (by omega) (by omega) (by omega)) ?_
                have hIx107_ : gi (sm_pI (sm_aI (sm_aI Sx70_ 139 0 (8 * (S0_.1 13 0 34) - 16).toNat (i_and (Sx70_.2.2.1 139 0 (8 * (S0_.1 13 0 34) - 16).toNat) (Sx70_.2.2.1 139 0 (8 * (S0_.1 13 0 34) - 8).toNat))) 138 0 ((S0_.1 13 0 34) - 2).toNat 1) 13 0 34 ((Sx70_.1 13 0 34) - 1)) := gi_pI hIx104_ (show 0 ≤ (Sx70_.1 13 0 34) - 1 ∧ (Sx70_.1 13 0 34) - 1 ≤ 1023 from ⟨by omega, by omega⟩)
                have hFx108_ : ai_fr (sx_W vw_313) S0_ (sm_pI (sm_aI (sm_aI Sx70_ 139 0 (8 * (S0_.1 13 0 34) - 16).toNat (i_and (Sx70_.2.2.1 139 0 (8 * (S0_.1 13 0 34) - 16).toNat) (Sx70_.2.2.1 139 0 (8 * (S0_.1 13 0 34) - 8).toNat))) 138 0 ((S0_.1 13 0 34) - 2).toNat 1) 13 0 34 ((Sx70_.1 13 0 34) - 1)) := ai_fr_tr hFx105_ (ai_fr_pI rfl)
                refine sm_T_go 1 (c1 := (202, [some (.inr (.inr (some (13, 0)))), some (.inl (S0_.2.2.1 136 0 ((S0_.1 13 0 32) - 1).toNat)), some (.inl (S0_.2.2.1 137 0 ((S0_.1 13 0 32) - 1).toNat)), some (.inl ((S0_.1 13 0 34) - 2)), some (.inl ((S0_.1 13 0 34) - 1)), some (.inl (Sx70_.2.2.1 139 0 (8 * (S0_.1 13 0 34) - 16).toNat)), some (.inl (Sx70_.2.2.1 139 0 (8 * (S0_.1 13 0 34) - 8).toNat))], [], sm_pI (sm_aI (sm_aI Sx70_ 139 0 (8 * (S0_.1 13 0 34) - 16).toNat (i_and (Sx70_.2.2.1 139 0 (8 * (S0_.1 13 0 34) - 16).toNat) (Sx70_.2.2.1 139 0 (8 * (S0_.1 13 0 34) - 8).toNat))) 138 0 ((S0_.1 13 0 34) - 2).toNat 1) 13 0 34 ((Sx70_.1 13 0 34) - 1))) rfl ?_
                refine sm_T_rv rfl ⟨_, _, rfl, rfl, hIx107_, hFx108_, ?_⟩
                refine ⟨?_, by first | rfl | ((try simp only [rd_eq, rd_ne, rf_eq, rf_nk, rf_nt, rd_fa, rd_af, rd_fl, rd_al, rd_lf, rd_la, rd_leq, rd_lne, rd_fr, rd_ar, ne_eq, Nat.reduceEqDiff, not_false_eq_true]); omega)⟩
                first | (exfalso; omega) | (have e0_ := e1_ (by omega); have mz_ : ¬ mdo mo_ = true := (by unfold mdo; rw [decide_eq_false (by omega)]; decide); have hp_ : p_ap2 (mdo mo_) k_ q_ o_ x_ y_ g_ c_ = .inr (o_, (if k_ = 4 then 1 else x_) :: g_, k_ :: c_) := (by unfold p_ap2 p_ap; rw [if_neg mz_, if_pos (by omega)]; rfl); rw [hp_]; refine ⟨⟨hg_, ⟨u0_, ⟨by (try simp only [rd_eq, rd_ne, rf_eq, rf_nk, rf_nt, rd_fa, rd_af, rd_fl, rd_al, rd_lf, rd_la, rd_leq, rd_lne, rd_fr, rd_ar, ne_eq, Nat.reduceEqDiff, not_false_eq_true]); omega, by rw [fr_arr hFx108_ rfl]; exact hw_.2.1.2, by rw [fr_arr hFx108_ rfl]; exact hw_.2.2.2⟩, Or.inr ⟨rfl, hwr1_⟩⟩, (hFx108_.1 13 0 33 rfl).trans (hop_.trans (by show (((if k_ < 0 then 1 else 0) + o_mk o_ : Nat) : Int) = _; rw [if_neg (by omega)]; simp)), ⟨?_, ?_, ?_⟩, (hFx108_.1 13 0 27 rfl).trans hmo1_⟩, s_ok_ap hk_ (by have xb_ := (h_ok_c.mp (h_ok_c.mp hs_.2.2.2).2).1; split; decide; exact xb_) hs_⟩; ((try simp only [rd_eq, rd_ne, rf_eq, rf_nk, rf_nt, rd_fa, rd_af, rd_fl, rd_al, rd_lf, rd_la, rd_leq, rd_lne, rd_fr, rd_ar, ne_eq, Nat.reduceEqDiff, not_false_eq_true]); simp only [List.length_cons]; push_cast; omega); (intro z_; refine stk_pu l1_ ?_ (v2_ z_).2.2; have q257_ := (w_sg_b (md_ := mdo mo_) (k_ := k_) (Or.inr (Or.inr (Or.inr ⟨hk_, (o_ok_lt hs_.1 hk_).2⟩)))).2.2.2.1; first | (rw [if_pos (by omega)]) | (rw [if_neg (by omega)]; exact e0_.1)); (intro z_; omega)) | (have e0_ := e2_ (by omega); have mz_ : mdo mo_ = true := (by unfold mdo; exact decide_eq_true (by omega)); have hp_ : p_ap2 (mdo mo_) k_ q_ o_ x_ y_ g_ c_ = .inr (o_, p_lo k_ x_ y_ :: g_, c_) := (by unfold p_ap2 p_ap; rw [if_pos mz_]; rfl); rw [hp_]; refine ⟨⟨hg_, ⟨u0_, ⟨by (try simp only [rd_eq, rd_ne, rf_eq, rf_nk, rf_nt, rd_fa, rd_af, rd_fl, rd_al, rd_lf, rd_la, rd_leq, rd_lne, rd_fr, rd_ar, ne_eq, Nat.reduceEqDiff, not_false_eq_true]); omega, by rw [fr_arr hFx108_ rfl]; exact hw_.2.1.2, by rw [fr_arr hFx108_ rfl]; exact hw_.2.2.2⟩, Or.inr ⟨rfl, hwr1_⟩⟩, (hFx108_.1 13 0 33 rfl).trans (hop_.trans (by show (((if k_ < 0 then 1 else 0) + o_mk o_ : Nat) : Int) = _; rw [if_neg (by omega)]; simp)), ⟨?_, ?_, ?_⟩, (hFx108_.1 13 0 27 rfl).trans hmo1_⟩, s_ok_ap hk_ (p_lo_b (h_ok_c.mp (h_ok_c.mp hs_.2.2.2).2).1 (h_ok_c.mp hs_.2.2.2).1) hs_⟩; ((try simp only [rd_eq, rd_ne, rf_eq, rf_nk, rf_nt, rd_fa, rd_af, rd_fl, rd_al, rd_lf, rd_la, rd_leq, rd_lne, rd_fr, rd_ar, ne_eq, Nat.reduceEqDiff, not_false_eq_true]); simp only [List.length_cons]; push_cast; omega); (intro z_; omega); (intro z_; refine stk_8o (stk_8p l3_ ?_ (v3_ z_).2.2) (by decide); unfold p_lo; rw [e0_.1, e0_.2]; have q124_ := (w_sg_b (md_ := mdo mo_) (k_ := k_) (Or.inr (Or.inr (Or.inr ⟨hk_, (o_ok_lt hs_.1 hk_).2⟩)))).2.2.2.2.2.2.2; first | (rw [if_pos (by omega)]) | (rw [if_neg (by omega), if_pos (by omega)]) | (rw [if_neg (by omega), if_neg (by omega)]))) | (have e0_ := e1_ (by omega); have mz_ : ¬ mdo mo_ = true := (by unfold mdo; rw [decide_eq_false (by omega)]; decide); have hp_ : p_ap2 (mdo mo_) k_ q_ o_ x_ y_ g_ c_ = .inl (13, q_) := (by unfold p_ap2 p_ap; rw [if_neg mz_, if_neg (by omega)]; rfl); rw [hp_]; rcases e77_ with z_ | z_; (exact absurd hf0_ z_.1); (refine ⟨z_.2.1, ?_, by show (13 : Int) ≠ 0; decide, ?_, md77_⟩; (refine Eq.trans z_.2.2 ?_; show S0_.2.2.1 120 0 (S0_.2.2.1 137 0 (S0_.1 13 0 32 - 1).toNat).toNat = _; rw [wtk_]; exact hq1_.2); ((try simp only [rd_eq, rd_ne, rf_eq, rf_nk, rf_nt, rd_fa, rd_af, rd_fl, rd_al, rd_lf, rd_la, rd_leq, rd_lne, rd_fr, rd_ar, ne_eq, Nat.reduceEqDiff, not_false_eq_true]); omega)))
            · have cx93_ : ¬ ((S0_.2.2.1 136 0 ((S0_.1 13 0 32) - 1).toNat) ≠ 94) := of_decide_eq_false cx93_
              refine sm_T_go 2 (c1 := (159, [some (.inr (.inr (some (13, 0)))), some (.inl (S0_.2.2.1 136 0 ((S0_.1 13 0 32) - 1).toNat)), some (.inl (S0_.2.2.1 137 0 ((S0_.1 13 0 32) - 1).toNat)), some (.inl ((S0_.1 13 0 34) - 2)), some (.inl ((S0_.1 13 0 34) - 1)), some (.inl (Sx70_.2.2.1 139 0 (8 * (S0_.1 13 0 34) - 16).toNat)), some (.inl (Sx70_.2.2.1 139 0 (8 * (S0_.1 13 0 34) - 8).toNat))], [.inl (Sx70_.2.2.1 139 0 (8 * (S0_.1 13 0 34) - 8).toNat), .inl (Sx70_.2.2.1 139 0 (8 * (S0_.1 13 0 34) - 16).toNat), .inl (8 * (S0_.1 13 0 34) - 16), .inr (.inr (some (139, 0)))], Sx70_)) rfl ?_
              refine sm_T_bin (w := (i_xor (Sx70_.2.2.1 139 0 (8 * (S0_.1 13 0 34) - 16).toNat) (Sx70_.2.2.1 139 0 (8 * (S0_.1 13 0 34) - 8).toNat))) rfl rfl ?_
              have bx109_ := (i_x11 (x_ := (Sx70_.2.2.1 139 0 (8 * (S0_.1 13 0 34) - 16).toNat)) (y_ := (Sx70_.2.2.1 139 0 (8 * (S0_.1 13 0 34) - 8).toNat)) ⟨by omega, by omega⟩ ⟨by omega, by omega⟩).2.1
              refine sm_T_go 1 (c1 := (168, [some (.inr (.inr (some (13, 0)))), some (.inl (S0_.2.2.1 136 0 ((S0_.1 13 0 32) - 1).toNat)), some (.inl (S0_.2.2.1 137 0 ((S0_.1 13 0 32) - 1).toNat)), some (.inl ((S0_.1 13 0 34) - 2)), some (.inl ((S0_.1 13 0 34) - 1)), some (.inl (Sx70_.2.2.1 139 0 (8 * (S0_.1 13 0 34) - 16).toNat)), some (.inl (Sx70_.2.2.1 139 0 (8 * (S0_.1 13 0 34) - 8).toNat))], [.inl (i_xor (Sx70_.2.2.1 139 0 (8 * (S0_.1 13 0 34) - 16).toNat) (Sx70_.2.2.1 139 0 (8 * (S0_.1 13 0 34) - 8).toNat)), .inl (8 * (S0_.1 13 0 34) - 16), .inr (.inr (some (139, 0)))], Sx70_)) rfl ?_
              refine sm_T_iast (n := 8192) rfl rfl (by omega) (by omega) ?_
              have hIx110_ : gi (sm_aI Sx70_ 139 0 (8 * (S0_.1 13 0 34) - 16).toNat (i_xor (Sx70_.2.2.1 139 0 (8 * (S0_.1 13 0 34) - 16).toNat) (Sx70_.2.2.1 139 0 (8 * (S0_.1 13 0 34) - 8).toNat))) := gi_aI hIx71_ (show 0 ≤ (i_xor (Sx70_.2.2.1 139 0 (8 * (S0_.1 13 0 34) - 16).toNat) (Sx70_.2.2.1 139 0 (8 * (S0_.1 13 0 34) - 8).toNat)) ∧ (i_xor (Sx70_.2.2.1 139 0 (8 * (S0_.1 13 0 34) - 16).toNat) (Sx70_.2.2.1 139 0 (8 * (S0_.1 13 0 34) - 8).toNat)) ≤ 2047 from ⟨by omega, by omega⟩)
              have hFx111_ : ai_fr (sx_W vw_313) S0_ (sm_aI Sx70_ 139 0 (8 * (S0_.1 13 0 34) - 16).toNat (i_xor (Sx70_.2.2.1 139 0 (8 * (S0_.1 13 0 34) - 16).toNat) (Sx70_.2.2.1 139 0 (8 * (S0_.1 13 0 34) - 8).toNat))) := ai_fr_tr hFx74_ (ai_fr_aI rfl)
              refine sm_T_go 5 (c1 := (178, [some (.inr (.inr (some (13, 0)))), some (.inl (S0_.2.2.1 136 0 ((S0_.1 13 0 32) - 1).toNat)), some (.inl (S0_.2.2.1 137 0 ((S0_.1 13 0 32) - 1).toNat)), some (.inl ((S0_.1 13 0 34) - 2)), some (.inl ((S0_.1 13 0 34) - 1)), some (.inl (Sx70_.2.2.1 139 0 (8 * (S0_.1 13 0 34) - 16).toNat)), some (.inl (Sx70_.2.2.1 139 0 (8 * (S0_.1 13 0 34) - 8).toNat))], [.inl 257, .inl (S0_.2.2.1 136 0 ((S0_.1 13 0 32) - 1).toNat), .inl ((S0_.1 13 0 34) - 2), .inr (.inr (some (138, 0)))], sm_aI Sx70_ 139 0 (8 * (S0_.1 13 0 34) - 16).toNat (i_xor (Sx70_.2.2.1 139 0 (8 * (S0_.1 13 0 34) - 16).toNat) (Sx70_.2.2.1 139 0 (8 * (S0_.1 13 0 34) - 8).toNat)))) rfl ?_
              refine sm_T_br (a := 1) (z := 7) rfl (fun cx112_ => ?_) (fun cx112_ => ?_)
              · have cx112_ : (S0_.2.2.1 136 0 ((S0_.1 13 0 32) - 1).toNat) ≠ 257 := of_decide_eq_true cx112_
                refine sm_T_go 3 (c1 := (190, [some (.inr (.inr (some (13, 0)))), some (.inl (S0_.2.2.1 136 0 ((S0_.1 13 0 32) - 1).toNat)), some (.inl (S0_.2.2.1 137 0 ((S0_.1 13 0 32) - 1).toNat)), some (.inl ((S0_.1 13 0 34) - 2)), some (.inl ((S0_.1 13 0 34) - 1)), some (.inl (Sx70_.2.2.1 139 0 (8 * (S0_.1 13 0 34) - 16).toNat)), some (.inl (Sx70_.2.2.1 139 0 (8 * (S0_.1 13 0 34) - 8).toNat))], [.inl ((S0_.1 13 0 34) - 2), .inr (.inr (some (138, 0))), .inl ((S0_.1 13 0 34) - 2), .inr (.inr (some (138, 0)))], sm_aI Sx70_ 139 0 (8 * (S0_.1 13 0 34) - 16).toNat (i_xor (Sx70_.2.2.1 139 0 (8 * (S0_.1 13 0 34) - 16).toNat) (Sx70_.2.2.1 139 0 (8 * (S0_.1 13 0 34) - 8).toNat)))) rfl ?_
                refine sm_T_iald (n := 1024) rfl rfl (by omega) (by omega) ?_
                have bx113_ : (-2147483648) ≤ Sx70_.2.2.1 138 0 ((S0_.1 13 0 34) - 2).toNat ∧ Sx70_.2.2.1 138 0 ((S0_.1 13 0 34) - 2).toNat ≤ 2147483647 := hIx71_.2 138 0 _
                refine sm_T_iast (n := 1024) rfl rfl (by omega) (by omega) ?_
                have hIx114_ : gi (sm_aI (sm_aI Sx70_ 139 0 (8 * (S0_.1 13 0 34) - 16).toNat (i_xor (Sx70_.2.2.1 139 0 (8 * (S0_.1 13 0 34) - 16).toNat) (Sx70_.2.2.1 139 0 (8 * (S0_.1 13 0 34) - 8).toNat))) 138 0 ((S0_.1 13 0 34) - 2).toNat (Sx70_.2.2.1 138 0 ((S0_.1 13 0 34) - 2).toNat)) := gi_aI hIx110_ (show (-2147483648) ≤ (Sx70_.2.2.1 138 0 ((S0_.1 13 0 34) - 2).toNat) ∧ (Sx70_.2.2.1 138 0 ((S0_.1 13 0 34) - 2).toNat) ≤ 2147483647 from ⟨by omega, by omega⟩)
                have hFx115_ : ai_fr (sx_W vw_313) S0_ (sm_aI (sm_aI Sx70_ 139 0 (8 * (S0_.1 13 0 34) - 16).toNat (i_xor (Sx70_.2.2.1 139 0 (8 * (S0_.1 13 0 34) - 16).toNat) (Sx70_.2.2.1 139 0 (8 * (S0_.1 13 0 34) - 8).toNat))) 138 0 ((S0_.1 13 0 34) - 2).toNat (Sx70_.2.2.1 138 0 ((S0_.1 13 0 34) - 2).toNat)) := ai_fr_tr hFx111_ (ai_fr_aI rfl)
                have bx116_ : 0 ≤ Sx70_.1 13 0 34 ∧ Sx70_.1 13 0 34 ≤ 1023 := hIx71_.1 13 0 34 rfl
                refine sm_T_go 4 (c1 := (198, [some (.inr (.inr (some (13, 0)))), some (.inl (S0_.2.2.1 136 0 ((S0_.1 13 0 32) - 1).toNat)), some (.inl (S0_.2.2.1 137 0 ((S0_.1 13 0 32) - 1).toNat)), some (.inl ((S0_.1 13 0 34) - 2)), some (.inl ((S0_.1 13 0 34) - 1)), some (.inl (Sx70_.2.2.1 139 0 (8 * (S0_.1 13 0 34) - 16).toNat)), some (.inl (Sx70_.2.2.1 139 0 (8 * (S0_.1 13 0 34) - 8).toNat))], [.inl 1, .inl (Sx70_.1 13 0 34), .inr (.inr (some (13, 0)))], sm_aI (sm_aI Sx70_ 139 0 (8 * (S0_.1 13 0 34) - 16).toNat (i_xor (Sx70_.2.2.1 139 0 (8 * (S0_.1 13 0 34) - 16).toNat) (Sx70_.2.2.1 139 0 (8 * (S0_.1 13 0 34) - 8).toNat))) 138 0 ((S0_.1 13 0 34) - 2).toNat (Sx70_.2.2.1 138 0 ((S0_.1 13 0 34) - 2).toNat))) rfl ?_
                refine sm_T_bin (w := (Sx70_.1 13 0 34) - 1) rfl (bi_sub (by omega) (by omega) (by omega)) ?_
                have hIx117_ : gi (sm_pI (sm_aI (sm_aI Sx70_ 139 0 (8 * (S0_.1 13 0 34) - 16).toNat (i_xor (Sx70_.2.2.1 139 0 (8 * (S0_.1 13 0 34) - 16).toNat) (Sx70_.2.2.1 139 0 (8 * (S0_.1 13 0 34) - 8).toNat))) 138 0 ((S0_.1 13 0 34) - 2).toNat (Sx70_.2.2.1 138 0 ((S0_.1 13 0 34) - 2).toNat)) 13 0 34 ((Sx70_.1 13 0 34) - 1)) := gi_pI hIx114_ (show 0 ≤ (Sx70_.1 13 0 34) - 1 ∧ (Sx70_.1 13 0 34) - 1 ≤ 1023 from ⟨by omega, by omega⟩)
                have hFx118_ : ai_fr (sx_W vw_313) S0_ (sm_pI (sm_aI (sm_aI Sx70_ 139 0 (8 * (S0_.1 13 0 34) - 16).toNat (i_xor (Sx70_.2.2.1 139 0 (8 * (S0_.1 13 0 34) - 16).toNat) (Sx70_.2.2.1 139 0 (8 * (S0_.1 13 0 34) - 8).toNat))) 138 0 ((S0_.1 13 0 34) - 2).toNat (Sx70_.2.2.1 138 0 ((S0_.1 13 0 34) - 2).toNat)) 13 0 34 ((Sx70_.1 13 0 34) - 1)) := ai_fr_tr hFx115_ (ai_fr_pI rfl)
                refine sm_T_go 1 (c1 := (202, [some (.inr (.inr (some (13, 0)))), some (.inl (S0_.2.2.1 136 0 ((S0_.1 13 0 32) - 1).toNat)), some (.inl (S0_.2.2.1 137 0 ((S0_.1 13 0 32) - 1).toNat)), some (.inl ((S0_.1 13 0 34) - 2)), some (.inl ((S0_.1 13 0 34) - 1)), some (.inl (Sx70_.2.2.1 139 0 (8 * (S0_.1 13 0 34) - 16).toNat)), some (.inl (Sx70_.2.2.1 139 0 (8 * (S0_.1 13 0 34) - 8).toNat))], [], sm_pI (sm_aI (sm_aI Sx70_ 139 0 (8 * (S0_.1 13 0 34) - 16).toNat (i_xor (Sx70_.2.2.1 139 0 (8 * (S0_.1 13 0 34) - 16).toNat) (Sx70_.2.2.1 139 0 (8 * (S0_.1 13 0 34) - 8).toNat))) 138 0 ((S0_.1 13 0 34) - 2).toNat (Sx70_.2.2.1 138 0 ((S0_.1 13 0 34) - 2).toNat)) 13 0 34 ((Sx70_.1 13 0 34) - 1))) rfl ?_
                refine sm_T_rv rfl ⟨_, _, rfl, rfl, hIx117_, hFx118_, ?_⟩
                refine ⟨?_, by first | rfl | ((try simp only [rd_eq, rd_ne, rf_eq, rf_nk, rf_nt, rd_fa, rd_af, rd_fl, rd_al, rd_lf, rd_la, rd_leq, rd_lne, rd_fr, rd_ar, ne_eq, Nat.reduceEqDiff, not_false_eq_true]); omega)⟩
                first | (exfalso; omega) | (have e0_ := e1_ (by omega); have mz_ : ¬ mdo mo_ = true := (by unfold mdo; rw [decide_eq_false (by omega)]; decide); have hp_ : p_ap2 (mdo mo_) k_ q_ o_ x_ y_ g_ c_ = .inr (o_, (if k_ = 4 then 1 else x_) :: g_, k_ :: c_) := (by unfold p_ap2 p_ap; rw [if_neg mz_, if_pos (by omega)]; rfl); rw [hp_]; refine ⟨⟨hg_, ⟨u0_, ⟨by (try simp only [rd_eq, rd_ne, rf_eq, rf_nk, rf_nt, rd_fa, rd_af, rd_fl, rd_al, rd_lf, rd_la, rd_leq, rd_lne, rd_fr, rd_ar, ne_eq, Nat.reduceEqDiff, not_false_eq_true]); omega, by rw [fr_arr hFx118_ rfl]; exact hw_.2.1.2, by rw [fr_arr hFx118_ rfl]; exact hw_.2.2.2⟩, Or.inr ⟨rfl, hwr1_⟩⟩, (hFx118_.1 13 0 33 rfl).trans (hop_.trans (by show (((if k_ < 0 then 1 else 0) + o_mk o_ : Nat) : Int) = _; rw [if_neg (by omega)]; simp)), ⟨?_, ?_, ?_⟩, (hFx118_.1 13 0 27 rfl).trans hmo1_⟩, s_ok_ap hk_ (by have xb_ := (h_ok_c.mp (h_ok_c.mp hs_.2.2.2).2).1; split; decide; exact xb_) hs_⟩; ((try simp only [rd_eq, rd_ne, rf_eq, rf_nk, rf_nt, rd_fa, rd_af, rd_fl, rd_al, rd_lf, rd_la, rd_leq, rd_lne, rd_fr, rd_ar, ne_eq, Nat.reduceEqDiff, not_false_eq_true]); simp only [List.length_cons]; push_cast; omega); (intro z_; refine stk_pu l1_ ?_ (v2_ z_).2.2; have q257_ := (w_sg_b (md_ := mdo mo_) (k_ := k_) (Or.inr (Or.inr (Or.inr ⟨hk_, (o_ok_lt hs_.1 hk_).2⟩)))).2.2.2.1; first | (rw [if_pos (by omega)]) | (rw [if_neg (by omega)]; exact e0_.1)); (intro z_; omega)) | (have e0_ := e2_ (by omega); have mz_ : mdo mo_ = true := (by unfold mdo; exact decide_eq_true (by omega)); have hp_ : p_ap2 (mdo mo_) k_ q_ o_ x_ y_ g_ c_ = .inr (o_, p_lo k_ x_ y_ :: g_, c_) := (by unfold p_ap2 p_ap; rw [if_pos mz_]; rfl); rw [hp_]; refine ⟨⟨hg_, ⟨u0_, ⟨by (try simp only [rd_eq, rd_ne, rf_eq, rf_nk, rf_nt, rd_fa, rd_af, rd_fl, rd_al, rd_lf, rd_la, rd_leq, rd_lne, rd_fr, rd_ar, ne_eq, Nat.reduceEqDiff, not_false_eq_true]); omega, by rw [fr_arr hFx118_ rfl]; exact hw_.2.1.2, by rw [fr_arr hFx118_ rfl]; exact hw_.2.2.2⟩, Or.inr ⟨rfl, hwr1_⟩⟩, (hFx118_.1 13 0 33 rfl).trans (hop_.trans (by show (((if k_ < 0 then 1 else 0) + o_mk o_ : Nat) : Int) = _; rw [if_neg (by omega)]; simp)), ⟨?_, ?_, ?_⟩, (hFx118_.1 13 0 27 rfl).trans hmo1_⟩, s_ok_ap hk_ (p_lo_b (h_ok_c.mp (h_ok_c.mp hs_.2.2.2).2).1 (h_ok_c.mp hs_.2.2.2).1) hs_⟩; ((try simp only [rd_eq, rd_ne, rf_eq, rf_nk, rf_nt, rd_fa, rd_af, rd_fl, rd_al, rd_lf, rd_la, rd_leq, rd_lne, rd_fr, rd_ar, ne_eq, Nat.reduceEqDiff, not_false_eq_true]); simp only [List.length_cons]; push_cast; omega); (intro z_; omega); (intro z_; refine stk_8o (stk_8p l3_ ?_ (v3_ z_).2.2) (by decide); unfold p_lo; rw [e0_.1, e0_.2]; have q124_ := (w_sg_b (md_ := mdo mo_) (k_ := k_) (Or.inr (Or.inr (Or.inr ⟨hk_, (o_ok_lt hs_.1 hk_).2⟩)))).2.2.2.2.2.2.2; first | (rw [if_pos (by omega)]) | (rw [if_neg (by omega), if_pos (by omega)]) | (rw [if_neg (by omega), if_neg (by omega)]))) | (have e0_ := e1_ (by omega); have mz_ : ¬ mdo mo_ = true := (by unfold mdo; rw [decide_eq_false (by omega)]; decide); have hp_ : p_ap2 (mdo mo_) k_ q_ o_ x_ y_ g_ c_ = .inl (13, q_) := (by unfold p_ap2 p_ap; rw [if_neg mz_, if_neg (by omega)]; rfl); rw [hp_]; rcases e77_ with z_ | z_; (exact absurd hf0_ z_.1); (refine ⟨z_.2.1, ?_, by show (13 : Int) ≠ 0; decide, ?_, md77_⟩; (refine Eq.trans z_.2.2 ?_; show S0_.2.2.1 120 0 (S0_.2.2.1 137 0 (S0_.1 13 0 32 - 1).toNat).toNat = _; rw [wtk_]; exact hq1_.2); ((try simp only [rd_eq, rd_ne, rf_eq, rf_nk, rf_nt, rd_fa, rd_af, rd_fl, rd_al, rd_lf, rd_la, rd_leq, rd_lne, rd_fr, rd_ar, ne_eq, Nat.reduceEqDiff, not_false_eq_true]); omega)))
              · have cx112_ : ¬ ((S0_.2.2.1 136 0 ((S0_.1 13 0 32) - 1).toNat) ≠ 257) := of_decide_eq_false cx112_
                exfalso; omega
          · have cx92_ : ¬ ((S0_.2.2.1 136 0 ((S0_.1 13 0 32) - 1).toNat) ≠ 124) := of_decide_eq_false cx92_
            refine sm_T_go 2 (c1 := (145, [some (.inr (.inr (some (13, 0)))), some (.inl (S0_.2.2.1 136 0 ((S0_.1 13 0 32) - 1).toNat)), some (.inl (S0_.2.2.1 137 0 ((S0_.1 13 0 32) - 1).toNat)), some (.inl ((S0_.1 13 0 34) - 2)), some (.inl ((S0_.1 13 0 34) - 1)), some (.inl (Sx70_.2.2.1 139 0 (8 * (S0_.1 13 0 34) - 16).toNat)), some (.inl (Sx70_.2.2.1 139 0 (8 * (S0_.1 13 0 34) - 8).toNat))], [.inl (Sx70_.2.2.1 139 0 (8 * (S0_.1 13 0 34) - 8).toNat), .inl (Sx70_.2.2.1 139 0 (8 * (S0_.1 13 0 34) - 16).toNat), .inl (8 * (S0_.1 13 0 34) - 16), .inr (.inr (some (139, 0)))], Sx70_)) rfl ?_
            refine sm_T_bin (w := (i_or (Sx70_.2.2.1 139 0 (8 * (S0_.1 13 0 34) - 16).toNat) (Sx70_.2.2.1 139 0 (8 * (S0_.1 13 0 34) - 8).toNat))) rfl rfl ?_
            have bx119_ := (i_x11 (x_ := (Sx70_.2.2.1 139 0 (8 * (S0_.1 13 0 34) - 16).toNat)) (y_ := (Sx70_.2.2.1 139 0 (8 * (S0_.1 13 0 34) - 8).toNat)) ⟨by omega, by omega⟩ ⟨by omega, by omega⟩).1
            refine sm_T_go 1 (c1 := (168, [some (.inr (.inr (some (13, 0)))), some (.inl (S0_.2.2.1 136 0 ((S0_.1 13 0 32) - 1).toNat)), some (.inl (S0_.2.2.1 137 0 ((S0_.1 13 0 32) - 1).toNat)), some (.inl ((S0_.1 13 0 34) - 2)), some (.inl ((S0_.1 13 0 34) - 1)), some (.inl (Sx70_.2.2.1 139 0 (8 * (S0_.1 13 0 34) - 16).toNat)), some (.inl (Sx70_.2.2.1 139 0 (8 * (S0_.1 13 0 34) - 8).toNat))], [.inl (i_or (Sx70_.2.2.1 139 0 (8 * (S0_.1 13 0 34) - 16).toNat) (Sx70_.2.2.1 139 0 (8 * (S0_.1 13 0 34) - 8).toNat)), .inl (8 * (S0_.1 13 0 34) - 16), .inr (.inr (some (139, 0)))], Sx70_)) rfl ?_
            refine sm_T_iast (n := 8192) rfl rfl (by omega) (by omega) ?_
            have hIx120_ : gi (sm_aI Sx70_ 139 0 (8 * (S0_.1 13 0 34) - 16).toNat (i_or (Sx70_.2.2.1 139 0 (8 * (S0_.1 13 0 34) - 16).toNat) (Sx70_.2.2.1 139 0 (8 * (S0_.1 13 0 34) - 8).toNat))) := gi_aI hIx71_ (show 0 ≤ (i_or (Sx70_.2.2.1 139 0 (8 * (S0_.1 13 0 34) - 16).toNat) (Sx70_.2.2.1 139 0 (8 * (S0_.1 13 0 34) - 8).toNat)) ∧ (i_or (Sx70_.2.2.1 139 0 (8 * (S0_.1 13 0 34) - 16).toNat) (Sx70_.2.2.1 139 0 (8 * (S0_.1 13 0 34) - 8).toNat)) ≤ 2047 from ⟨by omega, by omega⟩)
            have hFx121_ : ai_fr (sx_W vw_313) S0_ (sm_aI Sx70_ 139 0 (8 * (S0_.1 13 0 34) - 16).toNat (i_or (Sx70_.2.2.1 139 0 (8 * (S0_.1 13 0 34) - 16).toNat) (Sx70_.2.2.1 139 0 (8 * (S0_.1 13 0 34) - 8).toNat))) := ai_fr_tr hFx74_ (ai_fr_aI rfl)
            refine sm_T_go 5 (c1 := (178, [some (.inr (.inr (some (13, 0)))), some (.inl (S0_.2.2.1 136 0 ((S0_.1 13 0 32) - 1).toNat)), some (.inl (S0_.2.2.1 137 0 ((S0_.1 13 0 32) - 1).toNat)), some (.inl ((S0_.1 13 0 34) - 2)), some (.inl ((S0_.1 13 0 34) - 1)), some (.inl (Sx70_.2.2.1 139 0 (8 * (S0_.1 13 0 34) - 16).toNat)), some (.inl (Sx70_.2.2.1 139 0 (8 * (S0_.1 13 0 34) - 8).toNat))], [.inl 257, .inl (S0_.2.2.1 136 0 ((S0_.1 13 0 32) - 1).toNat), .inl ((S0_.1 13 0 34) - 2), .inr (.inr (some (138, 0)))], sm_aI Sx70_ 139 0 (8 * (S0_.1 13 0 34) - 16).toNat (i_or (Sx70_.2.2.1 139 0 (8 * (S0_.1 13 0 34) - 16).toNat) (Sx70_.2.2.1 139 0 (8 * (S0_.1 13 0 34) - 8).toNat)))) rfl ?_
            refine sm_T_br (a := 1) (z := 7) rfl (fun cx122_ => ?_) (fun cx122_ => ?_)
            · have cx122_ : (S0_.2.2.1 136 0 ((S0_.1 13 0 32) - 1).toNat) ≠ 257 := of_decide_eq_true cx122_
              refine sm_T_go 3 (c1 := (190, [some (.inr (.inr (some (13, 0)))), some (.inl (S0_.2.2.1 136 0 ((S0_.1 13 0 32) - 1).toNat)), some (.inl (S0_.2.2.1 137 0 ((S0_.1 13 0 32) - 1).toNat)), some (.inl ((S0_.1 13 0 34) - 2)), some (.inl ((S0_.1 13 0 34) - 1)), some (.inl (Sx70_.2.2.1 139 0 (8 * (S0_.1 13 0 34) - 16).toNat)), some (.inl (Sx70_.2.2.1 139 0 (8 * (S0_.1 13 0 34) - 8).toNat))], [.inl ((S0_.1 13 0 34) - 2), .inr (.inr (some (138, 0))), .inl ((S0_.1 13 0 34) - 2), .inr (.inr (some (138, 0)))], sm_aI Sx70_ 139 0 (8 * (S0_.1 13 0 34) - 16).toNat (i_or (Sx70_.2.2.1 139 0 (8 * (S0_.1 13 0 34) - 16).toNat) (Sx70_.2.2.1 139 0 (8 * (S0_.1 13 0 34) - 8).toNat)))) rfl ?_
              refine sm_T_iald (n := 1024) rfl rfl (by omega) (by omega) ?_
              have bx123_ : (-2147483648) ≤ Sx70_.2.2.1 138 0 ((S0_.1 13 0 34) - 2).toNat ∧ Sx70_.2.2.1 138 0 ((S0_.1 13 0 34) - 2).toNat ≤ 2147483647 := hIx71_.2 138 0 _
              refine sm_T_iast (n := 1024) rfl rfl (by omega) (by omega) ?_
              have hIx124_ : gi (sm_aI (sm_aI Sx70_ 139 0 (8 * (S0_.1 13 0 34) - 16).toNat (i_or (Sx70_.2.2.1 139 0 (8 * (S0_.1 13 0 34) - 16).toNat) (Sx70_.2.2.1 139 0 (8 * (S0_.1 13 0 34) - 8).toNat))) 138 0 ((S0_.1 13 0 34) - 2).toNat (Sx70_.2.2.1 138 0 ((S0_.1 13 0 34) - 2).toNat)) := gi_aI hIx120_ (show (-2147483648) ≤ (Sx70_.2.2.1 138 0 ((S0_.1 13 0 34) - 2).toNat) ∧ (Sx70_.2.2.1 138 0 ((S0_.1 13 0 34) - 2).toNat) ≤ 2147483647 from ⟨by omega, by omega⟩)
              have hFx125_ : ai_fr (sx_W vw_313) S0_ (sm_aI (sm_aI Sx70_ 139 0 (8 * (S0_.1 13 0 34) - 16).toNat (i_or (Sx70_.2.2.1 139 0 (8 * (S0_.1 13 0 34) - 16).toNat) (Sx70_.2.2.1 139 0 (8 * (S0_.1 13 0 34) - 8).toNat))) 138 0 ((S0_.1 13 0 34) - 2).toNat (Sx70_.2.2.1 138 0 ((S0_.1 13 0 34) - 2).toNat)) := ai_fr_tr hFx121_ (ai_fr_aI rfl)
              have bx126_ : 0 ≤ Sx70_.1 13 0 34 ∧ Sx70_.1 13 0 34 ≤ 1023 := hIx71_.1 13 0 34 rfl
              refine sm_T_go 4 (c1 := (198, [some (.inr (.inr (some (13, 0)))), some (.inl (S0_.2.2.1 136 0 ((S0_.1 13 0 32) - 1).toNat)), some (.inl (S0_.2.2.1 137 0 ((S0_.1 13 0 32) - 1).toNat)), some (.inl ((S0_.1 13 0 34) - 2)), some (.inl ((S0_.1 13 0 34) - 1)), some (.inl (Sx70_.2.2.1 139 0 (8 * (S0_.1 13 0 34) - 16).toNat)), some (.inl (Sx70_.2.2.1 139 0 (8 * (S0_.1 13 0 34) - 8).toNat))], [.inl 1, .inl (Sx70_.1 13 0 34), .inr (.inr (some (13, 0)))], sm_aI (sm_aI Sx70_ 139 0 (8 * (S0_.1 13 0 34) - 16).toNat (i_or (Sx70_.2.2.1 139 0 (8 * (S0_.1 13 0 34) - 16).toNat) (Sx70_.2.2.1 139 0 (8 * (S0_.1 13 0 34) - 8).toNat))) 138 0 ((S0_.1 13 0 34) - 2).toNat (Sx70_.2.2.1 138 0 ((S0_.1 13 0 34) - 2).toNat))) rfl ?_
              refine sm_T_bin (w := (Sx70_.1 13 0 34) - 1) rfl (bi_sub (by omega) (by omega) (by omega)) ?_
              have hIx127_ : gi (sm_pI (sm_aI (sm_aI Sx70_ 139 0 (8 * (S0_.1 13 0 34) - 16).toNat (i_or (Sx70_.2.2.1 139 0 (8 * (S0_.1 13 0 34) - 16).toNat) (Sx70_.2.2.1 139 0 (8 * (S0_.1 13 0 34) - 8).toNat))) 138 0 ((S0_.1 13 0 34) - 2).toNat (Sx70_.2.2.1 138 0 ((S0_.1 13 0 34) - 2).toNat)) 13 0 34 ((Sx70_.1 13 0 34) - 1)) := gi_pI hIx124_ (show 0 ≤ (Sx70_.1 13 0 34) - 1 ∧ (Sx70_.1 13 0 34) - 1 ≤ 1023 from ⟨by omega, by omega⟩)
              have hFx128_ : ai_fr (sx_W vw_313) S0_ (sm_pI (sm_aI (sm_aI Sx70_ 139 0 (8 * (S0_.1 13 0 34) - 16).toNat (i_or (Sx70_.2.2.1 139 0 (8 * (S0_.1 13 0 34) - 16).toNat) (Sx70_.2.2.1 139 0 (8 * (S0_.1 13 0 34) - 8).toNat))) 138 0 ((S0_.1 13 0 34) - 2).toNat (Sx70_.2.2.1 138 0 ((S0_.1 13 0 34) - 2).toNat)) 13 0 34 ((Sx70_.1 13 0 34) - 1)) := ai_fr_tr hFx125_ (ai_fr_pI rfl)
              refine sm_T_go 1 (c1 := (202, [some (.inr (.inr (some (13, 0)))), some (.inl (S0_.2.2.1 136 0 ((S0_.1 13 0 32) - 1).toNat)), some (.inl (S0_.2.2.1 137 0 ((S0_.1 13 0 32) - 1).toNat)), some (.inl ((S0_.1 13 0 34) - 2)), some (.inl ((S0_.1 13 0 34) - 1)), some (.inl (Sx70_.2.2.1 139 0 (8 * (S0_.1 13 0 34) - 16).toNat)), some (.inl (Sx70_.2.2.1 139 0 (8 * (S0_.1 13 0 34) - 8).toNat))], [], sm_pI (sm_aI (sm_aI Sx70_ 139 0 (8 * (S0_.1 13 0 34) - 16).toNat (i_or (Sx70_.2.2.1 139 0 (8 * (S0_.1 13 0 34) - 16).toNat) (Sx70_.2.2.1 139 0 (8 * (S0_.1 13 0 34) - 8).toNat))) 138 0 ((S0_.1 13 0 34) - 2).toNat (Sx70_.2.2.1 138 0 ((S0_.1 13 0 34) - 2).toNat)) 13 0 34 ((Sx70_.1 13 0 34) - 1))) rfl ?_
              refine sm_T_rv rfl ⟨_, _, rfl, rfl, hIx127_, hFx128_, ?_⟩
              refine ⟨?_, by first | rfl | ((try simp only [rd_eq, rd_ne, rf_eq, rf_nk, rf_nt, rd_fa, rd_af, rd_fl, rd_al, rd_lf, rd_la, rd_leq, rd_lne, rd_fr, rd_ar, ne_eq, Nat.reduceEqDiff, not_false_eq_true]); omega)⟩
              first | (exfalso; omega) | (have e0_ := e1_ (by omega); have mz_ : ¬ mdo mo_ = true := (by unfold mdo; rw [decide_eq_false (by omega)]; decide); have hp_ : p_ap2 (mdo mo_) k_ q_ o_ x_ y_ g_ c_ = .inr (o_, (if k_ = 4 then 1 else x_) :: g_, k_ :: c_) := (by unfold p_ap2 p_ap; rw [if_neg mz_, if_pos (by omega)]; rfl); rw [hp_]; refine ⟨⟨hg_, ⟨u0_, ⟨by (try simp only [rd_eq, rd_ne, rf_eq, rf_nk, rf_nt, rd_fa, rd_af, rd_fl, rd_al, rd_lf, rd_la, rd_leq, rd_lne, rd_fr, rd_ar, ne_eq, Nat.reduceEqDiff, not_false_eq_true]); omega, by rw [fr_arr hFx128_ rfl]; exact hw_.2.1.2, by rw [fr_arr hFx128_ rfl]; exact hw_.2.2.2⟩, Or.inr ⟨rfl, hwr1_⟩⟩, (hFx128_.1 13 0 33 rfl).trans (hop_.trans (by show (((if k_ < 0 then 1 else 0) + o_mk o_ : Nat) : Int) = _; rw [if_neg (by omega)]; simp)), ⟨?_, ?_, ?_⟩, (hFx128_.1 13 0 27 rfl).trans hmo1_⟩, s_ok_ap hk_ (by have xb_ := (h_ok_c.mp (h_ok_c.mp hs_.2.2.2).2).1; split; decide; exact xb_) hs_⟩; ((try simp only [rd_eq, rd_ne, rf_eq, rf_nk, rf_nt, rd_fa, rd_af, rd_fl, rd_al, rd_lf, rd_la, rd_leq, rd_lne, rd_fr, rd_ar, ne_eq, Nat.reduceEqDiff, not_false_eq_true]); simp only [List.length_cons]; push_cast; omega); (intro z_; refine stk_pu l1_ ?_ (v2_ z_).2.2; have q257_ := (w_sg_b (md_ := mdo mo_) (k_ := k_) (Or.inr (Or.inr (Or.inr ⟨hk_, (o_ok_lt hs_.1 hk_).2⟩)))).2.2.2.1; first | (rw [if_pos (by omega)]) | (rw [if_neg (by omega)]; exact e0_.1)); (intro z_; omega)) | (have e0_ := e2_ (by omega); have mz_ : mdo mo_ = true := (by unfold mdo; exact decide_eq_true (by omega)); have hp_ : p_ap2 (mdo mo_) k_ q_ o_ x_ y_ g_ c_ = .inr (o_, p_lo k_ x_ y_ :: g_, c_) := (by unfold p_ap2 p_ap; rw [if_pos mz_]; rfl); rw [hp_]; refine ⟨⟨hg_, ⟨u0_, ⟨by (try simp only [rd_eq, rd_ne, rf_eq, rf_nk, rf_nt, rd_fa, rd_af, rd_fl, rd_al, rd_lf, rd_la, rd_leq, rd_lne, rd_fr, rd_ar, ne_eq, Nat.reduceEqDiff, not_false_eq_true]); omega, by rw [fr_arr hFx128_ rfl]; exact hw_.2.1.2, by rw [fr_arr hFx128_ rfl]; exact hw_.2.2.2⟩, Or.inr ⟨rfl, hwr1_⟩⟩, (hFx128_.1 13 0 33 rfl).trans (hop_.trans (by show (((if k_ < 0 then 1 else 0) + o_mk o_ : Nat) : Int) = _; rw [if_neg (by omega)]; simp)), ⟨?_, ?_, ?_⟩, (hFx128_.1 13 0 27 rfl).trans hmo1_⟩, s_ok_ap hk_ (p_lo_b (h_ok_c.mp (h_ok_c.mp hs_.2.2.2).2).1 (h_ok_c.mp hs_.2.2.2).1) hs_⟩; ((try simp only [rd_eq, rd_ne, rf_eq, rf_nk, rf_nt, rd_fa, rd_af, rd_fl, rd_al, rd_lf, rd_la, rd_leq, rd_lne, rd_fr, rd_ar, ne_eq, Nat.reduceEqDiff, not_false_eq_true]); simp only [List.length_cons]; push_cast; omega); (intro z_; omega); (intro z_; refine stk_8o (stk_8p l3_ ?_ (v3_ z_).2.2) (by decide); unfold p_lo; rw [e0_.1, e0_.2]; have q124_ := (w_sg_b (md_ := mdo mo_) (k_ := k_) (Or.inr (Or.inr (Or.inr ⟨hk_, (o_ok_lt hs_.1 hk_).2⟩)))).2.2.2.2.2.2.2; first | (rw [if_pos (by omega)]) | (rw [if_neg (by omega), if_pos (by omega)]) | (rw [if_neg (by omega), if_neg (by omega)]))) | (have e0_ := e1_ (by omega); have mz_ : ¬ mdo mo_ = true := (by unfold mdo; rw [decide_eq_false (by omega)]; decide); have hp_ : p_ap2 (mdo mo_) k_ q_ o_ x_ y_ g_ c_ = .inl (13, q_) := (by unfold p_ap2 p_ap; rw [if_neg mz_, if_neg (by omega)]; rfl); rw [hp_]; rcases e77_ with z_ | z_; (exact absurd hf0_ z_.1); (refine ⟨z_.2.1, ?_, by show (13 : Int) ≠ 0; decide, ?_, md77_⟩; (refine Eq.trans z_.2.2 ?_; show S0_.2.2.1 120 0 (S0_.2.2.1 137 0 (S0_.1 13 0 32 - 1).toNat).toNat = _; rw [wtk_]; exact hq1_.2); ((try simp only [rd_eq, rd_ne, rf_eq, rf_nk, rf_nt, rd_fa, rd_af, rd_fl, rd_al, rd_lf, rd_la, rd_leq, rd_lne, rd_fr, rd_ar, ne_eq, Nat.reduceEqDiff, not_false_eq_true]); omega)))
            · have cx122_ : ¬ ((S0_.2.2.1 136 0 ((S0_.1 13 0 32) - 1).toNat) ≠ 257) := of_decide_eq_false cx122_
              exfalso; omega
      · have cx76_ : ¬ ((Sx70_.1 13 0 27) ≠ 1) := of_decide_eq_false cx76_
        exfalso; omega
end
/-! 99.y6a -/
section
/-! the reference: settling; written by wip/p55/gen/vg -/

/-! settling -/
def p_ch2 (q_ : Nat) (o_ : List (Int × Nat)) (h_ c_ : List Int) : pE pO := pb (p_ch q_ h_ c_) fun r_ => .inr (o_, r_.1, r_.2)
def p_se2 (mo_ ls_ : Int) (s_ : pO) : pE pO := p_se (mdo mo_) ls_ s_.1 s_.2.1 s_.2.2
def p_sa2 (mo_ : Int) (s_ : pO) : pE pO := p_sa (mdo mo_) s_.1 s_.2.1 s_.2.2
theorem lt_if {a_ v_ ls_ : Int} (h_ : v_ = if 1 ≤ a_ then a_ else 0) (h1_ : v_ < ls_) (h2_ : 1 ≤ ls_) : a_ < ls_ := by
  split at h_ <;> omega
theorem se2_ap {mo_ ls_ k_ x_ y_ : Int} {q_ : Nat} {o_ : List (Int × Nat)} {g_ c_ : List Int} (h_ : ls_ ≤ k_) : p_se2 mo_ ls_ ((k_, q_) :: o_, y_ :: x_ :: g_, c_) = pb (p_ap2 (mdo mo_) k_ q_ o_ x_ y_ g_ c_) (p_se2 mo_ ls_) := by
  show p_se (mdo mo_) ls_ ((k_, q_) :: o_) (y_ :: x_ :: g_) c_ = _
  rw [p_se, if_pos h_]
  unfold p_ap2
  cases p_ap (mdo mo_) k_ q_ x_ y_ c_ <;> rfl
theorem se2_lt {b_ : Nat → Int} {n_ T_ p_ : Nat} {mo_ : Int} {y_ : pE pO} {S_ : sm_S} (h_ : ry b_ n_ T_ mo_ p_ y_ S_) {s_ : pO} (e_ : pb y_ (p_se2 mo_ 1) = .inr s_) : o_tp s_.1 < 1 := by
  obtain ⟨a_, h1_, h2_⟩ := pb_inr e_
  subst h1_
  exact (p_se_ok (by decide) a_.1 a_.2.1 a_.2.2 s_ h_.2 h2_).2.2.2
theorem sa2_ch {mo_ : Int} {q_ : Nat} {o_ : List (Int × Nat)} {h_ c_ : List Int} : p_sa2 mo_ ((-4, q_) :: o_, h_, c_) = pb (p_ch2 q_ o_ h_ c_) (p_sa2 mo_) := by
  show p_sa (mdo mo_) ((-4, q_) :: o_) h_ c_ = _
  rw [p_sa_4]
  unfold p_ch2
  cases p_ch q_ h_ c_ <;> rfl
theorem sa2_se {mo_ : Int} {y_ : pE pO} : pb y_ (p_sa2 mo_) = pb (pb y_ (p_se2 mo_ 1)) (p_sa2 mo_) := by
  cases y_ with
  | inl e_ => rfl
  | inr s_ => exact p_sa_se (by decide) s_.1 s_.2.1 s_.2.2
end
/-! 99.y6b -/
section
/-! M_.choose -/
def vw_314 : sx_Wl := ([(13, 10), (13, 11), (13, 32), (13, 33), (13, 34)], [138], [])
def vq_314 (b_ : Nat → Int) (n_ : Nat) (T_ : Nat) (mo_ : Int) (p_ : Nat) (q_ : Nat) (o_ : List (Int × Nat)) (x_ : Int) (y_ : Int) (z_ : Int) (g_ : List Int) (c_ : List Int) (S0_ : sm_S) (u_ : Option sm_V) (S1_ : sm_S) : Prop := u_ = none ∧ gi S1_ ∧ ai_fr (sx_W vw_314) S0_ S1_ ∧ (ry b_ n_ T_ mo_ p_ (p_ch2 q_ o_ (x_ :: y_ :: z_ :: g_) c_) S1_ ∧ (S1_.1 13 0 32) = (S0_.1 13 0 32) - 1)
set_option maxHeartbeats 1500000 in
theorem vc_314 {sc_ : Nat × (Nat → Int)} (b_ : Nat → Int) (n_ : Nat) (T_ : Nat) (mo_ : Int) (p_ : Nat) (q_ : Nat) (o_ : List (Int × Nat)) (x_ : Int) (y_ : Int) (z_ : Int) (g_ : List Int) (c_ : List Int) (S0_ : sm_S) (hI_ : gi S0_) (ht_ : rtab b_ n_ T_ S0_) (hy_ : ry b_ n_ T_ mo_ p_ (.inr ((-4, q_) :: o_, x_ :: y_ :: z_ :: g_, c_)) S0_) (hmo_ : mo_ = 0 ∨ mo_ = 2) : sm_T (mt_P sc_) 1 314 (0, [some (.inr (.inr (some (13, 0)))), none, none], [], S0_) (fun r_ => ∃ u_ S1_, r_ = (.inl u_, S1_, 0) ∧ vq_314 b_ n_ T_ mo_ p_ q_ o_ x_ y_ z_ g_ c_ S0_ u_ S1_) := by
  have hF_ : ai_fr (sx_W vw_314) S0_ S0_ := ai_fr_rf
  obtain ⟨⟨hg_, ⟨w0_, hw_, hwl_⟩, hop_, hv_, hmo1_⟩, hs_⟩ := id hy_
  have hwl_ : wl b_ n_ T_ ((-4, q_) :: o_) w0_ := by rcases hwl_ with z_ | z_; (exact absurd z_.1 (by decide)); (exact z_.2)
  obtain ⟨tq_, u0_, rfl, hq_, hwr_⟩ := hwl_
  have hT_ := ht_.2.1
  have hq1_ := rtp_at ht_ hq_
  obtain ⟨v1_, v2_, v3_⟩ := id hv_
  have w1_ := ws_tp hw_ (by rw [hw_.1, List.length_cons]; push_cast; omega)
  obtain ⟨y9_, u9_, w3_, w4_, w5_⟩ := w1_.2
  cases w3_
  have hwl1_ : S0_.1 13 0 32 = (u0_.length : Int) + 1 := by rw [hw_.1, List.length_cons]; push_cast; rfl
  have hf0_ := hg_.1
  have hol_ := o_lim hs_.1 hs_.2.1
  have hwr1_ : wl b_ n_ T_ o_ u0_ := by rcases hwr_ with z9_ | z9_; (exact z9_.2); (exact absurd z9_.1 (by decide))
  clear hwr_
  have mz_ : mdo mo_ = false := o_md hs_.1
  have mo0_ : mo_ = 0 := by rcases hmo_ with z9_ | z9_; exact z9_; (rw [z9_] at mz_; cases mz_)
  clear hmo_
  have hop1_ : S0_.1 13 0 33 = (o_mk o_ : Int) + 1 := by rw [hop_]; show ((1 + o_mk o_ : Nat) : Int) = _; push_cast; omega
  have v4_ : S0_.1 13 0 34 = (g_.length : Int) + 3 := by rw [v1_]; simp only [List.length_cons]; push_cast; omega
  have vv_ := v2_ (by omega)
  have l1_ : (S0_.1 13 0 34 - 3).toNat = g_.length := by omega
  have l2_ : (S0_.1 13 0 34 - 2).toNat = (z_ :: g_).length := by simp only [List.length_cons]; omega
  have l3_ : (S0_.1 13 0 34 - 1).toNat = (y_ :: z_ :: g_).length := by simp only [List.length_cons]; omega
  have e2_ : S0_.2.2.1 138 0 (S0_.1 13 0 34 - 2).toNat = y_ := by rw [l2_]; exact vv_.2.1
  have e3_ : S0_.2.2.1 138 0 (S0_.1 13 0 34 - 1).toNat = x_ := by rw [l3_]; exact vv_.1
  have wtk_ : S0_.2.2.1 137 0 (S0_.1 13 0 32 - 1).toNat = tq_ := w4_
  have hul_ : u0_.length ≤ 731 := by have := wl_len hwr1_; have h9_ : ((-4, q_) :: o_).length ≤ 365 := hol_.1; simp only [List.length_cons] at h9_; omega
  have hgl_ : (x_ :: y_ :: z_ :: g_).length = o_hl ((-4, q_) :: o_) + 1 := hs_.2.2.1
  have hgl2_ : o_hl ((-4, q_) :: o_) ≤ 425 := hol_.2
  simp only [List.length_cons] at hgl_
  have bx1_ : 0 ≤ S0_.1 13 0 32 ∧ S0_.1 13 0 32 ≤ 1023 := hI_.1 13 0 32 rfl
  refine sm_T_go 5 (c1 := (9, [some (.inr (.inr (some (13, 0)))), none, none], [.inl 1, .inl (S0_.1 13 0 32), .inr (.inr (some (137, 0)))], S0_)) rfl ?_
  refine sm_T_bin (w := (S0_.1 13 0 32) - 1) rfl (bi_sub (by omega) (by omega) (by omega)) ?_
  refine sm_T_iald (n := 1024) rfl rfl (by omega) (by omega) ?_
  have bx2_ : 0 ≤ S0_.2.2.1 137 0 ((S0_.1 13 0 32) - 1).toNat ∧ S0_.2.2.1 137 0 ((S0_.1 13 0 32) - 1).toNat ≤ 1280 := hI_.2 137 0 _
  refine sm_T_go 5 (c1 := (18, [some (.inr (.inr (some (13, 0)))), some (.inl (S0_.2.2.1 137 0 ((S0_.1 13 0 32) - 1).toNat)), none], [.inl 1, .inl (S0_.1 13 0 32), .inr (.inr (some (13, 0)))], S0_)) rfl ?_
  refine sm_T_bin (w := (S0_.1 13 0 32) - 1) rfl (bi_sub (by omega) (by omega) (by omega)) ?_
  have hIx3_ : gi (sm_pI S0_ 13 0 32 ((S0_.1 13 0 32) - 1)) := gi_pI hI_ (show 0 ≤ (S0_.1 13 0 32) - 1 ∧ (S0_.1 13 0 32) - 1 ≤ 1023 from ⟨by omega, by omega⟩)
  have hFx4_ : ai_fr (sx_W vw_314) S0_ (sm_pI S0_ 13 0 32 ((S0_.1 13 0 32) - 1)) := ai_fr_tr hF_ (ai_fr_pI rfl)
  have bx5_ : 0 ≤ S0_.1 13 0 33 ∧ S0_.1 13 0 33 ≤ 60 := hI_.1 13 0 33 rfl
  refine sm_T_go 5 (c1 := (28, [some (.inr (.inr (some (13, 0)))), some (.inl (S0_.2.2.1 137 0 ((S0_.1 13 0 32) - 1).toNat)), none], [.inl 1, .inl (S0_.1 13 0 33), .inr (.inr (some (13, 0)))], sm_pI S0_ 13 0 32 ((S0_.1 13 0 32) - 1))) rfl ?_
  refine sm_T_bin (w := (S0_.1 13 0 33) - 1) rfl (bi_sub (by omega) (by omega) (by omega)) ?_
  have hIx6_ : gi (sm_pI (sm_pI S0_ 13 0 32 ((S0_.1 13 0 32) - 1)) 13 0 33 ((S0_.1 13 0 33) - 1)) := gi_pI hIx3_ (show 0 ≤ (S0_.1 13 0 33) - 1 ∧ (S0_.1 13 0 33) - 1 ≤ 60 from ⟨by omega, by omega⟩)
  have hFx7_ : ai_fr (sx_W vw_314) S0_ (sm_pI (sm_pI S0_ 13 0 32 ((S0_.1 13 0 32) - 1)) 13 0 33 ((S0_.1 13 0 33) - 1)) := ai_fr_tr hFx4_ (ai_fr_pI rfl)
  have bx8_ : 0 ≤ S0_.1 13 0 34 ∧ S0_.1 13 0 34 ≤ 1023 := hI_.1 13 0 34 rfl
  refine sm_T_go 4 (c1 := (37, [some (.inr (.inr (some (13, 0)))), some (.inl (S0_.2.2.1 137 0 ((S0_.1 13 0 32) - 1).toNat)), none], [.inl 3, .inl (S0_.1 13 0 34)], sm_pI (sm_pI S0_ 13 0 32 ((S0_.1 13 0 32) - 1)) 13 0 33 ((S0_.1 13 0 33) - 1))) rfl ?_
  refine sm_T_bin (w := (S0_.1 13 0 34) - 3) rfl (bi_sub (by omega) (by omega) (by omega)) ?_
  refine sm_T_go 5 (c1 := (45, [some (.inr (.inr (some (13, 0)))), some (.inl (S0_.2.2.1 137 0 ((S0_.1 13 0 32) - 1).toNat)), some (.inl ((S0_.1 13 0 34) - 3))], [.inl 1, .inl ((S0_.1 13 0 34) - 3), .inr (.inr (some (138, 0)))], sm_pI (sm_pI S0_ 13 0 32 ((S0_.1 13 0 32) - 1)) 13 0 33 ((S0_.1 13 0 33) - 1))) rfl ?_
  refine sm_T_bin (w := (S0_.1 13 0 34) - 2) rfl (bi_add (by omega) (by omega) (by omega)) ?_
  refine sm_T_iald (n := 1024) rfl rfl (by omega) (by omega) ?_
  have bx9_ : (-2147483648) ≤ S0_.2.2.1 138 0 ((S0_.1 13 0 34) - 2).toNat ∧ S0_.2.2.1 138 0 ((S0_.1 13 0 34) - 2).toNat ≤ 2147483647 := hI_.2 138 0 _
  refine sm_T_go 4 (c1 := (53, [some (.inr (.inr (some (13, 0)))), some (.inl (S0_.2.2.1 137 0 ((S0_.1 13 0 32) - 1).toNat)), some (.inl ((S0_.1 13 0 34) - 3))], [.inl 2, .inl ((S0_.1 13 0 34) - 3), .inr (.inr (some (138, 0))), .inl (S0_.2.2.1 138 0 ((S0_.1 13 0 34) - 2).toNat)], sm_pI (sm_pI S0_ 13 0 32 ((S0_.1 13 0 32) - 1)) 13 0 33 ((S0_.1 13 0 33) - 1))) rfl ?_
  refine sm_T_bin (w := (S0_.1 13 0 34) - 1) rfl (bi_add (by omega) (by omega) (by omega)) ?_
  refine sm_T_iald (n := 1024) rfl rfl (by omega) (by omega) ?_
  have bx10_ : (-2147483648) ≤ S0_.2.2.1 138 0 ((S0_.1 13 0 34) - 1).toNat ∧ S0_.2.2.1 138 0 ((S0_.1 13 0 34) - 1).toNat ≤ 2147483647 := hI_.2 138 0 _
  refine sm_T_br (a := 0) (z := 10) rfl (fun cx11_ => ?_) (fun cx11_ => ?_)
  · have cx11_ : (S0_.2.2.1 138 0 ((S0_.1 13 0 34) - 2).toNat) = (S0_.2.2.1 138 0 ((S0_.1 13 0 34) - 1).toNat) := of_decide_eq_true cx11_
    have bx12_ : 0 ≤ S0_.1 13 0 27 ∧ S0_.1 13 0 27 ≤ 2 := hI_.1 13 0 27 rfl
    refine sm_T_go 3 (c1 := (70, [some (.inr (.inr (some (13, 0)))), some (.inl (S0_.2.2.1 137 0 ((S0_.1 13 0 32) - 1).toNat)), some (.inl ((S0_.1 13 0 34) - 3))], [.inl 1, .inl (S0_.1 13 0 27)], sm_pI (sm_pI S0_ 13 0 32 ((S0_.1 13 0 32) - 1)) 13 0 33 ((S0_.1 13 0 33) - 1))) rfl ?_
    refine sm_T_br (a := 1) (z := 8) rfl (fun cx13_ => ?_) (fun cx13_ => ?_)
    · have cx13_ : (S0_.1 13 0 27) ≠ 1 := of_decide_eq_true cx13_
      refine sm_T_go 7 (c1 := (89, [some (.inr (.inr (some (13, 0)))), some (.inl (S0_.2.2.1 137 0 ((S0_.1 13 0 32) - 1).toNat)), some (.inl ((S0_.1 13 0 34) - 3))], [.inl 1, .inl ((S0_.1 13 0 34) - 3), .inr (.inr (some (138, 0))), .inl ((S0_.1 13 0 34) - 3), .inr (.inr (some (138, 0)))], sm_pI (sm_pI S0_ 13 0 32 ((S0_.1 13 0 32) - 1)) 13 0 33 ((S0_.1 13 0 33) - 1))) rfl ?_
      refine sm_T_bin (w := (S0_.1 13 0 34) - 2) rfl (bi_add (by omega) (by omega) (by omega)) ?_
      refine sm_T_iald (n := 1024) rfl rfl (by omega) (by omega) ?_
      refine sm_T_iast (n := 1024) rfl rfl (by omega) (by omega) ?_
      have hIx14_ : gi (sm_aI (sm_pI (sm_pI S0_ 13 0 32 ((S0_.1 13 0 32) - 1)) 13 0 33 ((S0_.1 13 0 33) - 1)) 138 0 ((S0_.1 13 0 34) - 3).toNat (S0_.2.2.1 138 0 ((S0_.1 13 0 34) - 2).toNat)) := gi_aI hIx6_ (show (-2147483648) ≤ (S0_.2.2.1 138 0 ((S0_.1 13 0 34) - 2).toNat) ∧ (S0_.2.2.1 138 0 ((S0_.1 13 0 34) - 2).toNat) ≤ 2147483647 from ⟨by omega, by omega⟩)
      have hFx15_ : ai_fr (sx_W vw_314) S0_ (sm_aI (sm_pI (sm_pI S0_ 13 0 32 ((S0_.1 13 0 32) - 1)) 13 0 33 ((S0_.1 13 0 33) - 1)) 138 0 ((S0_.1 13 0 34) - 3).toNat (S0_.2.2.1 138 0 ((S0_.1 13 0 34) - 2).toNat)) := ai_fr_tr hFx7_ (ai_fr_aI rfl)
      refine sm_T_go 4 (c1 := (98, [some (.inr (.inr (some (13, 0)))), some (.inl (S0_.2.2.1 137 0 ((S0_.1 13 0 32) - 1).toNat)), some (.inl ((S0_.1 13 0 34) - 3))], [.inl 2, .inl (S0_.1 13 0 34), .inr (.inr (some (13, 0)))], sm_aI (sm_pI (sm_pI S0_ 13 0 32 ((S0_.1 13 0 32) - 1)) 13 0 33 ((S0_.1 13 0 33) - 1)) 138 0 ((S0_.1 13 0 34) - 3).toNat (S0_.2.2.1 138 0 ((S0_.1 13 0 34) - 2).toNat))) rfl ?_
      refine sm_T_bin (w := (S0_.1 13 0 34) - 2) rfl (bi_sub (by omega) (by omega) (by omega)) ?_
      have hIx16_ : gi (sm_pI (sm_aI (sm_pI (sm_pI S0_ 13 0 32 ((S0_.1 13 0 32) - 1)) 13 0 33 ((S0_.1 13 0 33) - 1)) 138 0 ((S0_.1 13 0 34) - 3).toNat (S0_.2.2.1 138 0 ((S0_.1 13 0 34) - 2).toNat)) 13 0 34 ((S0_.1 13 0 34) - 2)) := gi_pI hIx14_ (show 0 ≤ (S0_.1 13 0 34) - 2 ∧ (S0_.1 13 0 34) - 2 ≤ 1023 from ⟨by omega, by omega⟩)
      have hFx17_ : ai_fr (sx_W vw_314) S0_ (sm_pI (sm_aI (sm_pI (sm_pI S0_ 13 0 32 ((S0_.1 13 0 32) - 1)) 13 0 33 ((S0_.1 13 0 33) - 1)) 138 0 ((S0_.1 13 0 34) - 3).toNat (S0_.2.2.1 138 0 ((S0_.1 13 0 34) - 2).toNat)) 13 0 34 ((S0_.1 13 0 34) - 2)) := ai_fr_tr hFx15_ (ai_fr_pI rfl)
      refine sm_T_go 1 (c1 := (102, [some (.inr (.inr (some (13, 0)))), some (.inl (S0_.2.2.1 137 0 ((S0_.1 13 0 32) - 1).toNat)), some (.inl ((S0_.1 13 0 34) - 3))], [], sm_pI (sm_aI (sm_pI (sm_pI S0_ 13 0 32 ((S0_.1 13 0 32) - 1)) 13 0 33 ((S0_.1 13 0 33) - 1)) 138 0 ((S0_.1 13 0 34) - 3).toNat (S0_.2.2.1 138 0 ((S0_.1 13 0 34) - 2).toNat)) 13 0 34 ((S0_.1 13 0 34) - 2))) rfl ?_
      refine sm_T_rv rfl ⟨_, _, rfl, rfl, hIx16_, hFx17_, ?_⟩
      refine ⟨?_, by first | rfl | ((try simp only [rd_eq, rd_ne, rf_eq, rf_nk, rf_nt, rd_fa, rd_af, rd_fl, rd_al, rd_lf, rd_la, rd_leq, rd_lne, rd_fr, rd_ar, ne_eq, Nat.reduceEqDiff, not_false_eq_true]); omega)⟩
      first | (exfalso; omega) | (have hp_ : p_ch2 q_ o_ (x_ :: y_ :: z_ :: g_) c_ = .inr (o_, y_ :: g_, 7 :: c_) := (by unfold p_ch2; rw [show p_ch q_ (x_ :: y_ :: z_ :: g_) c_ = .inr (y_ :: g_, 7 :: c_) from if_pos (by omega)]; rfl); rw [hp_]; obtain ⟨t1_, t2_, t3_, t4_⟩ := hs_; refine ⟨⟨hg_, ⟨u0_, ⟨by (try simp only [rd_eq, rd_ne, rf_eq, rf_nk, rf_nt, rd_fa, rd_af, rd_fl, rd_al, rd_lf, rd_la, rd_leq, rd_lne, rd_fr, rd_ar, ne_eq, Nat.reduceEqDiff, not_false_eq_true]); omega, by rw [fr_arr hFx17_ rfl]; exact hw_.2.1.2, by rw [fr_arr hFx17_ rfl]; exact hw_.2.2.2⟩, Or.inr ⟨rfl, hwr1_⟩⟩, by (try simp only [rd_eq, rd_ne, rf_eq, rf_nk, rf_nt, rd_fa, rd_af, rd_fl, rd_al, rd_lf, rd_la, rd_leq, rd_lne, rd_fr, rd_ar, ne_eq, Nat.reduceEqDiff, not_false_eq_true]); omega, ⟨?_, ?_, ?_⟩, (hFx17_.1 13 0 27 rfl).trans hmo1_⟩, t1_.2.2, ?_, ?_, ?_⟩; ((try simp only [rd_eq, rd_ne, rf_eq, rf_nk, rf_nt, rd_fa, rd_af, rd_fl, rd_al, rd_lf, rd_la, rd_leq, rd_lne, rd_fr, rd_ar, ne_eq, Nat.reduceEqDiff, not_false_eq_true]); simp only [List.length_cons]; push_cast; omega); (intro _; exact stk_pu l1_ e2_ vv_.2.2.2); (intro z9_; omega); (have t2_ : 1 + o_mk o_ ≤ 60 := t2_; show o_mk o_ ≤ 60; omega); (show (y_ :: g_).length = o_hl o_ + 1; have t3_ : (x_ :: y_ :: z_ :: g_).length = (2 + o_hl o_) + 1 := t3_; simp only [List.length_cons] at t3_ ⊢; omega); (exact h_ok_c.mpr ⟨(h_ok_c.mp (h_ok_c.mp t4_).2).1, (h_ok_c.mp (h_ok_c.mp (h_ok_c.mp t4_).2).2).2⟩)) | (have hp_ : p_ch2 q_ o_ (x_ :: y_ :: z_ :: g_) c_ = .inl (13, q_) := (by unfold p_ch2; rw [show p_ch q_ (x_ :: y_ :: z_ :: g_) c_ = .inl (13, q_) from if_neg (by omega)]; rfl); rw [hp_]; rcases e77_ with w9_ | w9_; (exact absurd hf0_ w9_.1); (refine ⟨w9_.2.1, ?_, by show (13 : Int) ≠ 0; decide, ?_, md77_⟩; (refine Eq.trans w9_.2.2 ?_; show S0_.2.2.1 120 0 (S0_.2.2.1 137 0 (S0_.1 13 0 32 - 1).toNat).toNat = _; rw [wtk_]; exact hq1_.2); ((try simp only [rd_eq, rd_ne, rf_eq, rf_nk, rf_nt, rd_fa, rd_af, rd_fl, rd_al, rd_lf, rd_la, rd_leq, rd_lne, rd_fr, rd_ar, ne_eq, Nat.reduceEqDiff, not_false_eq_true]); omega)))
    · have cx13_ : ¬ ((S0_.1 13 0 27) ≠ 1) := of_decide_eq_false cx13_
      exfalso; omega
  · have cx11_ : ¬ ((S0_.2.2.1 138 0 ((S0_.1 13 0 34) - 2).toNat) = (S0_.2.2.1 138 0 ((S0_.1 13 0 34) - 1).toNat)) := of_decide_eq_false cx11_
    refine sm_T_go 3 (c1 := (62, [some (.inr (.inr (some (13, 0)))), some (.inl (S0_.2.2.1 137 0 ((S0_.1 13 0 32) - 1).toNat)), some (.inl ((S0_.1 13 0 34) - 3))], [.inl (S0_.2.2.1 137 0 ((S0_.1 13 0 32) - 1).toNat), .inl 13, .inr (.inr (some (13, 0)))], sm_pI (sm_pI S0_ 13 0 32 ((S0_.1 13 0 32) - 1)) 13 0 33 ((S0_.1 13 0 33) - 1))) rfl ?_
    refine sm_T_cal (d1 := 0) (Q1 := vq_294 13 (S0_.2.2.1 137 0 ((S0_.1 13 0 32) - 1).toNat) (sm_pI (sm_pI S0_ 13 0 32 ((S0_.1 13 0 32) - 1)) 13 0 33 ((S0_.1 13 0 33) - 1))) rfl rfl (by decide) (vc_294 13 (S0_.2.2.1 137 0 ((S0_.1 13 0 32) - 1).toNat) (sm_pI (sm_pI S0_ 13 0 32 ((S0_.1 13 0 32) - 1)) 13 0 33 ((S0_.1 13 0 33) - 1)) hIx6_ (by decide) (by omega)) (fun u_ Sx18_ px21_ => ?_)
    obtain ⟨rfl, hIx19_, hFx20_, px21_⟩ := px21_
    have hFx22_ : ai_fr (sx_W vw_314) S0_ Sx18_ := ai_fr_tr hFx7_ (fr_le hFx20_ rfl)
    have e77_ := px21_
    have md77_ : Sx18_.1 13 0 27 = mo_ := (hFx20_.1 13 0 27 rfl).trans hmo1_
    have v77_ : Sx18_.1 13 0 34 = (g_.length : Int) + 3 := (hFx20_.1 13 0 34 rfl).trans v4_
    have w77_ : Sx18_.1 13 0 32 = (u0_.length : Int) := (hFx20_.1 13 0 32 rfl).trans (by show S0_.1 13 0 32 - 1 = _; omega)
    have bx23_ : 0 ≤ Sx18_.1 13 0 27 ∧ Sx18_.1 13 0 27 ≤ 2 := hIx19_.1 13 0 27 rfl
    refine sm_T_go 3 (c1 := (70, [some (.inr (.inr (some (13, 0)))), some (.inl (S0_.2.2.1 137 0 ((S0_.1 13 0 32) - 1).toNat)), some (.inl ((S0_.1 13 0 34) - 3))], [.inl 1, .inl (Sx18_.1 13 0 27)], Sx18_)) rfl ?_
    refine sm_T_br (a := 1) (z := 8) rfl (fun cx24_ => ?_) (fun cx24_ => ?_)
    · have cx24_ : (Sx18_.1 13 0 27) ≠ 1 := of_decide_eq_true cx24_
      refine sm_T_go 7 (c1 := (89, [some (.inr (.inr (some (13, 0)))), some (.inl (S0_.2.2.1 137 0 ((S0_.1 13 0 32) - 1).toNat)), some (.inl ((S0_.1 13 0 34) - 3))], [.inl 1, .inl ((S0_.1 13 0 34) - 3), .inr (.inr (some (138, 0))), .inl ((S0_.1 13 0 34) - 3), .inr (.inr (some (138, 0)))], Sx18_)) rfl ?_
      refine sm_T_bin (w := (S0_.1 13 0 34) - 2) rfl (bi_add (by omega) (by omega) (by omega)) ?_
      refine sm_T_iald (n := 1024) rfl rfl (by omega) (by omega) ?_
      have bx25_ : (-2147483648) ≤ Sx18_.2.2.1 138 0 ((S0_.1 13 0 34) - 2).toNat ∧ Sx18_.2.2.1 138 0 ((S0_.1 13 0 34) - 2).toNat ≤ 2147483647 := hIx19_.2 138 0 _
      refine sm_T_iast (n := 1024) rfl rfl (by omega) (by omega) ?_
      have hIx26_ : gi (sm_aI Sx18_ 138 0 ((S0_.1 13 0 34) - 3).toNat (Sx18_.2.2.1 138 0 ((S0_.1 13 0 34) - 2).toNat)) := gi_aI hIx19_ (show (-2147483648) ≤ (Sx18_.2.2.1 138 0 ((S0_.1 13 0 34) - 2).toNat) ∧ (Sx18_.2.2.1 138 0 ((S0_.1 13 0 34) - 2).toNat) ≤ 2147483647 from ⟨by omega, by omega⟩)
      have hFx27_ : ai_fr (sx_W vw_314) S0_ (sm_aI Sx18_ 138 0 ((S0_.1 13 0 34) - 3).toNat (Sx18_.2.2.1 138 0 ((S0_.1 13 0 34) - 2).toNat)) := ai_fr_tr hFx22_ (ai_fr_aI rfl)
      have bx28_ : 0 ≤ Sx18_.1 13 0 34 ∧ Sx18_.1 13 0 34 ≤ 1023 := hIx19_.1 13 0 34 rfl
      refine sm_T_go 4 (c1 := (98, [some (.inr (.inr (some (13, 0)))), some (.inl (S0_.2.2.1 137 0 ((S0_.1 13 0 32) - 1).toNat)), some (.inl ((S0_.1 13 0 34) - 3))], [.inl 2, .inl (Sx18_.1 13 0 34), .inr (.inr (some (13, 0)))], sm_aI Sx18_ 138 0 ((S0_.1 13 0 34) - 3).toNat (Sx18_.2.2.1 138 0 ((S0_.1 13 0 34) - 2).toNat))) rfl ?_
      refine sm_T_bin (w := (Sx18_.1 13 0 34) - 2) rfl (bi_sub (by omega) (by omega) (by omega)) ?_
      have hIx29_ : gi (sm_pI (sm_aI Sx18_ 138 0 ((S0_.1 13 0 34) - 3).toNat (Sx18_.2.2.1 138 0 ((S0_.1 13 0 34) - 2).toNat)) 13 0 34 ((Sx18_.1 13 0 34) - 2)) := gi_pI hIx26_ (show 0 ≤ (Sx18_.1 13 0 34) - 2 ∧ (Sx18_.1 13 0 34) - 2 ≤ 1023 from ⟨by omega, by omega⟩)
      have hFx30_ : ai_fr (sx_W vw_314) S0_ (sm_pI (sm_aI Sx18_ 138 0 ((S0_.1 13 0 34) - 3).toNat (Sx18_.2.2.1 138 0 ((S0_.1 13 0 34) - 2).toNat)) 13 0 34 ((Sx18_.1 13 0 34) - 2)) := ai_fr_tr hFx27_ (ai_fr_pI rfl)
      refine sm_T_go 1 (c1 := (102, [some (.inr (.inr (some (13, 0)))), some (.inl (S0_.2.2.1 137 0 ((S0_.1 13 0 32) - 1).toNat)), some (.inl ((S0_.1 13 0 34) - 3))], [], sm_pI (sm_aI Sx18_ 138 0 ((S0_.1 13 0 34) - 3).toNat (Sx18_.2.2.1 138 0 ((S0_.1 13 0 34) - 2).toNat)) 13 0 34 ((Sx18_.1 13 0 34) - 2))) rfl ?_
      refine sm_T_rv rfl ⟨_, _, rfl, rfl, hIx29_, hFx30_, ?_⟩
      refine ⟨?_, by first | rfl | ((try simp only [rd_eq, rd_ne, rf_eq, rf_nk, rf_nt, rd_fa, rd_af, rd_fl, rd_al, rd_lf, rd_la, rd_leq, rd_lne, rd_fr, rd_ar, ne_eq, Nat.reduceEqDiff, not_false_eq_true]); omega)⟩
      first | (exfalso; omega) | (have hp_ : p_ch2 q_ o_ (x_ :: y_ :: z_ :: g_) c_ = .inr (o_, y_ :: g_, 7 :: c_) := (by unfold p_ch2; rw [show p_ch q_ (x_ :: y_ :: z_ :: g_) c_ = .inr (y_ :: g_, 7 :: c_) from if_pos (by omega)]; rfl); rw [hp_]; obtain ⟨t1_, t2_, t3_, t4_⟩ := hs_; refine ⟨⟨hg_, ⟨u0_, ⟨by (try simp only [rd_eq, rd_ne, rf_eq, rf_nk, rf_nt, rd_fa, rd_af, rd_fl, rd_al, rd_lf, rd_la, rd_leq, rd_lne, rd_fr, rd_ar, ne_eq, Nat.reduceEqDiff, not_false_eq_true]); omega, by rw [fr_arr hFx30_ rfl]; exact hw_.2.1.2, by rw [fr_arr hFx30_ rfl]; exact hw_.2.2.2⟩, Or.inr ⟨rfl, hwr1_⟩⟩, by (try simp only [rd_eq, rd_ne, rf_eq, rf_nk, rf_nt, rd_fa, rd_af, rd_fl, rd_al, rd_lf, rd_la, rd_leq, rd_lne, rd_fr, rd_ar, ne_eq, Nat.reduceEqDiff, not_false_eq_true]); omega, ⟨?_, ?_, ?_⟩, (hFx30_.1 13 0 27 rfl).trans hmo1_⟩, t1_.2.2, ?_, ?_, ?_⟩; ((try simp only [rd_eq, rd_ne, rf_eq, rf_nk, rf_nt, rd_fa, rd_af, rd_fl, rd_al, rd_lf, rd_la, rd_leq, rd_lne, rd_fr, rd_ar, ne_eq, Nat.reduceEqDiff, not_false_eq_true]); simp only [List.length_cons]; push_cast; omega); (intro _; exact stk_pu l1_ e2_ vv_.2.2.2); (intro z9_; omega); (have t2_ : 1 + o_mk o_ ≤ 60 := t2_; show o_mk o_ ≤ 60; omega); (show (y_ :: g_).length = o_hl o_ + 1; have t3_ : (x_ :: y_ :: z_ :: g_).length = (2 + o_hl o_) + 1 := t3_; simp only [List.length_cons] at t3_ ⊢; omega); (exact h_ok_c.mpr ⟨(h_ok_c.mp (h_ok_c.mp t4_).2).1, (h_ok_c.mp (h_ok_c.mp (h_ok_c.mp t4_).2).2).2⟩)) | (have hp_ : p_ch2 q_ o_ (x_ :: y_ :: z_ :: g_) c_ = .inl (13, q_) := (by unfold p_ch2; rw [show p_ch q_ (x_ :: y_ :: z_ :: g_) c_ = .inl (13, q_) from if_neg (by omega)]; rfl); rw [hp_]; rcases e77_ with w9_ | w9_; (exact absurd hf0_ w9_.1); (refine ⟨w9_.2.1, ?_, by show (13 : Int) ≠ 0; decide, ?_, md77_⟩; (refine Eq.trans w9_.2.2 ?_; show S0_.2.2.1 120 0 (S0_.2.2.1 137 0 (S0_.1 13 0 32 - 1).toNat).toNat = _; rw [wtk_]; exact hq1_.2); ((try simp only [rd_eq, rd_ne, rf_eq, rf_nk, rf_nt, rd_fa, rd_af, rd_fl, rd_al, rd_lf, rd_la, rd_leq, rd_lne, rd_fr, rd_ar, ne_eq, Nat.reduceEqDiff, not_false_eq_true]); omega)))
    · have cx24_ : ¬ ((Sx18_.1 13 0 27) ≠ 1) := of_decide_eq_false cx24_
      exfalso; omega
end
/-! 99.y6c -/
section
/-! M_.settle -/
def vw_315 : sx_Wl := ([(13, 10), (13, 11), (13, 32), (13, 34)], [138, 139], [])
def vq_315 (ls_ : Int) (b_ : Nat → Int) (n_ : Nat) (T_ : Nat) (mo_ : Int) (p_ : Nat) (y_ : pE pO) (S0_ : sm_S) (u_ : Option sm_V) (S1_ : sm_S) : Prop := u_ = none ∧ gi S1_ ∧ ai_fr (sx_W vw_315) S0_ S1_ ∧ (ry b_ n_ T_ mo_ p_ (pb y_ (p_se2 mo_ ls_)) S1_ ∧ (S1_.1 13 0 32) ≤ (S0_.1 13 0 32))
set_option maxHeartbeats 400000 in
theorem vl_315 {sc_ : Nat × (Nat → Int)} (ls_ : Int) (b_ : Nat → Int) (n_ : Nat) (T_ : Nat) (mo_ : Int) (p_ : Nat) (y_ : pE pO) (S0_ : sm_S) (ht_ : rtab b_ n_ T_ S0_) (hy_ : ry b_ n_ T_ mo_ p_ y_ S0_) (hls_ : 1 ≤ ls_) (hmo_ : mo_ = 0 ∨ mo_ = 2) : ∀ nn_ : Nat, (∀  (S_ : sm_S), gi S_ → ai_fr (sx_W vw_315) S0_ S_ → (((∃ y1_, ry b_ n_ T_ mo_ p_ y1_ S_ ∧ pb y_ (p_se2 mo_ ls_) = pb y1_ (p_se2 mo_ ls_)) ∧ (S_.1 13 0 32) ≤ (S0_.1 13 0 32)) ∧ True) → (((S_.1 13 0 32)).toNat) < nn_ → sm_T (mt_P sc_) 2 315 (0, [some (.inr (.inr (some (13, 0)))), some (.inl ls_)], [], S_) (fun r_ => ∃ u_ S1_, r_ = (.inl u_, S1_, 0) ∧ vq_315 ls_ b_ n_ T_ mo_ p_ y_ S0_ u_ S1_)) := by
  intro nn_
  induction nn_ with
  | zero => exact fun  _ _ _ _ h_ => absurd h_ (Nat.not_lt_zero _)
  | succ nn_ ih_ =>
    rintro  S_ hI_ hF_ ⟨h1_, -⟩ hm_
    obtain ⟨⟨y1_, z1_, z2_⟩, z9_⟩ := h1_
    have ht1_ := rtab_fr ht_ hF_ rfl rfl rfl rfl rfl
    refine sm_T_go 1 (c1 := (1, [some (.inr (.inr (some (13, 0)))), some (.inl ls_)], [.inr (.inr (some (13, 0)))], S_)) rfl ?_
    refine sm_T_cal (d1 := 0) (Q1 := vq_292  S_) rfl rfl (by decide) (vc_292  S_ hI_ ) (fun u_ Sx1_ px4_ => ?_)
    obtain ⟨rfl, vx6_, rfl, px4_⟩ := px4_
    have e1x := px4_
    refine sm_T_b0 (a := 0) (z := 31) rfl (fun cx7_ => ?_) (fun cx7_ => ?_)
    · have cx7_ : vx6_ = 0 := of_decide_eq_true cx7_
      refine sm_T_rv rfl ⟨_, _, rfl, rfl, hI_, hF_, ?_⟩
      refine ⟨?_, z9_⟩
      rw [z2_]
      first | (exfalso; have h9_ := e11_.trans e22_.symm; omega) | (rw [pb_r rfl, show p_se2 mo_ ls_ s_ = .inr s_ from p_se_st (lt_if e11_ (by omega) hls_)]; exact z1_) | (obtain ⟨e_, rfl⟩ := ry_w z1_ (fun z_ => by rw [if_pos z_] at e1x; omega); exact z1_)
    · have cx7_ : ¬ (vx6_ = 0) := of_decide_eq_false cx7_
      have hf0_ : S_.1 13 0 10 = 0 := by by_cases z_ : S_.1 13 0 10 = 0; exact z_; (rw [if_neg z_] at e1x; omega)
      obtain ⟨s_, rfl⟩ := ry_r z1_ hf0_
      obtain ⟨⟨hg_, ⟨w0_, hw_, hwl_⟩, hop_, hv_, hmo1_⟩, hs_⟩ := id z1_
      have hwl_ : wl b_ n_ T_ s_.1 w0_ := by rcases hwl_ with z_ | z_; (exact absurd z_.1 (by decide)); (exact z_.2)
      have wtp_ := (wl_tp hwl_ hs_.1).2.1
      have hwx_ := hw_.1
      have tp5_ := o_tp5 hs_.1
      refine sm_T_go 1 (c1 := (8, [some (.inr (.inr (some (13, 0)))), some (.inl ls_)], [.inr (.inr (some (13, 0)))], S_)) rfl ?_
      refine sm_T_cal (d1 := 0) (Q1 := vq_312 w0_ S_) rfl rfl (by decide) (vc_312 w0_ S_ hI_ (by exact hw_)) (fun u_ Sx8_ px11_ => ?_)
      obtain ⟨rfl, vx13_, rfl, px11_⟩ := px11_
      have e8_ := px11_
      refine sm_T_cal (d1 := 0) (Q1 := vq_309 vx13_ S_) rfl rfl (by decide) (vc_309 vx13_ S_ hI_ ) (fun u_ Sx14_ px17_ => ?_)
      obtain ⟨rfl, vx19_, rfl, px17_⟩ := px17_
      have e11_ := px17_
      rw [e8_, wtp_] at e11_
      refine sm_T_go 1 (c1 := (15, [some (.inr (.inr (some (13, 0)))), some (.inl ls_)], [.inl ls_, .inl vx19_], S_)) rfl ?_
      refine sm_T_br (a := 2) (z := 20) rfl (fun cx20_ => ?_) (fun cx20_ => ?_)
      · have cx20_ : vx19_ < ls_ := of_decide_eq_true cx20_
        refine sm_T_rv rfl ⟨_, _, rfl, rfl, hI_, hF_, ?_⟩
        refine ⟨?_, z9_⟩
        rw [z2_]
        first | (exfalso; have h9_ := e11_.trans e22_.symm; omega) | (rw [pb_r rfl, show p_se2 mo_ ls_ s_ = .inr s_ from p_se_st (lt_if e11_ (by omega) hls_)]; exact z1_) | (obtain ⟨e_, rfl⟩ := ry_w z1_ (fun z_ => by rw [if_pos z_] at e1x; omega); exact z1_)
      · have cx20_ : ¬ (vx19_ < ls_) := of_decide_eq_false cx20_
        refine sm_T_go 1 (c1 := (19, [some (.inr (.inr (some (13, 0)))), some (.inl ls_)], [.inr (.inr (some (13, 0)))], S_)) rfl ?_
        refine sm_T_cal (d1 := 0) (Q1 := vq_312 w0_ S_) rfl rfl (by decide) (vc_312 w0_ S_ hI_ (by exact hw_)) (fun u_ Sx21_ px24_ => ?_)
        obtain ⟨rfl, vx26_, rfl, px24_⟩ := px24_
        have e19_ := px24_
        refine sm_T_cal (d1 := 0) (Q1 := vq_309 vx26_ S_) rfl rfl (by decide) (vc_309 vx26_ S_ hI_ ) (fun u_ Sx27_ px30_ => ?_)
        obtain ⟨rfl, vx32_, rfl, px30_⟩ := px30_
        have e22_ := px30_
        rw [e19_, wtp_] at e22_
        refine sm_T_b0 (a := 5) (z := 10) rfl (fun cx33_ => ?_) (fun cx33_ => ?_)
        · have cx33_ : vx32_ ≤ 0 := of_decide_eq_true cx33_
          refine sm_T_rv rfl ⟨_, _, rfl, rfl, hI_, hF_, ?_⟩
          refine ⟨?_, z9_⟩
          rw [z2_]
          first | (exfalso; have h9_ := e11_.trans e22_.symm; omega) | (rw [pb_r rfl, show p_se2 mo_ ls_ s_ = .inr s_ from p_se_st (lt_if e11_ (by omega) hls_)]; exact z1_) | (obtain ⟨e_, rfl⟩ := ry_w z1_ (fun z_ => by rw [if_pos z_] at e1x; omega); exact z1_)
        · have cx33_ : ¬ (vx32_ ≤ 0) := of_decide_eq_false cx33_
          have otp_ : 1 ≤ o_tp s_.1 ∧ ls_ ≤ o_tp s_.1 := by by_cases z_ : 1 ≤ o_tp s_.1; (rw [if_pos z_] at e11_ e22_; omega); (rw [if_neg z_] at e11_ e22_; omega)
          clear e11_ e22_
          obtain ⟨so_, sg_, sc_⟩ := s_
          obtain ⟨k1_, q1_, o2_, ho2_, hk2_⟩ := o_tp_c (o_ := so_) (by have := otp_.1; show o_tp so_ ≠ 0; intro z_; have z2_ : 1 ≤ o_tp so_ := this; omega)
          subst ho2_
          have hk3_ : ls_ ≤ k1_ := otp_.2
          obtain ⟨b1_, a1_, g2_, hg2_⟩ := s_ok_2 (show 1 ≤ k1_ by omega) hs_
          subst hg2_
          have wlen : 1 ≤ S_.1 13 0 32 := by have := (wl_len hwl_).2; simp only [List.length_cons] at this; omega
          refine sm_T_go 1 (c1 := (29, [some (.inr (.inr (some (13, 0)))), some (.inl ls_)], [.inr (.inr (some (13, 0)))], S_)) rfl ?_
          refine sm_T_cal (d1 := 1) (Q1 := vq_313 b_ n_ T_ mo_ p_ k1_ q1_ o2_ a1_ b1_ g2_ sc_ S_) rfl rfl (by decide) (vc_313 b_ n_ T_ mo_ p_ k1_ q1_ o2_ a1_ b1_ g2_ sc_ S_ hI_ (by exact ht1_) (by exact z1_) (by omega) (by exact hmo_)) (fun u_ Sx34_ px37_ => ?_)
          obtain ⟨rfl, hIx35_, hFx36_, px37_⟩ := px37_
          have hFx38_ : ai_fr (sx_W vw_315) S0_ Sx34_ := ai_fr_tr hF_ (fr_le hFx36_ rfl)
          have e29_ := px37_
          refine sm_T_go 1 (c1 := (0, [some (.inr (.inr (some (13, 0)))), some (.inl ls_)], [], Sx34_)) rfl ?_
          refine ih_  Sx34_ hIx35_ hFx38_ ⟨?_, trivial⟩ ?_
          · have := e29_.2
            exact ⟨⟨_, e29_.1, by rw [z2_, pb_r rfl, se2_ap hk3_]⟩, by omega⟩
          · (have := e29_.2); omega
set_option maxHeartbeats 400000 in
theorem vc_315 {sc_ : Nat × (Nat → Int)} (ls_ : Int) (b_ : Nat → Int) (n_ : Nat) (T_ : Nat) (mo_ : Int) (p_ : Nat) (y_ : pE pO) (S0_ : sm_S) (hI_ : gi S0_) (ht_ : rtab b_ n_ T_ S0_) (hy_ : ry b_ n_ T_ mo_ p_ y_ S0_) (hls_ : 1 ≤ ls_) (hmo_ : mo_ = 0 ∨ mo_ = 2) : sm_T (mt_P sc_) 2 315 (0, [some (.inr (.inr (some (13, 0)))), some (.inl ls_)], [], S0_) (fun r_ => ∃ u_ S1_, r_ = (.inl u_, S1_, 0) ∧ vq_315 ls_ b_ n_ T_ mo_ p_ y_ S0_ u_ S1_) := by
  have hF_ : ai_fr (sx_W vw_315) S0_ S0_ := ai_fr_rf
  refine (vl_315 ls_ b_ n_ T_ mo_ p_ y_ S0_ ht_ hy_ hls_ hmo_ _)  S0_ hI_ hF_ ⟨?_, trivial⟩ (Nat.lt_succ_self _)
  · exact ⟨⟨y_, hy_, rfl⟩, Int.le_refl _⟩
end
/-! 99.y6d -/
section
/-! M_.settleAll -/
def vw_316 : sx_Wl := ([(13, 10), (13, 11), (13, 32), (13, 33), (13, 34)], [138, 139], [])
def vq_316 (b_ : Nat → Int) (n_ : Nat) (T_ : Nat) (mo_ : Int) (p_ : Nat) (y_ : pE pO) (S0_ : sm_S) (u_ : Option sm_V) (S1_ : sm_S) : Prop := u_ = none ∧ gi S1_ ∧ ai_fr (sx_W vw_316) S0_ S1_ ∧ (ry b_ n_ T_ mo_ p_ (pb y_ (p_sa2 mo_)) S1_)
set_option maxHeartbeats 400000 in
theorem vl_316 {sc_ : Nat × (Nat → Int)} (b_ : Nat → Int) (n_ : Nat) (T_ : Nat) (mo_ : Int) (p_ : Nat) (y_ : pE pO) (S0_ : sm_S) (ht_ : rtab b_ n_ T_ S0_) (hy_ : ry b_ n_ T_ mo_ p_ y_ S0_) (hmo_ : mo_ = 0 ∨ mo_ = 2) : ∀ nn_ : Nat, (∀  (S_ : sm_S), gi S_ → ai_fr (sx_W vw_316) S0_ S_ → ((∃ y1_, ry b_ n_ T_ mo_ p_ y1_ S_ ∧ pb y_ (p_sa2 mo_) = pb y1_ (p_sa2 mo_) ∧ ∀ s_, y1_ = .inr s_ → o_tp s_.1 < 1) ∧ True) → (((S_.1 13 0 32)).toNat) < nn_ → sm_T (mt_P sc_) 3 316 (5, [some (.inr (.inr (some (13, 0))))], [], S_) (fun r_ => ∃ u_ S1_, r_ = (.inl u_, S1_, 0) ∧ vq_316 b_ n_ T_ mo_ p_ y_ S0_ u_ S1_)) := by
  intro nn_
  induction nn_ with
  | zero => exact fun  _ _ _ _ h_ => absurd h_ (Nat.not_lt_zero _)
  | succ nn_ ih_ =>
    rintro  S_ hI_ hF_ ⟨h1_, -⟩ hm_
    obtain ⟨y1_, z1_, z2_, z3_⟩ := h1_
    have ht1_ := rtab_fr ht_ hF_ rfl rfl rfl rfl rfl
    refine sm_T_go 1 (c1 := (6, [some (.inr (.inr (some (13, 0))))], [.inr (.inr (some (13, 0)))], S_)) rfl ?_
    refine sm_T_cal (d1 := 0) (Q1 := vq_292  S_) rfl rfl (by decide) (vc_292  S_ hI_ ) (fun u_ Sx1_ px4_ => ?_)
    obtain ⟨rfl, vx6_, rfl, px4_⟩ := px4_
    have e1x := px4_
    refine sm_T_b0 (a := 0) (z := 24) rfl (fun cx7_ => ?_) (fun cx7_ => ?_)
    · have cx7_ : vx6_ = 0 := of_decide_eq_true cx7_
      refine sm_T_rv rfl ⟨_, _, rfl, rfl, hI_, hF_, ?_⟩
      rw [z2_]
      first | (rw [pb_r rfl, show p_sa2 mo_ s_ = .inr s_ from p_sa_st otp1_ (fun z_ => by have := wtp_.mpr z_; omega)]; exact z1_) | (obtain ⟨e_, rfl⟩ := ry_w z1_ (fun z_ => by rw [if_pos z_] at e1x; omega); exact z1_)
    · have cx7_ : ¬ (vx6_ = 0) := of_decide_eq_false cx7_
      have hf0_ : S_.1 13 0 10 = 0 := by by_cases z_ : S_.1 13 0 10 = 0; exact z_; (rw [if_neg z_] at e1x; omega)
      obtain ⟨s_, rfl⟩ := ry_r z1_ hf0_
      obtain ⟨⟨hg_, ⟨w0_, hw_, hwl_⟩, hop_, hv_, hmo1_⟩, hs_⟩ := id z1_
      have hwl_ : wl b_ n_ T_ s_.1 w0_ := by rcases hwl_ with z_ | z_; (exact absurd z_.1 (by decide)); (exact z_.2)
      have wtp_ := (wl_tp hwl_ hs_.1).2.2.2.1
      have hwx_ := hw_.1
      have otp1_ := z3_ s_ rfl
      refine sm_T_go 1 (c1 := (13, [some (.inr (.inr (some (13, 0))))], [.inr (.inr (some (13, 0)))], S_)) rfl ?_
      refine sm_T_cal (d1 := 0) (Q1 := vq_312 w0_ S_) rfl rfl (by decide) (vc_312 w0_ S_ hI_ (by exact hw_)) (fun u_ Sx8_ px11_ => ?_)
      obtain ⟨rfl, vx13_, rfl, px11_⟩ := px11_
      have e13_ := px11_
      refine sm_T_go 1 (c1 := (18, [some (.inr (.inr (some (13, 0))))], [.inl 58, .inl vx13_], S_)) rfl ?_
      refine sm_T_br (a := 1) (z := 15) rfl (fun cx14_ => ?_) (fun cx14_ => ?_)
      · have cx14_ : vx13_ ≠ 58 := of_decide_eq_true cx14_
        refine sm_T_rv rfl ⟨_, _, rfl, rfl, hI_, hF_, ?_⟩
        rw [z2_]
        first | (rw [pb_r rfl, show p_sa2 mo_ s_ = .inr s_ from p_sa_st otp1_ (fun z_ => by have := wtp_.mpr z_; omega)]; exact z1_) | (obtain ⟨e_, rfl⟩ := ry_w z1_ (fun z_ => by rw [if_pos z_] at e1x; omega); exact z1_)
      · have cx14_ : ¬ (vx13_ ≠ 58) := of_decide_eq_false cx14_
        have otp_ : o_tp s_.1 = -4 := wtp_.mp (by omega)
        obtain ⟨so_, sg_, sc_⟩ := s_
        obtain ⟨k1_, q1_, o2_, ho2_, hk2_⟩ := o_tp_c (o_ := so_) (by intro z_; have z2_ : o_tp so_ = -4 := otp_; omega)
        subst ho2_
        have hk3_ : k1_ = -4 := otp_
        subst hk3_
        obtain ⟨x1_, x2_, x3_, g2_, hg2_⟩ := s_ok_3 hs_
        subst hg2_
        have wlen : 1 ≤ S_.1 13 0 32 := by have := (wl_len hwl_).2; simp only [List.length_cons] at this; omega
        refine sm_T_go 1 (c1 := (22, [some (.inr (.inr (some (13, 0))))], [.inr (.inr (some (13, 0)))], S_)) rfl ?_
        refine sm_T_cal (d1 := 1) (Q1 := vq_314 b_ n_ T_ mo_ p_ q1_ o2_ x1_ x2_ x3_ g2_ sc_ S_) rfl rfl (by decide) (vc_314 b_ n_ T_ mo_ p_ q1_ o2_ x1_ x2_ x3_ g2_ sc_ S_ hI_ (by exact ht1_) (by exact z1_) (by exact hmo_)) (fun u_ Sx15_ px18_ => ?_)
        obtain ⟨rfl, hIx16_, hFx17_, px18_⟩ := px18_
        have hFx19_ : ai_fr (sx_W vw_316) S0_ Sx15_ := ai_fr_tr hF_ (fr_le hFx17_ rfl)
        have e22_ := px18_
        have ht2_ := rtab_fr ht1_ hFx17_ rfl rfl rfl rfl rfl
        refine sm_T_go 2 (c1 := (27, [some (.inr (.inr (some (13, 0))))], [.inl 1, .inr (.inr (some (13, 0)))], Sx15_)) rfl ?_
        refine sm_T_cal (d1 := 2) (Q1 := vq_315 1 b_ n_ T_ mo_ p_ (p_ch2 q1_ o2_ (x1_ :: x2_ :: x3_ :: g2_) sc_) Sx15_) rfl rfl (by decide) (vc_315 1 b_ n_ T_ mo_ p_ (p_ch2 q1_ o2_ (x1_ :: x2_ :: x3_ :: g2_) sc_) Sx15_ hIx16_ (by exact ht2_) (by exact e22_.1) (by decide) (by exact hmo_)) (fun u_ Sx20_ px23_ => ?_)
        obtain ⟨rfl, hIx21_, hFx22_, px23_⟩ := px23_
        have hFx24_ : ai_fr (sx_W vw_316) S0_ Sx20_ := ai_fr_tr hFx19_ (fr_le hFx22_ rfl)
        have e27_ := px23_
        refine sm_T_go 1 (c1 := (5, [some (.inr (.inr (some (13, 0))))], [], Sx20_)) rfl ?_
        refine ih_  Sx20_ hIx21_ hFx24_ ⟨?_, trivial⟩ ?_
        · exact ⟨_, e27_.1, by rw [z2_, pb_r rfl, sa2_ch, sa2_se], fun s_ hs_ => se2_lt e22_.1 hs_⟩
        · (have := e22_.2); (have := e27_.2); omega
set_option maxHeartbeats 400000 in
theorem vc_316 {sc_ : Nat × (Nat → Int)} (b_ : Nat → Int) (n_ : Nat) (T_ : Nat) (mo_ : Int) (p_ : Nat) (y_ : pE pO) (S0_ : sm_S) (hI_ : gi S0_) (ht_ : rtab b_ n_ T_ S0_) (hy_ : ry b_ n_ T_ mo_ p_ y_ S0_) (hmo_ : mo_ = 0 ∨ mo_ = 2) : sm_T (mt_P sc_) 3 316 (0, [some (.inr (.inr (some (13, 0))))], [], S0_) (fun r_ => ∃ u_ S1_, r_ = (.inl u_, S1_, 0) ∧ vq_316 b_ n_ T_ mo_ p_ y_ S0_ u_ S1_) := by
  have hF_ : ai_fr (sx_W vw_316) S0_ S0_ := ai_fr_rf
  refine sm_T_go 2 (c1 := (2, [some (.inr (.inr (some (13, 0))))], [.inl 1, .inr (.inr (some (13, 0)))], S0_)) rfl ?_
  refine sm_T_cal (d1 := 2) (Q1 := vq_315 1 b_ n_ T_ mo_ p_ y_ S0_) rfl rfl (by decide) (vc_315 1 b_ n_ T_ mo_ p_ y_ S0_ hI_ (by exact ht_) (by exact hy_) (by decide) (by exact hmo_)) (fun u_ Sx1_ px4_ => ?_)
  obtain ⟨rfl, hIx2_, hFx3_, px4_⟩ := px4_
  have hFx5_ : ai_fr (sx_W vw_316) S0_ Sx1_ := ai_fr_tr hF_ (fr_le hFx3_ rfl)
  have e2_ := px4_
  refine sm_T_go 0 (c1 := (5, [some (.inr (.inr (some (13, 0))))], [], Sx1_)) rfl ?_
  refine (vl_316 b_ n_ T_ mo_ p_ y_ S0_ ht_ hy_ hmo_ _)  Sx1_ hIx2_ hFx5_ ⟨?_, trivial⟩ (Nat.lt_succ_self _)
  · exact ⟨_, e2_.1, sa2_se, fun s_ hs_ => se2_lt hy_ hs_⟩
end
/-! 99.y7a -/
section
/-! the reference: turning; written by wip/p55/gen/vg -/

/-! turning -/
theorem ti_f {md_ : Bool} {h_ c_ : List Int} : (p_ti md_ false h_ c_).1 = h_ := rfl
theorem ti_t {mo_ x_ : Int} {g_ c_ : List Int} : (p_ti (mdo mo_) true (x_ :: g_) c_).1 = (if mo_ = 2 then i_xor x_ 255 else x_) :: g_ := by
  unfold p_ti p_tn mdo
  rw [if_pos rfl]
  by_cases z_ : mo_ = 2
  · rw [if_pos (decide_eq_true z_), if_pos z_]
  · rw [if_neg (by rw [decide_eq_false z_]; decide), if_neg z_]
theorem wt_tp {b_ : Nat → Int} {n_ T_ : Nat} {md_ t_ : Bool} {o_ : List (Int × Nat)} {w_ : List (Int × Int)} (h_ : wt b_ n_ T_ t_ o_ w_) (ho_ : o_ok md_ o_) : (w_tp w_ = 33 → ∃ u_, w_ = (33, if t_ = true then 1 else 0) :: u_ ∧ wl b_ n_ T_ o_ u_) ∧ (w_tp w_ ≠ 33 → t_ = false ∧ wl b_ n_ T_ o_ w_) := by
  rcases h_ with h_ | ⟨u_, h1_, h2_⟩
  · exact ⟨fun z_ => absurd z_ (wl_tp h_.2 ho_).1, fun _ => h_⟩
  · exact ⟨fun _ => ⟨u_, h1_, h2_⟩, fun z_ => absurd (by rw [h1_]; rfl) z_⟩
theorem ws_pop {y_ : Int × Int} {u_ : List (Int × Int)} {S_ S'_ : sm_S} (h_ : ws (y_ :: u_) S_) (h0_ : S'_.1 13 0 32 = S_.1 13 0 32 - 1) (h1_ : S'_.2.2.1 136 0 = S_.2.2.1 136 0) (h2_ : S'_.2.2.1 137 0 = S_.2.2.1 137 0) : ws u_ S'_ := by
  refine ⟨?_, by rw [h1_]; exact h_.2.1.2, by rw [h2_]; exact h_.2.2.2⟩
  rw [h0_, h_.1, List.length_cons]
  push_cast
  omega
/-- one_ literal of_ eight is_ turned -/
theorem vs_8 {mo_ x_ : Int} {g_ : List Int} {k_ i_ : Nat} {z_ : Int} {S_ : sm_S} (h0_ : S_.1 13 0 34 = (g_.length : Int) + 1) (h1_ : mo_ ≠ 2 → stk (S_.2.2.1 138 0) (x_ :: g_)) (h2_ : mo_ = 2 → stk (fun j_ => S_.2.2.1 139 0 (8 * j_)) ((if k_ = 0 then x_ else i_xor x_ 255) :: g_)) (hk_ : k_ < 8) (hi_ : i_ = 8 * g_.length + k_) (hz_ : mo_ = 2 → k_ = 0 → z_ = i_xor x_ 255) : (mo_ ≠ 2 → stk ((sm_aI S_ 139 0 i_ z_).2.2.1 138 0) (x_ :: g_)) ∧ (mo_ = 2 → stk (fun j_ => (sm_aI S_ 139 0 i_ z_).2.2.1 139 0 (8 * j_)) ((if k_ + 1 = 0 then x_ else i_xor x_ 255) :: g_)) := by
  refine ⟨fun q_ => stk_ot (h1_ q_) (by decide), fun q_ => ?_⟩
  have h3_ := h2_ q_
  rw [if_neg (by omega)]
  by_cases e_ : k_ = 0
  · rw [if_pos e_] at h3_
    exact stk_8p (by omega) (hz_ q_ e_) h3_.2
  · rw [if_neg e_] at h3_
    refine stk_cg (fun j_ hj_ => ?_) h3_
    show (sm_aI S_ 139 0 i_ z_).2.2.1 139 0 (8 * j_) = _
    rw [rd_eq, if_neg (by simp only [List.length_cons] at hj_; omega)]
end
/-! 99.y7b -/
section
/-! M_.turn -/
def vw_317 : sx_Wl := ([(13, 32)], [139], [])
def vq_317 (b_ : Nat → Int) (n_ : Nat) (T_ : Nat) (mo_ : Int) (t_ : Bool) (o_ : List (Int × Nat)) (x_ : Int) (g_ : List Int) (c_ : List Int) (w_ : List (Int × Int)) (S0_ : sm_S) (u_ : Option sm_V) (S1_ : sm_S) : Prop := u_ = none ∧ gi S1_ ∧ ai_fr (sx_W vw_317) S0_ S1_ ∧ (∃ w1_, ws w1_ S1_ ∧ wl b_ n_ T_ o_ w1_ ∧ vs mo_ (p_ti (mdo mo_) t_ (x_ :: g_) c_).1 S1_)
set_option maxHeartbeats 400000 in
set_option maxRecDepth 20000 in
theorem vl_317 {sc_ : Nat × (Nat → Int)} (b_ : Nat → Int) (n_ : Nat) (T_ : Nat) (mo_ : Int) (t_ : Bool) (o_ : List (Int × Nat)) (x_ : Int) (g_ : List Int) (c_ : List Int) (w_ : List (Int × Int)) (S0_ : sm_S) (hw_ : ws w_ S0_) (hwt_ : wt b_ n_ T_ t_ o_ w_) (ho_ : o_ok (mdo mo_) o_) (hv_ : vs mo_ (x_ :: g_) S0_) (hmo_ : (S0_.1 13 0 27) = mo_) (hgl_ : g_.length ≤ 1000) (hxb_ : 0 ≤ x_ ∧ x_ ≤ 255) : ∀ nn_ : Nat, (∀  (S_ : sm_S), gi S_ → ai_fr (sx_W vw_317) S0_ S_ → ((∃ t1_ w1_ x1_, ws w1_ S_ ∧ wt b_ n_ T_ t1_ o_ w1_ ∧ vs mo_ (x1_ :: g_) S_ ∧ (p_ti (mdo mo_) t1_ (x1_ :: g_) c_).1 = (p_ti (mdo mo_) t_ (x_ :: g_) c_).1) ∧ True) → ((20 * (S_.1 13 0 32) + 10).toNat) < nn_ → sm_T (mt_P sc_) 1 317 (0, [some (.inr (.inr (some (13, 0)))), none, none], [], S_) (fun r_ => ∃ u_ S1_, r_ = (.inl u_, S1_, 0) ∧ vq_317 b_ n_ T_ mo_ t_ o_ x_ g_ c_ w_ S0_ u_ S1_)) ∧ (∀ (v_ : Int) (k_ : Int) (S_ : sm_S), gi S_ → ai_fr (sx_W vw_317) S0_ S_ → ((0 ≤ k_ ∧ k_ ≤ 8 ∧ v_ = (g_.length : Int)) ∧ (∃ u1_ x1_, ws ((33, 1) :: u1_) S_ ∧ wl b_ n_ T_ o_ u1_ ∧ S_.1 13 0 34 = (g_.length : Int) + 1 ∧ (mo_ ≠ 2 → stk (S_.2.2.1 138 0) (x1_ :: g_)) ∧ (mo_ = 2 → stk (fun j_ => S_.2.2.1 139 0 (8 * j_)) ((if k_.toNat = 0 then x1_ else i_xor x1_ 255) :: g_)) ∧ (p_ti (mdo mo_) true (x1_ :: g_) c_).1 = (p_ti (mdo mo_) t_ (x_ :: g_) c_).1) ∧ True) → ((20 * (S_.1 13 0 32) + 9 - k_).toNat) < nn_ → sm_T (mt_P sc_) 1 317 (33, [some (.inr (.inr (some (13, 0)))), some (.inl v_), some (.inl k_)], [], S_) (fun r_ => ∃ u_ S1_, r_ = (.inl u_, S1_, 0) ∧ vq_317 b_ n_ T_ mo_ t_ o_ x_ g_ c_ w_ S0_ u_ S1_)) := by
  intro nn_
  induction nn_ with
  | zero => exact ⟨fun  _ _ _ _ h_ => absurd h_ (Nat.not_lt_zero _), fun _ _ _ _ _ _ h_ => absurd h_ (Nat.not_lt_zero _)⟩
  | succ nn_ ih_ =>
    refine ⟨?_, ?_⟩
    · rintro  S_ hI_ hF_ ⟨h1_, -⟩ hm_
      obtain ⟨t1_, w1_, x1_, y1_, y2_, y3_, y4_⟩ := h1_
      have hmo1_ : S_.1 13 0 27 = mo_ := (hF_.1 13 0 27 rfl).trans hmo_
      have wt1_ := wt_tp y2_ ho_
      have v1_ : S_.1 13 0 34 = (g_.length : Int) + 1 := by rw [y3_.1, List.length_cons]; push_cast; rfl
      refine sm_T_go 1 (c1 := (1, [some (.inr (.inr (some (13, 0)))), none, none], [.inr (.inr (some (13, 0)))], S_)) rfl ?_
      refine sm_T_cal (d1 := 0) (Q1 := vq_312 w1_ S_) rfl rfl (by decide) (vc_312 w1_ S_ hI_ (by exact y1_)) (fun u_ Sx1_ px4_ => ?_)
      obtain ⟨rfl, vx6_, rfl, px4_⟩ := px4_
      have e1_ := px4_
      refine sm_T_go 1 (c1 := (6, [some (.inr (.inr (some (13, 0)))), none, none], [.inl 33, .inl vx6_], S_)) rfl ?_
      refine sm_T_br (a := 1) (z := 81) rfl (fun cx7_ => ?_) (fun cx7_ => ?_)
      · have cx7_ : vx6_ ≠ 33 := of_decide_eq_true cx7_
        refine sm_T_rv rfl ⟨_, _, rfl, rfl, hI_, hF_, ?_⟩
        obtain ⟨q1_, q2_⟩ := wt1_.2 (by omega)
        subst q1_
        rw [ti_f] at y4_
        rw [← y4_]
        exact ⟨w1_, y1_, q2_, y3_⟩
      · have cx7_ : ¬ (vx6_ ≠ 33) := of_decide_eq_false cx7_
        obtain ⟨u1_, hu1_, hu2_⟩ := wt1_.1 (by omega)
        subst hu1_
        have wx_ : S_.1 13 0 32 = (u1_.length : Int) + 1 := by rw [y1_.1, List.length_cons]; push_cast; rfl
        obtain ⟨-, y9_, u9_, w3_, w4_, w5_⟩ := ws_tp y1_ (by omega)
        cases w3_
        have w6_ : S_.2.2.1 137 0 (S_.1 13 0 32 - 1).toNat = (if t1_ = true then 1 else 0) := w4_
        have bx8_ : 0 ≤ S_.1 13 0 32 ∧ S_.1 13 0 32 ≤ 1023 := hI_.1 13 0 32 rfl
        refine sm_T_go 5 (c1 := (18, [some (.inr (.inr (some (13, 0)))), none, none], [.inl 1, .inl (S_.1 13 0 32), .inr (.inr (some (137, 0)))], S_)) rfl ?_
        refine sm_T_bin (w := (S_.1 13 0 32) - 1) rfl (bi_sub (by omega) (by omega) (by omega)) ?_
        refine sm_T_iald (n := 1024) rfl rfl (by omega) (by omega) ?_
        have bx9_ : 0 ≤ S_.2.2.1 137 0 ((S_.1 13 0 32) - 1).toNat ∧ S_.2.2.1 137 0 ((S_.1 13 0 32) - 1).toNat ≤ 1280 := hI_.2 137 0 _
        refine sm_T_go 1 (c1 := (21, [some (.inr (.inr (some (13, 0)))), none, none], [.inl 1, .inl (S_.2.2.1 137 0 ((S_.1 13 0 32) - 1).toNat)], S_)) rfl ?_
        refine sm_T_br (a := 1) (z := 53) rfl (fun cx10_ => ?_) (fun cx10_ => ?_)
        · have cx10_ : (S_.2.2.1 137 0 ((S_.1 13 0 32) - 1).toNat) ≠ 1 := of_decide_eq_true cx10_
          refine sm_T_go 4 (c1 := (80, [some (.inr (.inr (some (13, 0)))), none, none], [.inl 1, .inl (S_.1 13 0 32), .inr (.inr (some (13, 0)))], S_)) rfl ?_
          refine sm_T_bin (w := (S_.1 13 0 32) - 1) rfl (bi_sub (by omega) (by omega) (by omega)) ?_
          have hIx11_ : gi (sm_pI S_ 13 0 32 ((S_.1 13 0 32) - 1)) := gi_pI hI_ (show 0 ≤ (S_.1 13 0 32) - 1 ∧ (S_.1 13 0 32) - 1 ≤ 1023 from ⟨by omega, by omega⟩)
          have hFx12_ : ai_fr (sx_W vw_317) S0_ (sm_pI S_ 13 0 32 ((S_.1 13 0 32) - 1)) := ai_fr_tr hF_ (ai_fr_pI rfl)
          refine sm_T_go 2 (c1 := (0, [some (.inr (.inr (some (13, 0)))), none, none], [], sm_pI S_ 13 0 32 ((S_.1 13 0 32) - 1))) rfl ?_
          refine ih_.1  (sm_pI S_ 13 0 32 ((S_.1 13 0 32) - 1)) hIx11_ hFx12_ ⟨?_, trivial⟩ ?_
          · have ht1_ : t1_ = false := by cases t1_; rfl; (rw [if_pos rfl] at w6_; omega)
            subst ht1_
            exact ⟨false, u1_, x1_, ws_pop y1_ rfl rfl rfl, Or.inl ⟨rfl, hu2_⟩, y3_, y4_⟩
          · (try simp only [rd_eq, rd_ne, rf_eq, rf_nk, rf_nt, rd_fa, rd_af, ne_eq, Nat.reduceEqDiff, not_false_eq_true]); omega
        · have cx10_ : ¬ ((S_.2.2.1 137 0 ((S_.1 13 0 32) - 1).toNat) ≠ 1) := of_decide_eq_false cx10_
          have bx13_ : 0 ≤ S_.1 13 0 34 ∧ S_.1 13 0 34 ≤ 1023 := hI_.1 13 0 34 rfl
          refine sm_T_go 3 (c1 := (29, [some (.inr (.inr (some (13, 0)))), none, none], [.inl 1, .inl (S_.1 13 0 34)], S_)) rfl ?_
          refine sm_T_bin (w := (S_.1 13 0 34) - 1) rfl (bi_sub (by omega) (by omega) (by omega)) ?_
          refine sm_T_go 3 (c1 := (33, [some (.inr (.inr (some (13, 0)))), some (.inl ((S_.1 13 0 34) - 1)), some (.inl 0)], [], S_)) rfl ?_
          refine ih_.2 ((S_.1 13 0 34) - 1) 0 S_ hI_ hF_ ⟨?_, ?_, trivial⟩ ?_
          · omega
          · have ht1_ : t1_ = true := by cases t1_; (rw [if_neg (by decide)] at w6_; omega); rfl
            subst ht1_
            exact ⟨u1_, x1_, y1_, hu2_, v1_, y3_.2.1, y3_.2.2, y4_⟩
          · omega
    · rintro v_ k_ S_ hI_ hF_ ⟨h0_, h1_, -⟩ hm_
      obtain ⟨u1_, x1_, y1_, y2_, y3_, y5_, y6_, y4_⟩ := h1_
      have hmo1_ : S_.1 13 0 27 = mo_ := (hF_.1 13 0 27 rfl).trans hmo_
      have wx_ : S_.1 13 0 32 = (u1_.length : Int) + 1 := by rw [y1_.1, List.length_cons]; push_cast; rfl
      refine sm_T_go 2 (c1 := (36, [some (.inr (.inr (some (13, 0)))), some (.inl v_), some (.inl k_)], [.inl 8, .inl k_], S_)) rfl ?_
      refine sm_T_br (a := 3) (z := 38) rfl (fun cx1_ => ?_) (fun cx1_ => ?_)
      · have cx1_ : 8 ≤ k_ := of_decide_eq_true cx1_
        have bx2_ : 0 ≤ S_.1 13 0 32 ∧ S_.1 13 0 32 ≤ 1023 := hI_.1 13 0 32 rfl
        refine sm_T_go 4 (c1 := (80, [some (.inr (.inr (some (13, 0)))), some (.inl v_), some (.inl k_)], [.inl 1, .inl (S_.1 13 0 32), .inr (.inr (some (13, 0)))], S_)) rfl ?_
        refine sm_T_bin (w := (S_.1 13 0 32) - 1) rfl (bi_sub (by omega) (by omega) (by omega)) ?_
        have hIx3_ : gi (sm_pI S_ 13 0 32 ((S_.1 13 0 32) - 1)) := gi_pI hI_ (show 0 ≤ (S_.1 13 0 32) - 1 ∧ (S_.1 13 0 32) - 1 ≤ 1023 from ⟨by omega, by omega⟩)
        have hFx4_ : ai_fr (sx_W vw_317) S0_ (sm_pI S_ 13 0 32 ((S_.1 13 0 32) - 1)) := ai_fr_tr hF_ (ai_fr_pI rfl)
        refine sm_T_go 2 (c1 := (0, [some (.inr (.inr (some (13, 0)))), some (.inl v_), some (.inl k_)], [], sm_pI S_ 13 0 32 ((S_.1 13 0 32) - 1))) rfl ?_
        refine sm_T_wk [some (.inr (.inr (some (13, 0)))), none, none] (by exact ⟨rfl, trivial⟩) ?_
        refine ih_.1  (sm_pI S_ 13 0 32 ((S_.1 13 0 32) - 1)) hIx3_ hFx4_ ⟨?_, trivial⟩ ?_
        · rw [ti_t] at y4_
          refine ⟨false, u1_, if mo_ = 2 then i_xor x1_ 255 else x1_, ws_pop y1_ rfl rfl rfl, Or.inl ⟨rfl, y2_⟩, ⟨?_, fun q7_ => ?_, fun q7_ => ?_⟩, y4_⟩
          · rw [List.length_cons]; push_cast; exact y3_
          · rw [if_neg q7_]; exact y5_ q7_
          · have q8_ := y6_ q7_; rw [if_neg (by omega)] at q8_; rw [if_pos q7_]; exact q8_
        · (try simp only [rd_eq, rd_ne, rf_eq, rf_nk, rf_nt, rd_fa, rd_af, ne_eq, Nat.reduceEqDiff, not_false_eq_true]); omega
      · have cx1_ : ¬ (8 ≤ k_) := of_decide_eq_false cx1_
        refine sm_T_go 4 (c1 := (46, [some (.inr (.inr (some (13, 0)))), some (.inl v_), some (.inl k_)], [.inl v_, .inl 8, .inr (.inr (some (139, 0)))], S_)) rfl ?_
        refine sm_T_bin (w := 8 * v_) rfl (bi_mul (by omega) (by omega) (by omega)) ?_
        refine sm_T_go 1 (c1 := (48, [some (.inr (.inr (some (13, 0)))), some (.inl v_), some (.inl k_)], [.inl k_, .inl (8 * v_), .inr (.inr (some (139, 0)))], S_)) rfl ?_
        refine sm_T_bin (w := 8 * v_ + k_) rfl (bi_add (by omega) (by omega) (by omega)) ?_
        refine sm_T_go 1 (c1 := (50, [some (.inr (.inr (some (13, 0)))), some (.inl v_), some (.inl k_)], [.inl (8 * v_ + k_), .inr (.inr (some (139, 0))), .inl (8 * v_ + k_), .inr (.inr (some (139, 0)))], S_)) rfl ?_
        refine sm_T_iald (n := 8192) rfl rfl (by omega) (by omega) ?_
        have bx5_ : 0 ≤ S_.2.2.1 139 0 (8 * v_ + k_).toNat ∧ S_.2.2.1 139 0 (8 * v_ + k_).toNat ≤ 2047 := hI_.2 139 0 _
        have bx6_ : 0 ≤ S_.1 13 0 27 ∧ S_.1 13 0 27 ≤ 2 := hI_.1 13 0 27 rfl
        refine sm_T_go 3 (c1 := (56, [some (.inr (.inr (some (13, 0)))), some (.inl v_), some (.inl k_)], [.inl 2, .inl (S_.1 13 0 27), .inl (S_.2.2.1 139 0 (8 * v_ + k_).toNat), .inl (8 * v_ + k_), .inr (.inr (some (139, 0)))], S_)) rfl ?_
        refine sm_T_br (a := 1) (z := 9) rfl (fun cx7_ => ?_) (fun cx7_ => ?_)
        · have cx7_ : (S_.1 13 0 27) ≠ 2 := of_decide_eq_true cx7_
          refine sm_T_go 1 (c1 := (66, [some (.inr (.inr (some (13, 0)))), some (.inl v_), some (.inl k_)], [.inl 1, .inl (S_.2.2.1 139 0 (8 * v_ + k_).toNat), .inl (8 * v_ + k_), .inr (.inr (some (139, 0)))], S_)) rfl ?_
          refine sm_T_bin (w := (i_xor (S_.2.2.1 139 0 (8 * v_ + k_).toNat) 1)) rfl rfl ?_
          have bx8_ := (i_x11 (x_ := (S_.2.2.1 139 0 (8 * v_ + k_).toNat)) (y_ := 1) ⟨by omega, by omega⟩ ⟨by omega, by omega⟩).2.1
          refine sm_T_iast (n := 8192) rfl rfl (by omega) (by omega) ?_
          have hIx9_ : gi (sm_aI S_ 139 0 (8 * v_ + k_).toNat (i_xor (S_.2.2.1 139 0 (8 * v_ + k_).toNat) 1)) := gi_aI hI_ (show 0 ≤ (i_xor (S_.2.2.1 139 0 (8 * v_ + k_).toNat) 1) ∧ (i_xor (S_.2.2.1 139 0 (8 * v_ + k_).toNat) 1) ≤ 2047 from ⟨by omega, by omega⟩)
          have hFx10_ : ai_fr (sx_W vw_317) S0_ (sm_aI S_ 139 0 (8 * v_ + k_).toNat (i_xor (S_.2.2.1 139 0 (8 * v_ + k_).toNat) 1)) := ai_fr_tr hF_ (ai_fr_aI rfl)
          refine sm_T_inc (a := 2) (z := 1) (v := k_) (w := k_ + 1) rfl rfl (by omega) (by omega) (by omega) ?_
          refine sm_T_go 1 (c1 := (33, [some (.inr (.inr (some (13, 0)))), some (.inl v_), some (.inl (k_ + 1))], [], sm_aI S_ 139 0 (8 * v_ + k_).toNat (i_xor (S_.2.2.1 139 0 (8 * v_ + k_).toNat) 1))) rfl ?_
          refine ih_.2 v_ (k_ + 1) (sm_aI S_ 139 0 (8 * v_ + k_).toNat (i_xor (S_.2.2.1 139 0 (8 * v_ + k_).toNat) 1)) hIx9_ hFx10_ ⟨?_, ?_, trivial⟩ ?_
          · omega
          · refine ⟨u1_, x1_, ⟨y1_.1, stk_ot y1_.2.1 (by decide), stk_ot y1_.2.2 (by decide)⟩, y2_, y3_, fun q7_ => (vs_8 (k_ := k_.toNat) y3_ y5_ y6_ (by omega) (show (8 * v_ + k_).toNat = 8 * g_.length + k_.toNat by omega) (fun q7_ q8_ => by first | (exfalso; omega) | (have q9_ := (y6_ q7_).1; rw [if_pos q8_] at q9_; have q10_ : S_.2.2.1 139 0 (8 * v_ + k_).toNat = x1_ := (by rw [show (8 * v_ + k_).toNat = 8 * g_.length by omega]; exact q9_); rw [q10_]))).1 q7_, fun q7_ => ?_, y4_⟩
            rw [show (k_ + 1).toNat = k_.toNat + 1 by omega]
            exact (vs_8 (k_ := k_.toNat) y3_ y5_ y6_ (by omega) (show (8 * v_ + k_).toNat = 8 * g_.length + k_.toNat by omega) (fun q7_ q8_ => by first | (exfalso; omega) | (have q9_ := (y6_ q7_).1; rw [if_pos q8_] at q9_; have q10_ : S_.2.2.1 139 0 (8 * v_ + k_).toNat = x1_ := (by rw [show (8 * v_ + k_).toNat = 8 * g_.length by omega]; exact q9_); rw [q10_]))).2 q7_
          · (try simp only [rd_eq, rd_ne, rf_eq, rf_nk, rf_nt, rd_fa, rd_af, ne_eq, Nat.reduceEqDiff, not_false_eq_true]); omega
        · have cx7_ : ¬ ((S_.1 13 0 27) ≠ 2) := of_decide_eq_false cx7_
          refine sm_T_go 2 (c1 := (66, [some (.inr (.inr (some (13, 0)))), some (.inl v_), some (.inl k_)], [.inl 255, .inl (S_.2.2.1 139 0 (8 * v_ + k_).toNat), .inl (8 * v_ + k_), .inr (.inr (some (139, 0)))], S_)) rfl ?_
          refine sm_T_bin (w := (i_xor (S_.2.2.1 139 0 (8 * v_ + k_).toNat) 255)) rfl rfl ?_
          have bx11_ := (i_x11 (x_ := (S_.2.2.1 139 0 (8 * v_ + k_).toNat)) (y_ := 255) ⟨by omega, by omega⟩ ⟨by omega, by omega⟩).2.1
          refine sm_T_iast (n := 8192) rfl rfl (by omega) (by omega) ?_
          have hIx12_ : gi (sm_aI S_ 139 0 (8 * v_ + k_).toNat (i_xor (S_.2.2.1 139 0 (8 * v_ + k_).toNat) 255)) := gi_aI hI_ (show 0 ≤ (i_xor (S_.2.2.1 139 0 (8 * v_ + k_).toNat) 255) ∧ (i_xor (S_.2.2.1 139 0 (8 * v_ + k_).toNat) 255) ≤ 2047 from ⟨by omega, by omega⟩)
          have hFx13_ : ai_fr (sx_W vw_317) S0_ (sm_aI S_ 139 0 (8 * v_ + k_).toNat (i_xor (S_.2.2.1 139 0 (8 * v_ + k_).toNat) 255)) := ai_fr_tr hF_ (ai_fr_aI rfl)
          refine sm_T_inc (a := 2) (z := 1) (v := k_) (w := k_ + 1) rfl rfl (by omega) (by omega) (by omega) ?_
          refine sm_T_go 1 (c1 := (33, [some (.inr (.inr (some (13, 0)))), some (.inl v_), some (.inl (k_ + 1))], [], sm_aI S_ 139 0 (8 * v_ + k_).toNat (i_xor (S_.2.2.1 139 0 (8 * v_ + k_).toNat) 255))) rfl ?_
          refine ih_.2 v_ (k_ + 1) (sm_aI S_ 139 0 (8 * v_ + k_).toNat (i_xor (S_.2.2.1 139 0 (8 * v_ + k_).toNat) 255)) hIx12_ hFx13_ ⟨?_, ?_, trivial⟩ ?_
          · omega
          · refine ⟨u1_, x1_, ⟨y1_.1, stk_ot y1_.2.1 (by decide), stk_ot y1_.2.2 (by decide)⟩, y2_, y3_, fun q7_ => (vs_8 (k_ := k_.toNat) y3_ y5_ y6_ (by omega) (show (8 * v_ + k_).toNat = 8 * g_.length + k_.toNat by omega) (fun q7_ q8_ => by first | (exfalso; omega) | (have q9_ := (y6_ q7_).1; rw [if_pos q8_] at q9_; have q10_ : S_.2.2.1 139 0 (8 * v_ + k_).toNat = x1_ := (by rw [show (8 * v_ + k_).toNat = 8 * g_.length by omega]; exact q9_); rw [q10_]))).1 q7_, fun q7_ => ?_, y4_⟩
            rw [show (k_ + 1).toNat = k_.toNat + 1 by omega]
            exact (vs_8 (k_ := k_.toNat) y3_ y5_ y6_ (by omega) (show (8 * v_ + k_).toNat = 8 * g_.length + k_.toNat by omega) (fun q7_ q8_ => by first | (exfalso; omega) | (have q9_ := (y6_ q7_).1; rw [if_pos q8_] at q9_; have q10_ : S_.2.2.1 139 0 (8 * v_ + k_).toNat = x1_ := (by rw [show (8 * v_ + k_).toNat = 8 * g_.length by omega]; exact q9_); rw [q10_]))).2 q7_
          · (try simp only [rd_eq, rd_ne, rf_eq, rf_nk, rf_nt, rd_fa, rd_af, ne_eq, Nat.reduceEqDiff, not_false_eq_true]); omega
set_option maxHeartbeats 400000 in
set_option maxRecDepth 20000 in
theorem vc_317 {sc_ : Nat × (Nat → Int)} (b_ : Nat → Int) (n_ : Nat) (T_ : Nat) (mo_ : Int) (t_ : Bool) (o_ : List (Int × Nat)) (x_ : Int) (g_ : List Int) (c_ : List Int) (w_ : List (Int × Int)) (S0_ : sm_S) (hI_ : gi S0_) (hw_ : ws w_ S0_) (hwt_ : wt b_ n_ T_ t_ o_ w_) (ho_ : o_ok (mdo mo_) o_) (hv_ : vs mo_ (x_ :: g_) S0_) (hmo_ : (S0_.1 13 0 27) = mo_) (hgl_ : g_.length ≤ 1000) (hxb_ : 0 ≤ x_ ∧ x_ ≤ 255) : sm_T (mt_P sc_) 1 317 (0, [some (.inr (.inr (some (13, 0)))), none, none], [], S0_) (fun r_ => ∃ u_ S1_, r_ = (.inl u_, S1_, 0) ∧ vq_317 b_ n_ T_ mo_ t_ o_ x_ g_ c_ w_ S0_ u_ S1_) := by
  have hF_ : ai_fr (sx_W vw_317) S0_ S0_ := ai_fr_rf
  refine (vl_317 b_ n_ T_ mo_ t_ o_ x_ g_ c_ w_ S0_ hw_ hwt_ ho_ hv_ hmo_ hgl_ hxb_ _).1  S0_ hI_ hF_ ⟨?_, trivial⟩ (Nat.lt_succ_self _)
  · exact ⟨t_, w_, x_, hw_, hwt_, hv_, rfl⟩
end
/-! 99.y8a -/
section
/-! the reference: opening; written by wip/p55/gen/vg -/
/-! M_.within -/
def vw_278 : sx_Wl := ([], [], [])
def vq_278 (v0_ : Int) (lo_ : Int) (hi_ : Int) (S0_ : sm_S) (u_ : Option sm_V) (S1_ : sm_S) : Prop := S0_ = S1_ ∧ ∃ v_ : Int, u_ = some (.inl v_) ∧ ((v_ = 0 ∨ v_ = 1) ∧ (v_ = 1 ↔ lo_ ≤ v0_ ∧ v0_ ≤ hi_))
set_option maxHeartbeats 400000 in
theorem vc_278 {sc_ : Nat × (Nat → Int)} (v0_ : Int) (lo_ : Int) (hi_ : Int) (S0_ : sm_S) (hI_ : gi S0_)  : sm_T (mt_P sc_) 0 278 (0, [some (.inl v0_), some (.inl lo_), some (.inl hi_)], [], S0_) (fun r_ => ∃ u_ S1_, r_ = (.inl u_, S1_, 0) ∧ vq_278 v0_ lo_ hi_ S0_ u_ S1_) := by
  have hF_ : ai_fr (sx_W vw_278) S0_ S0_ := ai_fr_rf
  refine sm_T_go 2 (c1 := (2, [some (.inl v0_), some (.inl lo_), some (.inl hi_)], [.inl lo_, .inl v0_], S0_)) rfl ?_
  refine sm_T_br (a := 2) (z := 12) rfl (fun cx1_ => ?_) (fun cx1_ => ?_)
  · have cx1_ : v0_ < lo_ := of_decide_eq_true cx1_
    refine sm_T_go 1 (c1 := (15, [some (.inl v0_), some (.inl lo_), some (.inl hi_)], [.inl 0], S0_)) rfl ?_
    refine sm_T_rz rfl (by omega) ⟨_, _, rfl, rfl, _, rfl, ?_⟩
    omega
  · have cx1_ : ¬ (v0_ < lo_) := of_decide_eq_false cx1_
    refine sm_T_go 2 (c1 := (7, [some (.inl v0_), some (.inl lo_), some (.inl hi_)], [.inl hi_, .inl v0_], S0_)) rfl ?_
    refine sm_T_br (a := 4) (z := 7) rfl (fun cx2_ => ?_) (fun cx2_ => ?_)
    · have cx2_ : hi_ < v0_ := of_decide_eq_true cx2_
      refine sm_T_go 1 (c1 := (15, [some (.inl v0_), some (.inl lo_), some (.inl hi_)], [.inl 0], S0_)) rfl ?_
      refine sm_T_rz rfl (by omega) ⟨_, _, rfl, rfl, _, rfl, ?_⟩
      omega
    · have cx2_ : ¬ (hi_ < v0_) := of_decide_eq_false cx2_
      refine sm_T_go 2 (c1 := (15, [some (.inl v0_), some (.inl lo_), some (.inl hi_)], [.inl 1], S0_)) rfl ?_
      refine sm_T_rz rfl (by omega) ⟨_, _, rfl, rfl, _, rfl, ?_⟩
      omega
end
/-! 99.y8b -/
section
/-! M_.open -/
def vw_318 : sx_Wl := ([(13, 9), (13, 10), (13, 11), (13, 32), (13, 33)], [136, 137], [])
def vq_318 (s_ : Int) (b_ : Nat → Int) (n_ : Nat) (T_ : Nat) (mo_ : Int) (p_ : Nat) (i_ : Nat) (k_ : Nat) (w_ : List (Int × Int)) (S0_ : sm_S) (u_ : Option sm_V) (S1_ : sm_S) : Prop := u_ = none ∧ gi S1_ ∧ ai_fr (sx_W vw_318) S0_ S1_ ∧ ((k_ = 60 → rwr mo_ (3, p_) S1_) ∧ (k_ ≠ 60 → (∀ e_, p_ad b_ n_ p_ = .inl e_ → rwr mo_ e_ S1_) ∧ (∀ r_, p_ad b_ n_ p_ = .inr r_ → rg b_ n_ T_ (.inr r_) S1_ ∧ ws ((s_, (i_ : Int)) :: w_) S1_ ∧ (S1_.1 13 0 33) = (k_ : Int) + 1)))
set_option maxHeartbeats 400000 in
theorem vc_318 {sc_ : Nat × (Nat → Int)} (s_ : Int) (b_ : Nat → Int) (n_ : Nat) (T_ : Nat) (mo_ : Int) (p_ : Nat) (i_ : Nat) (k_ : Nat) (w_ : List (Int × Int)) (S0_ : sm_S) (hI_ : gi S0_) (ht_ : rtab b_ n_ T_ S0_) (hf_ : (S0_.1 13 0 10) = 0) (hi_ : (S0_.1 13 0 9) = (i_ : Int) ∧ rp b_ n_ T_ i_ p_) (hk_ : lx_kd b_ n_ p_ ≠ 0) (hw_ : ws w_ S0_) (hwl_ : w_.length ≤ 790) (ho_ : (S0_.1 13 0 33) = (k_ : Int) ∧ k_ ≤ 60) (hs_ : 0 ≤ s_ ∧ s_ ≤ 1000) (hmo_ : (S0_.1 13 0 27) = mo_) : sm_T (mt_P sc_) 3 318 (0, [some (.inr (.inr (some (13, 0)))), some (.inl s_)], [], S0_) (fun r_ => ∃ u_ S1_, r_ = (.inl u_, S1_, 0) ∧ vq_318 s_ b_ n_ T_ mo_ p_ i_ k_ w_ S0_ u_ S1_) := by
  have hF_ : ai_fr (sx_W vw_318) S0_ S0_ := ai_fr_rf
  have ra_ := rp_at ht_ hi_.2
  have rk_ := r_st_3 (lx_kd_r hi_.2.2.2.1)
  have hT_ := ht_.2.1
  have hi9_ := hi_.2.1
  have e4_ : (S0_.1 13 0 9).toNat = i_ := by omega
  have hx_ : rg b_ n_ T_ (.inr p_) S0_ := ⟨hf_, i_, hi_.1, hi_.2⟩
  have hww_ := hw_.1
  have bx1_ : 0 ≤ S0_.1 13 0 33 ∧ S0_.1 13 0 33 ≤ 60 := hI_.1 13 0 33 rfl
  refine sm_T_go 3 (c1 := (6, [some (.inr (.inr (some (13, 0)))), some (.inl s_)], [.inl 60, .inl (S0_.1 13 0 33)], S0_)) rfl ?_
  refine sm_T_br (a := 1) (z := 13) rfl (fun cx2_ => ?_) (fun cx2_ => ?_)
  · have cx2_ : (S0_.1 13 0 33) ≠ 60 := of_decide_eq_true cx2_
    refine sm_T_go 4 (c1 := (25, [some (.inr (.inr (some (13, 0)))), some (.inl s_)], [.inl 1, .inl (S0_.1 13 0 33), .inr (.inr (some (13, 0)))], S0_)) rfl ?_
    refine sm_T_bin (w := (S0_.1 13 0 33) + 1) rfl (bi_add (by omega) (by omega) (by omega)) ?_
    have hIx3_ : gi (sm_pI S0_ 13 0 33 ((S0_.1 13 0 33) + 1)) := gi_pI hI_ (show 0 ≤ (S0_.1 13 0 33) + 1 ∧ (S0_.1 13 0 33) + 1 ≤ 60 from ⟨by omega, by omega⟩)
    have hFx4_ : ai_fr (sx_W vw_318) S0_ (sm_pI S0_ 13 0 33 ((S0_.1 13 0 33) + 1)) := ai_fr_tr hF_ (ai_fr_pI rfl)
    have bx5_ : 0 ≤ S0_.1 13 0 9 ∧ S0_.1 13 0 9 ≤ 1280 := hI_.1 13 0 9 rfl
    refine sm_T_go 5 (c1 := (35, [some (.inr (.inr (some (13, 0)))), some (.inl s_)], [.inl (S0_.1 13 0 9), .inl s_, .inr (.inr (some (13, 0)))], sm_pI S0_ 13 0 33 ((S0_.1 13 0 33) + 1))) rfl ?_
    refine sm_T_cal (d1 := 0) (Q1 := vq_311 s_ (S0_.1 13 0 9) w_ (sm_pI S0_ 13 0 33 ((S0_.1 13 0 33) + 1))) rfl rfl (by decide) (vc_311 s_ (S0_.1 13 0 9) w_ (sm_pI S0_ 13 0 33 ((S0_.1 13 0 33) + 1)) hIx3_ (by exact hw_) (by omega) (by omega) (by exact hs_)) (fun u_ Sx6_ px9_ => ?_)
    obtain ⟨rfl, hIx7_, hFx8_, px9_⟩ := px9_
    have hFx10_ : ai_fr (sx_W vw_318) S0_ Sx6_ := ai_fr_tr hFx4_ (fr_le hFx8_ rfl)
    have e35_ := px9_
    have ht2_ := rtab_fr (rtab_fr (w_ := ([(13, 33)], [], [])) ht_ (ai_fr_pI rfl) rfl rfl rfl rfl rfl) hFx8_ rfl rfl rfl rfl rfl
    have hx2_ : rg b_ n_ T_ (.inr p_) Sx6_ := rg_fr (show rg b_ n_ T_ (.inr p_) (sm_pI S0_ 13 0 33 (S0_.1 13 0 33 + 1)) from hx_) hFx8_ rfl rfl rfl
    have m35_ : Sx6_.1 13 0 27 = mo_ := (hFx8_.1 13 0 27 rfl).trans hmo_
    have o35_ : Sx6_.1 13 0 33 = (k_ : Int) + 1 := (hFx8_.1 13 0 33 rfl).trans (by show S0_.1 13 0 33 + 1 = _; omega)
    refine sm_T_go 1 (c1 := (39, [some (.inr (.inr (some (13, 0)))), some (.inl s_)], [.inr (.inr (some (13, 0)))], Sx6_)) rfl ?_
    refine sm_T_cal (d1 := 2) (Q1 := vq_297 b_ n_ T_ (.inr p_) Sx6_) rfl rfl (by decide) (vc_297 b_ n_ T_ (.inr p_) Sx6_ hIx7_ (by exact ht2_) (by exact hx2_) (by (intro q_ e_; cases e_; exact hk_))) (fun u_ Sx11_ px14_ => ?_)
    obtain ⟨rfl, hIx12_, hFx13_, px14_⟩ := px14_
    have hFx15_ : ai_fr (sx_W vw_318) S0_ Sx11_ := ai_fr_tr hFx10_ (fr_le hFx13_ rfl)
    have e39_ := px14_.1
    have w39_ := ws_fr e35_ hFx13_ rfl rfl rfl
    have o39_ := (hFx13_.1 13 0 33 rfl).trans o35_
    have wl39_ := w39_.1
    have m39_ := (hFx13_.1 13 0 27 rfl).trans m35_
    rw [pb_r rfl] at e39_
    refine sm_T_rv rfl ⟨_, _, rfl, rfl, hIx12_, hFx15_, ?_⟩
    refine ⟨fun z_ => by omega, fun _ => ⟨fun e_ he_ => ?_, fun r_ hr_ => ?_⟩⟩
    · rw [he_] at e39_
      have he2_ : e_ = (1, lx_nx b_ n_ p_) := by unfold p_ad at he_; split at he_; (cases he_; rfl); (cases he_)
      subst he2_
      refine ⟨e39_.1, e39_.2.1, e39_.2.2, ?_, m39_⟩
      rw [wl39_, List.length_cons]; push_cast; omega
    · rw [hr_] at e39_
      refine ⟨e39_, ?_, o39_⟩
      rw [hi_.1] at w39_
      exact w39_
  · have cx2_ : ¬ ((S0_.1 13 0 33) ≠ 60) := of_decide_eq_false cx2_
    have bx16_ : 0 ≤ S0_.1 13 0 9 ∧ S0_.1 13 0 9 ≤ 1280 := hI_.1 13 0 9 rfl
    refine sm_T_go 4 (c1 := (15, [some (.inr (.inr (some (13, 0)))), some (.inl s_)], [.inl (S0_.1 13 0 9), .inl 3, .inr (.inr (some (13, 0)))], S0_)) rfl ?_
    refine sm_T_cal (d1 := 0) (Q1 := vq_293 3 (S0_.1 13 0 9) S0_) rfl rfl (by decide) (vc_293 3 (S0_.1 13 0 9) S0_ hI_ (by decide) (by omega)) (fun u_ Sx17_ px20_ => ?_)
    obtain ⟨rfl, hIx18_, hFx19_, px20_⟩ := px20_
    have hFx21_ : ai_fr (sx_W vw_318) S0_ Sx17_ := ai_fr_tr hF_ (fr_le hFx19_ rfl)
    have ex22_ : Sx17_.1 13 0 9 = S0_.1 13 0 9 := hFx19_.1 13 0 9 rfl
    have ex23_ : Sx17_.1 13 0 33 = S0_.1 13 0 33 := hFx19_.1 13 0 33 rfl
    have e15_ := px20_
    have m15_ := (hFx19_.1 13 0 27 rfl).trans hmo_
    have w15_ := hFx19_.1 13 0 32 rfl
    refine sm_T_rv rfl ⟨_, _, rfl, rfl, hIx18_, hFx21_, ?_⟩
    refine ⟨fun _ => ?_, fun z_ => by omega⟩
    rcases e15_ with z_ | z_
    · exact absurd hf_ z_.1
    · refine ⟨z_.2.1.trans (if_neg ?_), ?_, by show (3 : Int) ≠ 0; decide, by omega, m15_⟩
      · rw [e4_, ra_.1]; exact rk_.2.2.2.2.2
      · rw [z_.2.2, e4_]; exact ra_.2.1
end
/-! 99.y9 -/
section
/-! the reference: constants; written by wip/p55/gen/vg -/

/-! constants -/
def p_c3 (b_ : Nat → Int) (n_ p_ : Nat) : pE Nat := pb (pb (pb (.inr p_) (p_ad b_ n_)) (p_nd b_ n_ 64)) (p_du b_ n_ 2)
theorem c3_w {b_ : Nat → Int} {n_ p_ : Nat} {e_ : Int × Nat} (h_ : p_c3 b_ n_ p_ = .inl e_) : p_co b_ n_ p_ = .inl e_ := by
  unfold p_c3 at h_
  rw [pb_r rfl] at h_
  unfold p_co
  cases h1_ : p_ad b_ n_ p_ with
  | inl z_ => rw [h1_] at h_; cases h_; rfl
  | inr q_ =>
    rw [h1_, pb_r rfl] at h_
    rw [pb_r rfl]
    unfold p_nd at h_
    split at h_
    · rename_i g_
      rw [if_pos g_]
      cases h2_ : p_ad b_ n_ q_ with
      | inl z_ => rw [h2_] at h_; cases h_; rfl
      | inr r_ =>
        rw [h2_, pb_r rfl] at h_
        rw [pb_r rfl]
        unfold p_du at h_
        unfold p_nu
        split at h_
        · cases h_
        · rename_i g2_
          cases h_
          rw [if_neg g2_]
          rfl
    · rename_i g_
      cases h_
      rw [if_neg g_]
theorem c3_r {b_ : Nat → Int} {n_ p_ r_ : Nat} (h_ : p_c3 b_ n_ p_ = .inr r_) : lx_kd b_ n_ r_ = 2 ∧ p_co b_ n_ p_ = if lx_vl b_ n_ r_ < 1 ∨ 8 < lx_vl b_ n_ r_ then .inl (12, r_) else pb (p_ad b_ n_ r_) fun u_ => if lx_vl b_ n_ p_ / 2 ^ (lx_vl b_ n_ r_).toNat = 0 then .inr (u_, lx_vl b_ n_ r_, [cw 8 (lx_vl b_ n_ r_) (lx_vl b_ n_ p_)]) else .inl (12, p_) := by
  obtain ⟨r1_, h1_, h2_⟩ := pb_inr h_
  obtain ⟨q_, h3_, h4_⟩ := pb_inr h1_
  rw [pb_r rfl] at h3_
  unfold p_nd at h4_
  split at h4_
  · rename_i g_
    unfold p_du at h2_
    split at h2_
    · rename_i g2_
      cases h2_
      refine ⟨g2_, ?_⟩
      unfold p_co
      rw [pb_r h3_, if_pos g_, pb_r h4_]
      unfold p_nu
      rw [if_pos g2_]
      split
      · rfl
      · rfl
    · cases h2_
  · cases h4_
theorem shl_ge {x_ w_ : Int} (hx_ : 0 ≤ x_) (hw_ : 1 ≤ w_ ∧ w_ ≤ 8) : i_shl 1 w_ ≤ x_ ↔ ¬ (x_ / 2 ^ w_.toNat = 0) := by
  rw [i_shl1 (by omega) (by omega)]
  have h1_ := pw_8 w_.toNat (by omega)
  generalize (2 : Int) ^ w_.toNat = y_ at *
  constructor
  · intro h_
    have := Int.le_ediv_of_mul_le (show 0 < y_ by omega) (show 1 * y_ ≤ x_ by omega)
    omega
  · intro h_
    by_cases g_ : y_ ≤ x_
    · exact g_
    · exact absurd (Int.ediv_eq_zero_of_lt hx_ (by omega)) h_
theorem rt_if {v_ f_ : Int} (h_ : v_ = if f_ = 0 then 1 else 0) (hv_ : v_ ≠ 0) : f_ = 0 := by
  by_cases z_ : f_ = 0
  · exact z_
  · rw [if_neg z_] at h_; exact absurd h_ hv_
theorem wr_if {v_ f_ : Int} (h_ : v_ = if f_ = 0 then 1 else 0) (hv_ : v_ = 0) : f_ ≠ 0 := by
  intro z_
  rw [if_pos z_] at h_
  omega
/-! M_.plainNumber -/
def vw_322 : sx_Wl := ([(13, 9), (13, 10), (13, 11)], [138, 139], [])
def vq_322 (b_ : Nat → Int) (n_ : Nat) (T_ : Nat) (mo_ : Int) (p_ : Nat) (i_ : Nat) (gl_ : Nat) (S0_ : sm_S) (u_ : Option sm_V) (S1_ : sm_S) : Prop := u_ = none ∧ gi S1_ ∧ ai_fr (sx_W vw_322) S0_ S1_ ∧ ((∀ e_, p_co b_ n_ p_ = .inl e_ → rwr mo_ e_ S1_) ∧ (∀ r_, p_co b_ n_ p_ = .inr r_ → rg b_ n_ T_ (.inr r_.1) S1_ ∧ ∀ l_ : List Int, l_.length = gl_ → stk (S0_.2.2.1 138 0) l_ → stk (S1_.2.2.1 138 0) (r_.2.1 :: l_)))
set_option maxHeartbeats 1500000 in
theorem vl_322 {sc_ : Nat × (Nat → Int)} (b_ : Nat → Int) (n_ : Nat) (T_ : Nat) (mo_ : Int) (p_ : Nat) (i_ : Nat) (gl_ : Nat) (S0_ : sm_S) (ht_ : rtab b_ n_ T_ S0_) (hf_ : (S0_.1 13 0 10) = 0) (hi_ : (S0_.1 13 0 9) = (i_ : Int) ∧ rp b_ n_ T_ i_ p_) (hv_ : (S0_.1 13 0 34) = (gl_ : Int) ∧ gl_ ≤ 1000) (hmo_ : (S0_.1 13 0 27) = mo_) (hw_ : (S0_.1 13 0 32) ≤ 800) (hk_ : lx_kd b_ n_ p_ = 2) (hm2_ : mo_ ≠ 2) (vp0_ : 0 ≤ lx_vl b_ n_ p_) : ∀ nn_ : Nat, (∀ (a_ : Int) (k_ : Int) (S_ : sm_S), gi S_ → ai_fr (sx_W vw_322) S0_ S_ → ((0 ≤ k_ ∧ k_ ≤ 8 ∧ 0 ≤ a_ ∧ a_ ≤ 1280) ∧ ((∀ e_, p_co b_ n_ p_ = .inl e_ → rwr mo_ e_ S_) ∧ (∀ r_, p_co b_ n_ p_ = .inr r_ → rg b_ n_ T_ (.inr r_.1) S_ ∧ ∀ l_ : List Int, l_.length = gl_ → stk (S0_.2.2.1 138 0) l_ → stk (S_.2.2.1 138 0) (r_.2.1 :: l_))) ∧ True) → ((8 - k_).toNat) < nn_ → sm_T (mt_P sc_) 4 322 (102, [some (.inr (.inr (some (13, 0)))), some (.inl a_), none, some (.inl k_)], [], S_) (fun r_ => ∃ u_ S1_, r_ = (.inl u_, S1_, 0) ∧ vq_322 b_ n_ T_ mo_ p_ i_ gl_ S0_ u_ S1_)) := by
  intro nn_
  induction nn_ with
  | zero => exact fun _ _ _ _ _ _ h_ => absurd h_ (Nat.not_lt_zero _)
  | succ nn_ ih_ =>
    rintro a_ k_ S_ hI_ hF_ ⟨h0_, h1_, -⟩ hm_
    refine sm_T_go 2 (c1 := (105, [some (.inr (.inr (some (13, 0)))), some (.inl a_), none, some (.inl k_)], [.inl 8, .inl k_], S_)) rfl ?_
    refine sm_T_br (a := 3) (z := 33) rfl (fun cx1_ => ?_) (fun cx1_ => ?_)
    · have cx1_ : 8 ≤ k_ := of_decide_eq_true cx1_
      refine sm_T_rv rfl ⟨_, _, rfl, rfl, hI_, hF_, ?_⟩
      exact h1_
    · have cx1_ : ¬ (8 ≤ k_) := of_decide_eq_false cx1_
      have bx2_ : 0 ≤ S_.1 13 0 34 ∧ S_.1 13 0 34 ≤ 1023 := hI_.1 13 0 34 rfl
      refine sm_T_go 5 (c1 := (118, [some (.inr (.inr (some (13, 0)))), some (.inl a_), none, some (.inl k_)], [.inl (S_.1 13 0 34), .inl 8, .inr (.inr (some (139, 0)))], S_)) rfl ?_
      refine sm_T_bin (w := 8 * (S_.1 13 0 34)) rfl (bi_mul (by omega) (by omega) (by omega)) ?_
      refine sm_T_go 1 (c1 := (120, [some (.inr (.inr (some (13, 0)))), some (.inl a_), none, some (.inl k_)], [.inl k_, .inl (8 * (S_.1 13 0 34)), .inr (.inr (some (139, 0)))], S_)) rfl ?_
      refine sm_T_bin (w := 8 * (S_.1 13 0 34) + k_) rfl (bi_add (by omega) (by omega) (by omega)) ?_
      refine sm_T_go 3 (c1 := (126, [some (.inr (.inr (some (13, 0)))), some (.inl a_), none, some (.inl k_)], [.inl a_, .inr (.inr (some (121, 0))), .inl (8 * (S_.1 13 0 34) + k_), .inr (.inr (some (139, 0)))], S_)) rfl ?_
      refine sm_T_iald (n := 65537) rfl rfl (by omega) (by omega) ?_
      have bx3_ : (-2147483648) ≤ S_.2.2.1 121 0 a_.toNat ∧ S_.2.2.1 121 0 a_.toNat ≤ 2147483647 := hI_.2 121 0 _
      refine sm_T_go 1 (c1 := (128, [some (.inr (.inr (some (13, 0)))), some (.inl a_), none, some (.inl k_)], [.inl k_, .inl (S_.2.2.1 121 0 a_.toNat), .inl (8 * (S_.1 13 0 34) + k_), .inr (.inr (some (139, 0)))], S_)) rfl ?_
      refine sm_T_bin (w := (i_shr (S_.2.2.1 121 0 a_.toNat) k_)) rfl rfl ?_
      refine sm_T_go 1 (c1 := (130, [some (.inr (.inr (some (13, 0)))), some (.inl a_), none, some (.inl k_)], [.inl 1, .inl (i_shr (S_.2.2.1 121 0 a_.toNat) k_), .inl (8 * (S_.1 13 0 34) + k_), .inr (.inr (some (139, 0)))], S_)) rfl ?_
      refine sm_T_bin (w := ((i_shr (S_.2.2.1 121 0 a_.toNat) k_) % 2)) rfl (bi_msk (k := 1) (by decide)) ?_
      refine sm_T_iast (n := 8192) rfl rfl (by omega) (by omega) ?_
      have hIx4_ : gi (sm_aI S_ 139 0 (8 * (S_.1 13 0 34) + k_).toNat ((i_shr (S_.2.2.1 121 0 a_.toNat) k_) % 2)) := gi_aI hI_ (show 0 ≤ ((i_shr (S_.2.2.1 121 0 a_.toNat) k_) % 2) ∧ ((i_shr (S_.2.2.1 121 0 a_.toNat) k_) % 2) ≤ 2047 from ⟨by omega, by omega⟩)
      have hFx5_ : ai_fr (sx_W vw_322) S0_ (sm_aI S_ 139 0 (8 * (S_.1 13 0 34) + k_).toNat ((i_shr (S_.2.2.1 121 0 a_.toNat) k_) % 2)) := ai_fr_tr hF_ (ai_fr_aI rfl)
      refine sm_T_inc (a := 3) (z := 1) (v := k_) (w := k_ + 1) rfl rfl (by omega) (by omega) (by omega) ?_
      refine sm_T_go 1 (c1 := (102, [some (.inr (.inr (some (13, 0)))), some (.inl a_), none, some (.inl (k_ + 1))], [], sm_aI S_ 139 0 (8 * (S_.1 13 0 34) + k_).toNat ((i_shr (S_.2.2.1 121 0 a_.toNat) k_) % 2))) rfl ?_
      refine ih_ a_ (k_ + 1) (sm_aI S_ 139 0 (8 * (S_.1 13 0 34) + k_).toNat ((i_shr (S_.2.2.1 121 0 a_.toNat) k_) % 2)) hIx4_ hFx5_ ⟨?_, ?_, trivial⟩ ?_
      · omega
      · exact ⟨h1_.1, fun r_ hr_ => ⟨(h1_.2 r_ hr_).1, fun l_ hl_ hs_ => stk_ot ((h1_.2 r_ hr_).2 l_ hl_ hs_) (by decide)⟩⟩
      · omega
set_option maxHeartbeats 1500000 in
theorem vc_322 {sc_ : Nat × (Nat → Int)} (b_ : Nat → Int) (n_ : Nat) (T_ : Nat) (mo_ : Int) (p_ : Nat) (i_ : Nat) (gl_ : Nat) (S0_ : sm_S) (hI_ : gi S0_) (ht_ : rtab b_ n_ T_ S0_) (hf_ : (S0_.1 13 0 10) = 0) (hi_ : (S0_.1 13 0 9) = (i_ : Int) ∧ rp b_ n_ T_ i_ p_) (hv_ : (S0_.1 13 0 34) = (gl_ : Int) ∧ gl_ ≤ 1000) (hmo_ : (S0_.1 13 0 27) = mo_) (hw_ : (S0_.1 13 0 32) ≤ 800) (hk_ : lx_kd b_ n_ p_ = 2) (hm2_ : mo_ ≠ 2) (vp0_ : 0 ≤ lx_vl b_ n_ p_) : sm_T (mt_P sc_) 4 322 (0, [some (.inr (.inr (some (13, 0)))), none, none, none], [], S0_) (fun r_ => ∃ u_ S1_, r_ = (.inl u_, S1_, 0) ∧ vq_322 b_ n_ T_ mo_ p_ i_ gl_ S0_ u_ S1_) := by
  have hF_ : ai_fr (sx_W vw_322) S0_ S0_ := ai_fr_rf
  have hx_ : rg b_ n_ T_ (.inr p_) S0_ := ⟨hf_, i_, hi_.1, hi_.2⟩
  have hi9_ := hi_.2.1
  have hT_ := ht_.2.1
  have rw9_ : ∀ e_ : Int × Nat, ∀ S9_ : sm_S, rg b_ n_ T_ (.inl e_) S9_ → S9_.1 13 0 32 = S0_.1 13 0 32 → S9_.1 13 0 27 = S0_.1 13 0 27 → rwr mo_ e_ S9_ := fun e_ S9_ q1_ q2_ q3_ => ⟨q1_.1, q1_.2.1, q1_.2.2, by rw [q2_]; exact hw_, q3_.trans hmo_⟩
  have bx1_ : 0 ≤ S0_.1 13 0 9 ∧ S0_.1 13 0 9 ≤ 1280 := hI_.1 13 0 9 rfl
  refine sm_T_go 4 (c1 := (6, [some (.inr (.inr (some (13, 0)))), some (.inl (S0_.1 13 0 9)), none, none], [.inr (.inr (some (13, 0)))], S0_)) rfl ?_
  refine sm_T_cal (d1 := 2) (Q1 := vq_297 b_ n_ T_ (.inr p_) S0_) rfl rfl (by decide) (vc_297 b_ n_ T_ (.inr p_) S0_ hI_ (by exact ht_) (by exact hx_) (by (intro q_ e_; cases e_; omega))) (fun u_ Sx2_ px5_ => ?_)
  obtain ⟨rfl, hIx3_, hFx4_, px5_⟩ := px5_
  have hFx6_ : ai_fr (sx_W vw_322) S0_ Sx2_ := ai_fr_tr hF_ (fr_le hFx4_ rfl)
  have g6_ := px5_.1
  have t6_ := rtab_fr ht_ hFx4_ rfl rfl rfl rfl rfl
  have w6_ : Sx2_.2.2.1 138 0 = S0_.2.2.1 138 0 := fr_arr hFx4_ rfl
  refine sm_T_go 2 (c1 := (12, [some (.inr (.inr (some (13, 0)))), some (.inl (S0_.1 13 0 9)), none, none], [.inl 64, .inr (.inr (some (13, 0)))], Sx2_)) rfl ?_
  refine sm_T_cal (d1 := 3) (Q1 := vq_300 64 b_ n_ T_ (pb (.inr p_) (p_ad b_ n_)) Sx2_) rfl rfl (by decide) (vc_300 64 b_ n_ T_ (pb (.inr p_) (p_ad b_ n_)) Sx2_ hIx3_ (by exact t6_) (by exact g6_) (by decide)) (fun u_ Sx7_ px10_ => ?_)
  obtain ⟨rfl, hIx8_, hFx9_, px10_⟩ := px10_
  have hFx11_ : ai_fr (sx_W vw_322) S0_ Sx7_ := ai_fr_tr hFx6_ (fr_le hFx9_ rfl)
  have g12_ := px10_
  have t12_ := rtab_fr t6_ hFx9_ rfl rfl rfl rfl rfl
  have w12_ := (fr_arr (t := 138) (i := 0) hFx9_ rfl).trans w6_
  refine sm_T_go 2 (c1 := (17, [some (.inr (.inr (some (13, 0)))), some (.inl (S0_.1 13 0 9)), none, none], [.inl 2, .inr (.inr (some (13, 0)))], Sx7_)) rfl ?_
  refine sm_T_cal (d1 := 1) (Q1 := vq_299 2 b_ n_ T_ (pb (pb (.inr p_) (p_ad b_ n_)) (p_nd b_ n_ 64)) Sx7_) rfl rfl (by decide) (vc_299 2 b_ n_ T_ (pb (pb (.inr p_) (p_ad b_ n_)) (p_nd b_ n_ 64)) Sx7_ hIx8_ (by exact t12_) (by exact g12_) (by decide)) (fun u_ Sx12_ px15_ => ?_)
  obtain ⟨vx17_, rfl, hIx13_, hFx14_, px15_⟩ := px15_
  have hFx16_ : ai_fr (sx_W vw_322) S0_ Sx12_ := ai_fr_tr hFx11_ (fr_le hFx14_ rfl)
  have a17_ := px15_.1
  have g17_ : rg b_ n_ T_ (p_c3 b_ n_ p_) Sx12_ := px15_.2
  have t17_ := rtab_fr t12_ hFx14_ rfl rfl rfl rfl rfl
  have at17_ := hFx14_.1 13 0 9 rfl
  have w17_ := (fr_arr (t := 138) (i := 0) hFx14_ rfl).trans w12_
  have v17b : 0 ≤ vx17_ ∧ vx17_ ≤ 1280 := by rw [a17_, ← at17_]; exact hIx13_.1 13 0 9 rfl
  have nv17_ : ∀ r_ i3_ : Nat, Sx12_.1 13 0 9 = (i3_ : Int) → rp b_ n_ T_ i3_ r_ → lx_kd b_ n_ r_ = 2 → Sx12_.2.2.1 121 0 vx17_.toNat = lx_vl b_ n_ r_ ∧ Sx12_.2.2.1 120 0 vx17_.toNat = (r_ : Int) ∧ Sx12_.2.2.1 119 0 vx17_.toNat ≠ 4 := by intro r_ i3_ q1_ q2_ q3_; have q4_ := rp_at t17_ q2_; rw [show vx17_.toNat = i3_ by omega, q4_.1, q4_.2.1, q4_.2.2.1, q3_]; exact ⟨rfl, rfl, by decide⟩
  refine sm_T_go 2 (c1 := (22, [some (.inr (.inr (some (13, 0)))), some (.inl (S0_.1 13 0 9)), some (.inl vx17_), none], [.inr (.inr (some (13, 0)))], Sx12_)) rfl ?_
  refine sm_T_cal (d1 := 0) (Q1 := vq_292  Sx12_) rfl rfl (by decide) (vc_292  Sx12_ hIx13_ ) (fun u_ Sx18_ px21_ => ?_)
  obtain ⟨rfl, vx23_, rfl, px21_⟩ := px21_
  have e22_ := px21_
  refine sm_T_b0 (a := 0) (z := 25) rfl (fun cx24_ => ?_) (fun cx24_ => ?_)
  · have cx24_ : vx23_ = 0 := of_decide_eq_true cx24_
    obtain ⟨e3_, he3_⟩ := rg_w g17_ (wr_if e22_ (by omega))
    have cw3_ := c3_w he3_
    rw [he3_] at g17_
    obtain ⟨x4_, hx4_, hx4b⟩ : ∃ x4_ : pE Nat, rg b_ n_ T_ x4_ _ ∧ x4_ = .inl e3_ := ⟨_, g17_, rfl⟩
    have t50_ := t17_
    have w50_ := w17_
    refine sm_T_go 1 (c1 := (51, [some (.inr (.inr (some (13, 0)))), some (.inl (S0_.1 13 0 9)), some (.inl vx17_), none], [.inr (.inr (some (13, 0)))], Sx12_)) rfl ?_
    refine sm_T_cal (d1 := 2) (Q1 := vq_297 b_ n_ T_ x4_ Sx12_) rfl rfl (by decide) (vc_297 b_ n_ T_ x4_ Sx12_ hIx13_ (by exact t50_) (by exact hx4_) (by (intro q_ e_; rw [hx4b] at e_; first | (cases e_; done) | (cases e_; rw [cr.1]; decide)))) (fun u_ Sx25_ px28_ => ?_)
    obtain ⟨rfl, hIx26_, hFx27_, px28_⟩ := px28_
    have hFx29_ : ai_fr (sx_W vw_322) S0_ Sx25_ := ai_fr_tr hFx16_ (fr_le hFx27_ rfl)
    have g51_ := px28_.1
    have t51_ := rtab_fr t50_ hFx27_ rfl rfl rfl rfl rfl
    have na51_ : Sx25_.2.2.1 121 0 (S0_.1 13 0 9).toNat = lx_vl b_ n_ p_ := by rw [show (S0_.1 13 0 9).toNat = i_ by omega, (rp_at t51_ hi_.2).2.2.1, hk_]; rfl
    have pa51_ : Sx25_.2.2.1 120 0 (S0_.1 13 0 9).toNat = (p_ : Int) := by rw [show (S0_.1 13 0 9).toNat = i_ by omega]; exact (rp_at t51_ hi_.2).2.1
    have nn51_ := fr_arr (t := 121) (i := 0) hFx27_ rfl
    have vl51_ : Sx25_.1 13 0 34 = (gl_ : Int) := (hFx29_.1 13 0 34 rfl).trans hv_.1
    have w51_ := (fr_arr (t := 138) (i := 0) hFx27_ rfl).trans w50_
    refine sm_T_go 1 (c1 := (55, [some (.inr (.inr (some (13, 0)))), some (.inl (S0_.1 13 0 9)), some (.inl vx17_), none], [.inr (.inr (some (13, 0)))], Sx25_)) rfl ?_
    refine sm_T_cal (d1 := 0) (Q1 := vq_292  Sx25_) rfl rfl (by decide) (vc_292  Sx25_ hIx26_ ) (fun u_ Sx30_ px33_ => ?_)
    obtain ⟨rfl, vx35_, rfl, px33_⟩ := px33_
    have e55_ := px33_
    refine sm_T_b0 (a := 0) (z := 27) rfl (fun cx36_ => ?_) (fun cx36_ => ?_)
    · have cx36_ : vx35_ = 0 := of_decide_eq_true cx36_
      have hz5_ := wr_if e55_ (by omega)
      have bx37_ : 0 ≤ Sx25_.1 13 0 34 ∧ Sx25_.1 13 0 34 ≤ 1023 := hIx26_.1 13 0 34 rfl
      refine sm_T_go 7 (c1 := (98, [some (.inr (.inr (some (13, 0)))), some (.inl (S0_.1 13 0 9)), some (.inl vx17_), none], [.inl vx17_, .inr (.inr (some (121, 0))), .inl (Sx25_.1 13 0 34), .inr (.inr (some (138, 0)))], Sx25_)) rfl ?_
      refine sm_T_iald (n := 65537) rfl rfl (by omega) (by omega) ?_
      have bx38_ : (-2147483648) ≤ Sx25_.2.2.1 121 0 vx17_.toNat ∧ Sx25_.2.2.1 121 0 vx17_.toNat ≤ 2147483647 := hIx26_.2 121 0 _
      refine sm_T_iast (n := 1024) rfl rfl (by omega) (by omega) ?_
      have hIx39_ : gi (sm_aI Sx25_ 138 0 (Sx25_.1 13 0 34).toNat (Sx25_.2.2.1 121 0 vx17_.toNat)) := gi_aI hIx26_ (show (-2147483648) ≤ (Sx25_.2.2.1 121 0 vx17_.toNat) ∧ (Sx25_.2.2.1 121 0 vx17_.toNat) ≤ 2147483647 from ⟨by omega, by omega⟩)
      have hFx40_ : ai_fr (sx_W vw_322) S0_ (sm_aI Sx25_ 138 0 (Sx25_.1 13 0 34).toNat (Sx25_.2.2.1 121 0 vx17_.toNat)) := ai_fr_tr hFx29_ (ai_fr_aI rfl)
      refine sm_T_go 2 (c1 := (102, [some (.inr (.inr (some (13, 0)))), some (.inl (S0_.1 13 0 9)), some (.inl vx17_), some (.inl 0)], [], sm_aI Sx25_ 138 0 (Sx25_.1 13 0 34).toNat (Sx25_.2.2.1 121 0 vx17_.toNat))) rfl ?_
      refine sm_T_wk [some (.inr (.inr (some (13, 0)))), some (.inl (S0_.1 13 0 9)), none, some (.inl 0)] (by exact ⟨rfl, rfl, rfl, trivial⟩) ?_
      refine (vl_322 b_ n_ T_ mo_ p_ i_ gl_ S0_ ht_ hf_ hi_ hv_ hmo_ hw_ hk_ hm2_ vp0_ _) (S0_.1 13 0 9) 0 (sm_aI Sx25_ 138 0 (Sx25_.1 13 0 34).toNat (Sx25_.2.2.1 121 0 vx17_.toNat)) hIx39_ hFx40_ ⟨?_, ?_, trivial⟩ (Nat.lt_succ_self _)
      · omega
      · first | (have g52_ := g51_; rw [hx4b] at g52_; first | (exfalso; exact g52_.2.2 (g52_.1.symm.trans hz5_)) | (refine ⟨fun e_ he_ => ?_, fun r9_ hr_ => ?_⟩; (first | (rw [cw3_] at he_; cases he_; exact rw9_ _ _ g52_ (hFx40_.1 13 0 32 rfl) (hFx40_.1 13 0 27 rfl)) | (rw [crv_] at he_; cases he_; exact rw9_ _ _ g52_ (hFx40_.1 13 0 32 rfl) (hFx40_.1 13 0 27 rfl))); (first | (rw [cw3_] at hr_; cases hr_) | (rw [crv_] at hr_; cases hr_)))) | (obtain ⟨u5_, i5_, hu5_, e51_, e52_⟩ := rg_r g51_ hz5_; rw [hx4b, pb_r rfl] at hu5_; have nv51_ := (congrFun nn51_ _).trans nv_.1; have sg_ := shl_ge (x_ := lx_vl b_ n_ p_) (w_ := lx_vl b_ n_ r_) vp0_ hin_; rw [na51_, nv51_] at cx36_; first | (have hp5_ : p_co b_ n_ p_ = .inl (12, p_) := (by rw [crv_, hu5_, pb_r rfl, if_neg (sg_.mp (by omega))]); have g82_ : rg b_ n_ T_ (.inl (12, p_)) _ := (by rcases e82_ with z_ | z_; (exact absurd hz5_ z_.1); (exact ⟨z_.2.1, z_.2.2.trans pa51_, by show (12 : Int) ≠ 0; decide⟩)); refine ⟨fun e_ he_ => ?_, fun r9_ hr_ => ?_⟩; (rw [hp5_] at he_; cases he_; exact rw9_ _ _ g82_ (hFx40_.1 13 0 32 rfl) (hFx40_.1 13 0 27 rfl)); (rw [hp5_] at hr_; cases hr_)) | (have hp5_ : p_co b_ n_ p_ = .inr (u5_, lx_vl b_ n_ r_, [cw 8 (lx_vl b_ n_ r_) (lx_vl b_ n_ p_)]) := (by rw [crv_, hu5_, pb_r rfl, if_pos (by by_cases q_ : lx_vl b_ n_ p_ / 2 ^ (lx_vl b_ n_ r_).toNat = 0; exact q_; (have := sg_.mpr q_; omega))]); refine ⟨fun e_ he_ => ?_, fun r9_ hr_ => ?_⟩; (rw [hp5_] at he_; cases he_); (rw [hp5_] at hr_; cases hr_; refine ⟨⟨hz5_, i5_, e51_, e52_⟩, fun l_ hl_ hs_ => ?_⟩; refine stk_pu (by omega) nv51_ ?_; rw [w51_]; exact hs_))) | (obtain ⟨e5_, he5_⟩ := rg_w g51_ hz5_; have g52_ := g51_; rw [he5_] at g52_; have hp5_ : p_co b_ n_ p_ = .inl e5_ := (by rw [crv_]; rw [hx4b, pb_r rfl] at he5_; rw [he5_]; rfl); refine ⟨fun e_ he_ => ?_, fun r9_ hr_ => ?_⟩; (rw [hp5_] at he_; cases he_; exact rw9_ _ _ g52_ (hFx40_.1 13 0 32 rfl) (hFx40_.1 13 0 27 rfl)); (rw [hp5_] at hr_; cases hr_))
    · have cx36_ : ¬ (vx35_ = 0) := of_decide_eq_false cx36_
      have hz5_ := rt_if e55_ (by omega)
      refine sm_T_go 3 (c1 := (66, [some (.inr (.inr (some (13, 0)))), some (.inl (S0_.1 13 0 9)), some (.inl vx17_), none], [.inl (S0_.1 13 0 9), .inr (.inr (some (121, 0)))], Sx25_)) rfl ?_
      refine sm_T_iald (n := 65537) rfl rfl (by omega) (by omega) ?_
      have bx41_ : (-2147483648) ≤ Sx25_.2.2.1 121 0 (S0_.1 13 0 9).toNat ∧ Sx25_.2.2.1 121 0 (S0_.1 13 0 9).toNat ≤ 2147483647 := hIx26_.2 121 0 _
      refine sm_T_go 4 (c1 := (73, [some (.inr (.inr (some (13, 0)))), some (.inl (S0_.1 13 0 9)), some (.inl vx17_), none], [.inl vx17_, .inr (.inr (some (121, 0))), .inl 1, .inl (Sx25_.2.2.1 121 0 (S0_.1 13 0 9).toNat)], Sx25_)) rfl ?_
      refine sm_T_iald (n := 65537) rfl rfl (by omega) (by omega) ?_
      have bx42_ : (-2147483648) ≤ Sx25_.2.2.1 121 0 vx17_.toNat ∧ Sx25_.2.2.1 121 0 vx17_.toNat ≤ 2147483647 := hIx26_.2 121 0 _
      refine sm_T_bin (w := (i_shl 1 (Sx25_.2.2.1 121 0 vx17_.toNat))) rfl rfl ?_
      refine sm_T_br (a := 2) (z := 10) rfl (fun cx43_ => ?_) (fun cx43_ => ?_)
      · have cx43_ : (Sx25_.2.2.1 121 0 (S0_.1 13 0 9).toNat) < (i_shl 1 (Sx25_.2.2.1 121 0 vx17_.toNat)) := of_decide_eq_true cx43_
        have bx44_ : 0 ≤ Sx25_.1 13 0 34 ∧ Sx25_.1 13 0 34 ≤ 1023 := hIx26_.1 13 0 34 rfl
        refine sm_T_go 7 (c1 := (98, [some (.inr (.inr (some (13, 0)))), some (.inl (S0_.1 13 0 9)), some (.inl vx17_), none], [.inl vx17_, .inr (.inr (some (121, 0))), .inl (Sx25_.1 13 0 34), .inr (.inr (some (138, 0)))], Sx25_)) rfl ?_
        refine sm_T_iald (n := 65537) rfl rfl (by omega) (by omega) ?_
        refine sm_T_iast (n := 1024) rfl rfl (by omega) (by omega) ?_
        have hIx45_ : gi (sm_aI Sx25_ 138 0 (Sx25_.1 13 0 34).toNat (Sx25_.2.2.1 121 0 vx17_.toNat)) := gi_aI hIx26_ (show (-2147483648) ≤ (Sx25_.2.2.1 121 0 vx17_.toNat) ∧ (Sx25_.2.2.1 121 0 vx17_.toNat) ≤ 2147483647 from ⟨by omega, by omega⟩)
        have hFx46_ : ai_fr (sx_W vw_322) S0_ (sm_aI Sx25_ 138 0 (Sx25_.1 13 0 34).toNat (Sx25_.2.2.1 121 0 vx17_.toNat)) := ai_fr_tr hFx29_ (ai_fr_aI rfl)
        refine sm_T_go 2 (c1 := (102, [some (.inr (.inr (some (13, 0)))), some (.inl (S0_.1 13 0 9)), some (.inl vx17_), some (.inl 0)], [], sm_aI Sx25_ 138 0 (Sx25_.1 13 0 34).toNat (Sx25_.2.2.1 121 0 vx17_.toNat))) rfl ?_
        refine sm_T_wk [some (.inr (.inr (some (13, 0)))), some (.inl (S0_.1 13 0 9)), none, some (.inl 0)] (by exact ⟨rfl, rfl, rfl, trivial⟩) ?_
        refine (vl_322 b_ n_ T_ mo_ p_ i_ gl_ S0_ ht_ hf_ hi_ hv_ hmo_ hw_ hk_ hm2_ vp0_ _) (S0_.1 13 0 9) 0 (sm_aI Sx25_ 138 0 (Sx25_.1 13 0 34).toNat (Sx25_.2.2.1 121 0 vx17_.toNat)) hIx45_ hFx46_ ⟨?_, ?_, trivial⟩ (Nat.lt_succ_self _)
        · omega
        · first | (have g52_ := g51_; rw [hx4b] at g52_; first | (exfalso; exact g52_.2.2 (g52_.1.symm.trans hz5_)) | (refine ⟨fun e_ he_ => ?_, fun r9_ hr_ => ?_⟩; (first | (rw [cw3_] at he_; cases he_; exact rw9_ _ _ g52_ (hFx46_.1 13 0 32 rfl) (hFx46_.1 13 0 27 rfl)) | (rw [crv_] at he_; cases he_; exact rw9_ _ _ g52_ (hFx46_.1 13 0 32 rfl) (hFx46_.1 13 0 27 rfl))); (first | (rw [cw3_] at hr_; cases hr_) | (rw [crv_] at hr_; cases hr_)))) | (obtain ⟨u5_, i5_, hu5_, e51_, e52_⟩ := rg_r g51_ hz5_; rw [hx4b, pb_r rfl] at hu5_; have nv51_ := (congrFun nn51_ _).trans nv_.1; have sg_ := shl_ge (x_ := lx_vl b_ n_ p_) (w_ := lx_vl b_ n_ r_) vp0_ hin_; rw [na51_, nv51_] at cx43_; first | (have hp5_ : p_co b_ n_ p_ = .inl (12, p_) := (by rw [crv_, hu5_, pb_r rfl, if_neg (sg_.mp (by omega))]); have g82_ : rg b_ n_ T_ (.inl (12, p_)) _ := (by rcases e82_ with z_ | z_; (exact absurd hz5_ z_.1); (exact ⟨z_.2.1, z_.2.2.trans pa51_, by show (12 : Int) ≠ 0; decide⟩)); refine ⟨fun e_ he_ => ?_, fun r9_ hr_ => ?_⟩; (rw [hp5_] at he_; cases he_; exact rw9_ _ _ g82_ (hFx46_.1 13 0 32 rfl) (hFx46_.1 13 0 27 rfl)); (rw [hp5_] at hr_; cases hr_)) | (have hp5_ : p_co b_ n_ p_ = .inr (u5_, lx_vl b_ n_ r_, [cw 8 (lx_vl b_ n_ r_) (lx_vl b_ n_ p_)]) := (by rw [crv_, hu5_, pb_r rfl, if_pos (by by_cases q_ : lx_vl b_ n_ p_ / 2 ^ (lx_vl b_ n_ r_).toNat = 0; exact q_; (have := sg_.mpr q_; omega))]); refine ⟨fun e_ he_ => ?_, fun r9_ hr_ => ?_⟩; (rw [hp5_] at he_; cases he_); (rw [hp5_] at hr_; cases hr_; refine ⟨⟨hz5_, i5_, e51_, e52_⟩, fun l_ hl_ hs_ => ?_⟩; refine stk_pu (by omega) nv51_ ?_; rw [w51_]; exact hs_))) | (obtain ⟨e5_, he5_⟩ := rg_w g51_ hz5_; have g52_ := g51_; rw [he5_] at g52_; have hp5_ : p_co b_ n_ p_ = .inl e5_ := (by rw [crv_]; rw [hx4b, pb_r rfl] at he5_; rw [he5_]; rfl); refine ⟨fun e_ he_ => ?_, fun r9_ hr_ => ?_⟩; (rw [hp5_] at he_; cases he_; exact rw9_ _ _ g52_ (hFx46_.1 13 0 32 rfl) (hFx46_.1 13 0 27 rfl)); (rw [hp5_] at hr_; cases hr_))
      · have cx43_ : ¬ ((Sx25_.2.2.1 121 0 (S0_.1 13 0 9).toNat) < (i_shl 1 (Sx25_.2.2.1 121 0 vx17_.toNat))) := of_decide_eq_false cx43_
        refine sm_T_go 3 (c1 := (82, [some (.inr (.inr (some (13, 0)))), some (.inl (S0_.1 13 0 9)), some (.inl vx17_), none], [.inl (S0_.1 13 0 9), .inl 12, .inr (.inr (some (13, 0)))], Sx25_)) rfl ?_
        refine sm_T_cal (d1 := 0) (Q1 := vq_294 12 (S0_.1 13 0 9) Sx25_) rfl rfl (by decide) (vc_294 12 (S0_.1 13 0 9) Sx25_ hIx26_ (by decide) (by omega)) (fun u_ Sx47_ px50_ => ?_)
        obtain ⟨rfl, hIx48_, hFx49_, px50_⟩ := px50_
        have hFx51_ : ai_fr (sx_W vw_322) S0_ Sx47_ := ai_fr_tr hFx29_ (fr_le hFx49_ rfl)
        have e82_ := px50_
        have w82_ := (fr_arr (t := 138) (i := 0) hFx49_ rfl).trans w51_
        have vl82_ : Sx47_.1 13 0 34 = (gl_ : Int) := (hFx51_.1 13 0 34 rfl).trans hv_.1
        have bx52_ : 0 ≤ Sx47_.1 13 0 34 ∧ Sx47_.1 13 0 34 ≤ 1023 := hIx48_.1 13 0 34 rfl
        refine sm_T_go 7 (c1 := (98, [some (.inr (.inr (some (13, 0)))), some (.inl (S0_.1 13 0 9)), some (.inl vx17_), none], [.inl vx17_, .inr (.inr (some (121, 0))), .inl (Sx47_.1 13 0 34), .inr (.inr (some (138, 0)))], Sx47_)) rfl ?_
        refine sm_T_iald (n := 65537) rfl rfl (by omega) (by omega) ?_
        have bx53_ : (-2147483648) ≤ Sx47_.2.2.1 121 0 vx17_.toNat ∧ Sx47_.2.2.1 121 0 vx17_.toNat ≤ 2147483647 := hIx48_.2 121 0 _
        refine sm_T_iast (n := 1024) rfl rfl (by omega) (by omega) ?_
        have hIx54_ : gi (sm_aI Sx47_ 138 0 (Sx47_.1 13 0 34).toNat (Sx47_.2.2.1 121 0 vx17_.toNat)) := gi_aI hIx48_ (show (-2147483648) ≤ (Sx47_.2.2.1 121 0 vx17_.toNat) ∧ (Sx47_.2.2.1 121 0 vx17_.toNat) ≤ 2147483647 from ⟨by omega, by omega⟩)
        have hFx55_ : ai_fr (sx_W vw_322) S0_ (sm_aI Sx47_ 138 0 (Sx47_.1 13 0 34).toNat (Sx47_.2.2.1 121 0 vx17_.toNat)) := ai_fr_tr hFx51_ (ai_fr_aI rfl)
        refine sm_T_go 2 (c1 := (102, [some (.inr (.inr (some (13, 0)))), some (.inl (S0_.1 13 0 9)), some (.inl vx17_), some (.inl 0)], [], sm_aI Sx47_ 138 0 (Sx47_.1 13 0 34).toNat (Sx47_.2.2.1 121 0 vx17_.toNat))) rfl ?_
        refine sm_T_wk [some (.inr (.inr (some (13, 0)))), some (.inl (S0_.1 13 0 9)), none, some (.inl 0)] (by exact ⟨rfl, rfl, rfl, trivial⟩) ?_
        refine (vl_322 b_ n_ T_ mo_ p_ i_ gl_ S0_ ht_ hf_ hi_ hv_ hmo_ hw_ hk_ hm2_ vp0_ _) (S0_.1 13 0 9) 0 (sm_aI Sx47_ 138 0 (Sx47_.1 13 0 34).toNat (Sx47_.2.2.1 121 0 vx17_.toNat)) hIx54_ hFx55_ ⟨?_, ?_, trivial⟩ (Nat.lt_succ_self _)
        · omega
        · first | (have g52_ := g51_; rw [hx4b] at g52_; first | (exfalso; exact g52_.2.2 (g52_.1.symm.trans hz5_)) | (refine ⟨fun e_ he_ => ?_, fun r9_ hr_ => ?_⟩; (first | (rw [cw3_] at he_; cases he_; exact rw9_ _ _ g52_ (hFx55_.1 13 0 32 rfl) (hFx55_.1 13 0 27 rfl)) | (rw [crv_] at he_; cases he_; exact rw9_ _ _ g52_ (hFx55_.1 13 0 32 rfl) (hFx55_.1 13 0 27 rfl))); (first | (rw [cw3_] at hr_; cases hr_) | (rw [crv_] at hr_; cases hr_)))) | (obtain ⟨u5_, i5_, hu5_, e51_, e52_⟩ := rg_r g51_ hz5_; rw [hx4b, pb_r rfl] at hu5_; have nv51_ := (congrFun nn51_ _).trans nv_.1; have sg_ := shl_ge (x_ := lx_vl b_ n_ p_) (w_ := lx_vl b_ n_ r_) vp0_ hin_; rw [na51_, nv51_] at cx43_; first | (have hp5_ : p_co b_ n_ p_ = .inl (12, p_) := (by rw [crv_, hu5_, pb_r rfl, if_neg (sg_.mp (by omega))]); have g82_ : rg b_ n_ T_ (.inl (12, p_)) _ := (by rcases e82_ with z_ | z_; (exact absurd hz5_ z_.1); (exact ⟨z_.2.1, z_.2.2.trans pa51_, by show (12 : Int) ≠ 0; decide⟩)); refine ⟨fun e_ he_ => ?_, fun r9_ hr_ => ?_⟩; (rw [hp5_] at he_; cases he_; exact rw9_ _ _ g82_ (hFx55_.1 13 0 32 rfl) (hFx55_.1 13 0 27 rfl)); (rw [hp5_] at hr_; cases hr_)) | (have hp5_ : p_co b_ n_ p_ = .inr (u5_, lx_vl b_ n_ r_, [cw 8 (lx_vl b_ n_ r_) (lx_vl b_ n_ p_)]) := (by rw [crv_, hu5_, pb_r rfl, if_pos (by by_cases q_ : lx_vl b_ n_ p_ / 2 ^ (lx_vl b_ n_ r_).toNat = 0; exact q_; (have := sg_.mpr q_; omega))]); refine ⟨fun e_ he_ => ?_, fun r9_ hr_ => ?_⟩; (rw [hp5_] at he_; cases he_); (rw [hp5_] at hr_; cases hr_; refine ⟨⟨hz5_, i5_, e51_, e52_⟩, fun l_ hl_ hs_ => ?_⟩; refine stk_pu (by omega) nv51_ ?_; rw [w51_]; exact hs_))) | (obtain ⟨e5_, he5_⟩ := rg_w g51_ hz5_; have g52_ := g51_; rw [he5_] at g52_; have hp5_ : p_co b_ n_ p_ = .inl e5_ := (by rw [crv_]; rw [hx4b, pb_r rfl] at he5_; rw [he5_]; rfl); refine ⟨fun e_ he_ => ?_, fun r9_ hr_ => ?_⟩; (rw [hp5_] at he_; cases he_; exact rw9_ _ _ g52_ (hFx55_.1 13 0 32 rfl) (hFx55_.1 13 0 27 rfl)); (rw [hp5_] at hr_; cases hr_))
  · have cx24_ : ¬ (vx23_ = 0) := of_decide_eq_false cx24_
    have hz_ := rt_if e22_ (by omega)
    obtain ⟨r_, i3_, hr3_, e31_, e32_⟩ := rg_r g17_ hz_
    have cr := c3_r hr3_
    have nv_ := nv17_ r_ i3_ e31_ e32_ cr.1
    refine sm_T_go 3 (c1 := (33, [some (.inr (.inr (some (13, 0)))), some (.inl (S0_.1 13 0 9)), some (.inl vx17_), none], [.inl vx17_, .inr (.inr (some (121, 0)))], Sx12_)) rfl ?_
    refine sm_T_iald (n := 65537) rfl rfl (by omega) (by omega) ?_
    have bx56_ : (-2147483648) ≤ Sx12_.2.2.1 121 0 vx17_.toNat ∧ Sx12_.2.2.1 121 0 vx17_.toNat ≤ 2147483647 := hIx13_.2 121 0 _
    refine sm_T_go 2 (c1 := (37, [some (.inr (.inr (some (13, 0)))), some (.inl (S0_.1 13 0 9)), some (.inl vx17_), none], [.inl 8, .inl 1, .inl (Sx12_.2.2.1 121 0 vx17_.toNat)], Sx12_)) rfl ?_
    refine sm_T_cal (d1 := 0) (Q1 := vq_278 (Sx12_.2.2.1 121 0 vx17_.toNat) 1 8 Sx12_) rfl rfl (by decide) (vc_278 (Sx12_.2.2.1 121 0 vx17_.toNat) 1 8 Sx12_ hIx13_ ) (fun u_ Sx57_ px60_ => ?_)
    obtain ⟨rfl, vx62_, rfl, px60_⟩ := px60_
    have e37_ := px60_
    refine sm_T_b0 (a := 1) (z := 10) rfl (fun cx63_ => ?_) (fun cx63_ => ?_)
    · have cx63_ : vx62_ ≠ 0 := of_decide_eq_true cx63_
      have hin_ : 1 ≤ lx_vl b_ n_ r_ ∧ lx_vl b_ n_ r_ ≤ 8 := by have := e37_.2.mp (by omega); omega
      rw [hr3_] at g17_
      obtain ⟨x4_, hx4_, hx4b⟩ : ∃ x4_ : pE Nat, rg b_ n_ T_ x4_ _ ∧ x4_ = .inr r_ := ⟨_, g17_, rfl⟩
      have t50_ := t17_
      have w50_ := w17_
      have crv_ := cr.2
      rw [if_neg (by omega)] at crv_
      refine sm_T_go 1 (c1 := (51, [some (.inr (.inr (some (13, 0)))), some (.inl (S0_.1 13 0 9)), some (.inl vx17_), none], [.inr (.inr (some (13, 0)))], Sx12_)) rfl ?_
      refine sm_T_cal (d1 := 2) (Q1 := vq_297 b_ n_ T_ x4_ Sx12_) rfl rfl (by decide) (vc_297 b_ n_ T_ x4_ Sx12_ hIx13_ (by exact t50_) (by exact hx4_) (by (intro q_ e_; rw [hx4b] at e_; first | (cases e_; done) | (cases e_; rw [cr.1]; decide)))) (fun u_ Sx64_ px67_ => ?_)
      obtain ⟨rfl, hIx65_, hFx66_, px67_⟩ := px67_
      have hFx68_ : ai_fr (sx_W vw_322) S0_ Sx64_ := ai_fr_tr hFx16_ (fr_le hFx66_ rfl)
      have g51_ := px67_.1
      have t51_ := rtab_fr t50_ hFx66_ rfl rfl rfl rfl rfl
      have na51_ : Sx64_.2.2.1 121 0 (S0_.1 13 0 9).toNat = lx_vl b_ n_ p_ := by rw [show (S0_.1 13 0 9).toNat = i_ by omega, (rp_at t51_ hi_.2).2.2.1, hk_]; rfl
      have pa51_ : Sx64_.2.2.1 120 0 (S0_.1 13 0 9).toNat = (p_ : Int) := by rw [show (S0_.1 13 0 9).toNat = i_ by omega]; exact (rp_at t51_ hi_.2).2.1
      have nn51_ := fr_arr (t := 121) (i := 0) hFx66_ rfl
      have vl51_ : Sx64_.1 13 0 34 = (gl_ : Int) := (hFx68_.1 13 0 34 rfl).trans hv_.1
      have w51_ := (fr_arr (t := 138) (i := 0) hFx66_ rfl).trans w50_
      refine sm_T_go 1 (c1 := (55, [some (.inr (.inr (some (13, 0)))), some (.inl (S0_.1 13 0 9)), some (.inl vx17_), none], [.inr (.inr (some (13, 0)))], Sx64_)) rfl ?_
      refine sm_T_cal (d1 := 0) (Q1 := vq_292  Sx64_) rfl rfl (by decide) (vc_292  Sx64_ hIx65_ ) (fun u_ Sx69_ px72_ => ?_)
      obtain ⟨rfl, vx74_, rfl, px72_⟩ := px72_
      have e55_ := px72_
      refine sm_T_b0 (a := 0) (z := 27) rfl (fun cx75_ => ?_) (fun cx75_ => ?_)
      · have cx75_ : vx74_ = 0 := of_decide_eq_true cx75_
        have hz5_ := wr_if e55_ (by omega)
        have bx76_ : 0 ≤ Sx64_.1 13 0 34 ∧ Sx64_.1 13 0 34 ≤ 1023 := hIx65_.1 13 0 34 rfl
        refine sm_T_go 7 (c1 := (98, [some (.inr (.inr (some (13, 0)))), some (.inl (S0_.1 13 0 9)), some (.inl vx17_), none], [.inl vx17_, .inr (.inr (some (121, 0))), .inl (Sx64_.1 13 0 34), .inr (.inr (some (138, 0)))], Sx64_)) rfl ?_
        refine sm_T_iald (n := 65537) rfl rfl (by omega) (by omega) ?_
        have bx77_ : (-2147483648) ≤ Sx64_.2.2.1 121 0 vx17_.toNat ∧ Sx64_.2.2.1 121 0 vx17_.toNat ≤ 2147483647 := hIx65_.2 121 0 _
        refine sm_T_iast (n := 1024) rfl rfl (by omega) (by omega) ?_
        have hIx78_ : gi (sm_aI Sx64_ 138 0 (Sx64_.1 13 0 34).toNat (Sx64_.2.2.1 121 0 vx17_.toNat)) := gi_aI hIx65_ (show (-2147483648) ≤ (Sx64_.2.2.1 121 0 vx17_.toNat) ∧ (Sx64_.2.2.1 121 0 vx17_.toNat) ≤ 2147483647 from ⟨by omega, by omega⟩)
        have hFx79_ : ai_fr (sx_W vw_322) S0_ (sm_aI Sx64_ 138 0 (Sx64_.1 13 0 34).toNat (Sx64_.2.2.1 121 0 vx17_.toNat)) := ai_fr_tr hFx68_ (ai_fr_aI rfl)
        refine sm_T_go 2 (c1 := (102, [some (.inr (.inr (some (13, 0)))), some (.inl (S0_.1 13 0 9)), some (.inl vx17_), some (.inl 0)], [], sm_aI Sx64_ 138 0 (Sx64_.1 13 0 34).toNat (Sx64_.2.2.1 121 0 vx17_.toNat))) rfl ?_
        refine sm_T_wk [some (.inr (.inr (some (13, 0)))), some (.inl (S0_.1 13 0 9)), none, some (.inl 0)] (by exact ⟨rfl, rfl, rfl, trivial⟩) ?_
        refine (vl_322 b_ n_ T_ mo_ p_ i_ gl_ S0_ ht_ hf_ hi_ hv_ hmo_ hw_ hk_ hm2_ vp0_ _) (S0_.1 13 0 9) 0 (sm_aI Sx64_ 138 0 (Sx64_.1 13 0 34).toNat (Sx64_.2.2.1 121 0 vx17_.toNat)) hIx78_ hFx79_ ⟨?_, ?_, trivial⟩ (Nat.lt_succ_self _)
        · omega
        · first | (have g52_ := g51_; rw [hx4b] at g52_; first | (exfalso; exact g52_.2.2 (g52_.1.symm.trans hz5_)) | (refine ⟨fun e_ he_ => ?_, fun r9_ hr_ => ?_⟩; (first | (rw [cw3_] at he_; cases he_; exact rw9_ _ _ g52_ (hFx79_.1 13 0 32 rfl) (hFx79_.1 13 0 27 rfl)) | (rw [crv_] at he_; cases he_; exact rw9_ _ _ g52_ (hFx79_.1 13 0 32 rfl) (hFx79_.1 13 0 27 rfl))); (first | (rw [cw3_] at hr_; cases hr_) | (rw [crv_] at hr_; cases hr_)))) | (obtain ⟨u5_, i5_, hu5_, e51_, e52_⟩ := rg_r g51_ hz5_; rw [hx4b, pb_r rfl] at hu5_; have nv51_ := (congrFun nn51_ _).trans nv_.1; have sg_ := shl_ge (x_ := lx_vl b_ n_ p_) (w_ := lx_vl b_ n_ r_) vp0_ hin_; rw [na51_, nv51_] at cx75_; first | (have hp5_ : p_co b_ n_ p_ = .inl (12, p_) := (by rw [crv_, hu5_, pb_r rfl, if_neg (sg_.mp (by omega))]); have g82_ : rg b_ n_ T_ (.inl (12, p_)) _ := (by rcases e82_ with z_ | z_; (exact absurd hz5_ z_.1); (exact ⟨z_.2.1, z_.2.2.trans pa51_, by show (12 : Int) ≠ 0; decide⟩)); refine ⟨fun e_ he_ => ?_, fun r9_ hr_ => ?_⟩; (rw [hp5_] at he_; cases he_; exact rw9_ _ _ g82_ (hFx79_.1 13 0 32 rfl) (hFx79_.1 13 0 27 rfl)); (rw [hp5_] at hr_; cases hr_)) | (have hp5_ : p_co b_ n_ p_ = .inr (u5_, lx_vl b_ n_ r_, [cw 8 (lx_vl b_ n_ r_) (lx_vl b_ n_ p_)]) := (by rw [crv_, hu5_, pb_r rfl, if_pos (by by_cases q_ : lx_vl b_ n_ p_ / 2 ^ (lx_vl b_ n_ r_).toNat = 0; exact q_; (have := sg_.mpr q_; omega))]); refine ⟨fun e_ he_ => ?_, fun r9_ hr_ => ?_⟩; (rw [hp5_] at he_; cases he_); (rw [hp5_] at hr_; cases hr_; refine ⟨⟨hz5_, i5_, e51_, e52_⟩, fun l_ hl_ hs_ => ?_⟩; refine stk_pu (by omega) nv51_ ?_; rw [w51_]; exact hs_))) | (obtain ⟨e5_, he5_⟩ := rg_w g51_ hz5_; have g52_ := g51_; rw [he5_] at g52_; have hp5_ : p_co b_ n_ p_ = .inl e5_ := (by rw [crv_]; rw [hx4b, pb_r rfl] at he5_; rw [he5_]; rfl); refine ⟨fun e_ he_ => ?_, fun r9_ hr_ => ?_⟩; (rw [hp5_] at he_; cases he_; exact rw9_ _ _ g52_ (hFx79_.1 13 0 32 rfl) (hFx79_.1 13 0 27 rfl)); (rw [hp5_] at hr_; cases hr_))
      · have cx75_ : ¬ (vx74_ = 0) := of_decide_eq_false cx75_
        have hz5_ := rt_if e55_ (by omega)
        refine sm_T_go 3 (c1 := (66, [some (.inr (.inr (some (13, 0)))), some (.inl (S0_.1 13 0 9)), some (.inl vx17_), none], [.inl (S0_.1 13 0 9), .inr (.inr (some (121, 0)))], Sx64_)) rfl ?_
        refine sm_T_iald (n := 65537) rfl rfl (by omega) (by omega) ?_
        have bx80_ : (-2147483648) ≤ Sx64_.2.2.1 121 0 (S0_.1 13 0 9).toNat ∧ Sx64_.2.2.1 121 0 (S0_.1 13 0 9).toNat ≤ 2147483647 := hIx65_.2 121 0 _
        refine sm_T_go 4 (c1 := (73, [some (.inr (.inr (some (13, 0)))), some (.inl (S0_.1 13 0 9)), some (.inl vx17_), none], [.inl vx17_, .inr (.inr (some (121, 0))), .inl 1, .inl (Sx64_.2.2.1 121 0 (S0_.1 13 0 9).toNat)], Sx64_)) rfl ?_
        refine sm_T_iald (n := 65537) rfl rfl (by omega) (by omega) ?_
        have bx81_ : (-2147483648) ≤ Sx64_.2.2.1 121 0 vx17_.toNat ∧ Sx64_.2.2.1 121 0 vx17_.toNat ≤ 2147483647 := hIx65_.2 121 0 _
        refine sm_T_bin (w := (i_shl 1 (Sx64_.2.2.1 121 0 vx17_.toNat))) rfl rfl ?_
        refine sm_T_br (a := 2) (z := 10) rfl (fun cx82_ => ?_) (fun cx82_ => ?_)
        · have cx82_ : (Sx64_.2.2.1 121 0 (S0_.1 13 0 9).toNat) < (i_shl 1 (Sx64_.2.2.1 121 0 vx17_.toNat)) := of_decide_eq_true cx82_
          have bx83_ : 0 ≤ Sx64_.1 13 0 34 ∧ Sx64_.1 13 0 34 ≤ 1023 := hIx65_.1 13 0 34 rfl
          refine sm_T_go 7 (c1 := (98, [some (.inr (.inr (some (13, 0)))), some (.inl (S0_.1 13 0 9)), some (.inl vx17_), none], [.inl vx17_, .inr (.inr (some (121, 0))), .inl (Sx64_.1 13 0 34), .inr (.inr (some (138, 0)))], Sx64_)) rfl ?_
          refine sm_T_iald (n := 65537) rfl rfl (by omega) (by omega) ?_
          refine sm_T_iast (n := 1024) rfl rfl (by omega) (by omega) ?_
          have hIx84_ : gi (sm_aI Sx64_ 138 0 (Sx64_.1 13 0 34).toNat (Sx64_.2.2.1 121 0 vx17_.toNat)) := gi_aI hIx65_ (show (-2147483648) ≤ (Sx64_.2.2.1 121 0 vx17_.toNat) ∧ (Sx64_.2.2.1 121 0 vx17_.toNat) ≤ 2147483647 from ⟨by omega, by omega⟩)
          have hFx85_ : ai_fr (sx_W vw_322) S0_ (sm_aI Sx64_ 138 0 (Sx64_.1 13 0 34).toNat (Sx64_.2.2.1 121 0 vx17_.toNat)) := ai_fr_tr hFx68_ (ai_fr_aI rfl)
          refine sm_T_go 2 (c1 := (102, [some (.inr (.inr (some (13, 0)))), some (.inl (S0_.1 13 0 9)), some (.inl vx17_), some (.inl 0)], [], sm_aI Sx64_ 138 0 (Sx64_.1 13 0 34).toNat (Sx64_.2.2.1 121 0 vx17_.toNat))) rfl ?_
          refine sm_T_wk [some (.inr (.inr (some (13, 0)))), some (.inl (S0_.1 13 0 9)), none, some (.inl 0)] (by exact ⟨rfl, rfl, rfl, trivial⟩) ?_
          refine (vl_322 b_ n_ T_ mo_ p_ i_ gl_ S0_ ht_ hf_ hi_ hv_ hmo_ hw_ hk_ hm2_ vp0_ _) (S0_.1 13 0 9) 0 (sm_aI Sx64_ 138 0 (Sx64_.1 13 0 34).toNat (Sx64_.2.2.1 121 0 vx17_.toNat)) hIx84_ hFx85_ ⟨?_, ?_, trivial⟩ (Nat.lt_succ_self _)
          · omega
          · first | (have g52_ := g51_; rw [hx4b] at g52_; first | (exfalso; exact g52_.2.2 (g52_.1.symm.trans hz5_)) | (refine ⟨fun e_ he_ => ?_, fun r9_ hr_ => ?_⟩; (first | (rw [cw3_] at he_; cases he_; exact rw9_ _ _ g52_ (hFx85_.1 13 0 32 rfl) (hFx85_.1 13 0 27 rfl)) | (rw [crv_] at he_; cases he_; exact rw9_ _ _ g52_ (hFx85_.1 13 0 32 rfl) (hFx85_.1 13 0 27 rfl))); (first | (rw [cw3_] at hr_; cases hr_) | (rw [crv_] at hr_; cases hr_)))) | (obtain ⟨u5_, i5_, hu5_, e51_, e52_⟩ := rg_r g51_ hz5_; rw [hx4b, pb_r rfl] at hu5_; have nv51_ := (congrFun nn51_ _).trans nv_.1; have sg_ := shl_ge (x_ := lx_vl b_ n_ p_) (w_ := lx_vl b_ n_ r_) vp0_ hin_; rw [na51_, nv51_] at cx82_; first | (have hp5_ : p_co b_ n_ p_ = .inl (12, p_) := (by rw [crv_, hu5_, pb_r rfl, if_neg (sg_.mp (by omega))]); have g82_ : rg b_ n_ T_ (.inl (12, p_)) _ := (by rcases e82_ with z_ | z_; (exact absurd hz5_ z_.1); (exact ⟨z_.2.1, z_.2.2.trans pa51_, by show (12 : Int) ≠ 0; decide⟩)); refine ⟨fun e_ he_ => ?_, fun r9_ hr_ => ?_⟩; (rw [hp5_] at he_; cases he_; exact rw9_ _ _ g82_ (hFx85_.1 13 0 32 rfl) (hFx85_.1 13 0 27 rfl)); (rw [hp5_] at hr_; cases hr_)) | (have hp5_ : p_co b_ n_ p_ = .inr (u5_, lx_vl b_ n_ r_, [cw 8 (lx_vl b_ n_ r_) (lx_vl b_ n_ p_)]) := (by rw [crv_, hu5_, pb_r rfl, if_pos (by by_cases q_ : lx_vl b_ n_ p_ / 2 ^ (lx_vl b_ n_ r_).toNat = 0; exact q_; (have := sg_.mpr q_; omega))]); refine ⟨fun e_ he_ => ?_, fun r9_ hr_ => ?_⟩; (rw [hp5_] at he_; cases he_); (rw [hp5_] at hr_; cases hr_; refine ⟨⟨hz5_, i5_, e51_, e52_⟩, fun l_ hl_ hs_ => ?_⟩; refine stk_pu (by omega) nv51_ ?_; rw [w51_]; exact hs_))) | (obtain ⟨e5_, he5_⟩ := rg_w g51_ hz5_; have g52_ := g51_; rw [he5_] at g52_; have hp5_ : p_co b_ n_ p_ = .inl e5_ := (by rw [crv_]; rw [hx4b, pb_r rfl] at he5_; rw [he5_]; rfl); refine ⟨fun e_ he_ => ?_, fun r9_ hr_ => ?_⟩; (rw [hp5_] at he_; cases he_; exact rw9_ _ _ g52_ (hFx85_.1 13 0 32 rfl) (hFx85_.1 13 0 27 rfl)); (rw [hp5_] at hr_; cases hr_))
        · have cx82_ : ¬ ((Sx64_.2.2.1 121 0 (S0_.1 13 0 9).toNat) < (i_shl 1 (Sx64_.2.2.1 121 0 vx17_.toNat))) := of_decide_eq_false cx82_
          refine sm_T_go 3 (c1 := (82, [some (.inr (.inr (some (13, 0)))), some (.inl (S0_.1 13 0 9)), some (.inl vx17_), none], [.inl (S0_.1 13 0 9), .inl 12, .inr (.inr (some (13, 0)))], Sx64_)) rfl ?_
          refine sm_T_cal (d1 := 0) (Q1 := vq_294 12 (S0_.1 13 0 9) Sx64_) rfl rfl (by decide) (vc_294 12 (S0_.1 13 0 9) Sx64_ hIx65_ (by decide) (by omega)) (fun u_ Sx86_ px89_ => ?_)
          obtain ⟨rfl, hIx87_, hFx88_, px89_⟩ := px89_
          have hFx90_ : ai_fr (sx_W vw_322) S0_ Sx86_ := ai_fr_tr hFx68_ (fr_le hFx88_ rfl)
          have e82_ := px89_
          have w82_ := (fr_arr (t := 138) (i := 0) hFx88_ rfl).trans w51_
          have vl82_ : Sx86_.1 13 0 34 = (gl_ : Int) := (hFx90_.1 13 0 34 rfl).trans hv_.1
          have bx91_ : 0 ≤ Sx86_.1 13 0 34 ∧ Sx86_.1 13 0 34 ≤ 1023 := hIx87_.1 13 0 34 rfl
          refine sm_T_go 7 (c1 := (98, [some (.inr (.inr (some (13, 0)))), some (.inl (S0_.1 13 0 9)), some (.inl vx17_), none], [.inl vx17_, .inr (.inr (some (121, 0))), .inl (Sx86_.1 13 0 34), .inr (.inr (some (138, 0)))], Sx86_)) rfl ?_
          refine sm_T_iald (n := 65537) rfl rfl (by omega) (by omega) ?_
          have bx92_ : (-2147483648) ≤ Sx86_.2.2.1 121 0 vx17_.toNat ∧ Sx86_.2.2.1 121 0 vx17_.toNat ≤ 2147483647 := hIx87_.2 121 0 _
          refine sm_T_iast (n := 1024) rfl rfl (by omega) (by omega) ?_
          have hIx93_ : gi (sm_aI Sx86_ 138 0 (Sx86_.1 13 0 34).toNat (Sx86_.2.2.1 121 0 vx17_.toNat)) := gi_aI hIx87_ (show (-2147483648) ≤ (Sx86_.2.2.1 121 0 vx17_.toNat) ∧ (Sx86_.2.2.1 121 0 vx17_.toNat) ≤ 2147483647 from ⟨by omega, by omega⟩)
          have hFx94_ : ai_fr (sx_W vw_322) S0_ (sm_aI Sx86_ 138 0 (Sx86_.1 13 0 34).toNat (Sx86_.2.2.1 121 0 vx17_.toNat)) := ai_fr_tr hFx90_ (ai_fr_aI rfl)
          refine sm_T_go 2 (c1 := (102, [some (.inr (.inr (some (13, 0)))), some (.inl (S0_.1 13 0 9)), some (.inl vx17_), some (.inl 0)], [], sm_aI Sx86_ 138 0 (Sx86_.1 13 0 34).toNat (Sx86_.2.2.1 121 0 vx17_.toNat))) rfl ?_
          refine sm_T_wk [some (.inr (.inr (some (13, 0)))), some (.inl (S0_.1 13 0 9)), none, some (.inl 0)] (by exact ⟨rfl, rfl, rfl, trivial⟩) ?_
          refine (vl_322 b_ n_ T_ mo_ p_ i_ gl_ S0_ ht_ hf_ hi_ hv_ hmo_ hw_ hk_ hm2_ vp0_ _) (S0_.1 13 0 9) 0 (sm_aI Sx86_ 138 0 (Sx86_.1 13 0 34).toNat (Sx86_.2.2.1 121 0 vx17_.toNat)) hIx93_ hFx94_ ⟨?_, ?_, trivial⟩ (Nat.lt_succ_self _)
          · omega
          · first | (have g52_ := g51_; rw [hx4b] at g52_; first | (exfalso; exact g52_.2.2 (g52_.1.symm.trans hz5_)) | (refine ⟨fun e_ he_ => ?_, fun r9_ hr_ => ?_⟩; (first | (rw [cw3_] at he_; cases he_; exact rw9_ _ _ g52_ (hFx94_.1 13 0 32 rfl) (hFx94_.1 13 0 27 rfl)) | (rw [crv_] at he_; cases he_; exact rw9_ _ _ g52_ (hFx94_.1 13 0 32 rfl) (hFx94_.1 13 0 27 rfl))); (first | (rw [cw3_] at hr_; cases hr_) | (rw [crv_] at hr_; cases hr_)))) | (obtain ⟨u5_, i5_, hu5_, e51_, e52_⟩ := rg_r g51_ hz5_; rw [hx4b, pb_r rfl] at hu5_; have nv51_ := (congrFun nn51_ _).trans nv_.1; have sg_ := shl_ge (x_ := lx_vl b_ n_ p_) (w_ := lx_vl b_ n_ r_) vp0_ hin_; rw [na51_, nv51_] at cx82_; first | (have hp5_ : p_co b_ n_ p_ = .inl (12, p_) := (by rw [crv_, hu5_, pb_r rfl, if_neg (sg_.mp (by omega))]); have g82_ : rg b_ n_ T_ (.inl (12, p_)) _ := (by rcases e82_ with z_ | z_; (exact absurd hz5_ z_.1); (exact ⟨z_.2.1, z_.2.2.trans pa51_, by show (12 : Int) ≠ 0; decide⟩)); refine ⟨fun e_ he_ => ?_, fun r9_ hr_ => ?_⟩; (rw [hp5_] at he_; cases he_; exact rw9_ _ _ g82_ (hFx94_.1 13 0 32 rfl) (hFx94_.1 13 0 27 rfl)); (rw [hp5_] at hr_; cases hr_)) | (have hp5_ : p_co b_ n_ p_ = .inr (u5_, lx_vl b_ n_ r_, [cw 8 (lx_vl b_ n_ r_) (lx_vl b_ n_ p_)]) := (by rw [crv_, hu5_, pb_r rfl, if_pos (by by_cases q_ : lx_vl b_ n_ p_ / 2 ^ (lx_vl b_ n_ r_).toNat = 0; exact q_; (have := sg_.mpr q_; omega))]); refine ⟨fun e_ he_ => ?_, fun r9_ hr_ => ?_⟩; (rw [hp5_] at he_; cases he_); (rw [hp5_] at hr_; cases hr_; refine ⟨⟨hz5_, i5_, e51_, e52_⟩, fun l_ hl_ hs_ => ?_⟩; refine stk_pu (by omega) nv51_ ?_; rw [w51_]; exact hs_))) | (obtain ⟨e5_, he5_⟩ := rg_w g51_ hz5_; have g52_ := g51_; rw [he5_] at g52_; have hp5_ : p_co b_ n_ p_ = .inl e5_ := (by rw [crv_]; rw [hx4b, pb_r rfl] at he5_; rw [he5_]; rfl); refine ⟨fun e_ he_ => ?_, fun r9_ hr_ => ?_⟩; (rw [hp5_] at he_; cases he_; exact rw9_ _ _ g52_ (hFx94_.1 13 0 32 rfl) (hFx94_.1 13 0 27 rfl)); (rw [hp5_] at hr_; cases hr_))
    · have cx63_ : ¬ (vx62_ ≠ 0) := of_decide_eq_false cx63_
      have hin_ : lx_vl b_ n_ r_ < 1 ∨ 8 < lx_vl b_ n_ r_ := by have e39_ := e37_.2; by_cases q_ : 1 ≤ lx_vl b_ n_ r_ ∧ lx_vl b_ n_ r_ ≤ 8; (have := e39_.mpr (by omega); omega); omega
      have crv_ := cr.2
      rw [if_pos hin_] at crv_
      refine sm_T_go 3 (c1 := (47, [some (.inr (.inr (some (13, 0)))), some (.inl (S0_.1 13 0 9)), some (.inl vx17_), none], [.inl vx17_, .inl 12, .inr (.inr (some (13, 0)))], Sx12_)) rfl ?_
      refine sm_T_cal (d1 := 0) (Q1 := vq_293 12 vx17_ Sx12_) rfl rfl (by decide) (vc_293 12 vx17_ Sx12_ hIx13_ (by decide) (by omega)) (fun u_ Sx95_ px98_ => ?_)
      obtain ⟨rfl, hIx96_, hFx97_, px98_⟩ := px98_
      have hFx99_ : ai_fr (sx_W vw_322) S0_ Sx95_ := ai_fr_tr hFx16_ (fr_le hFx97_ rfl)
      have g47_ : rg b_ n_ T_ (.inl (12, r_)) Sx95_ := by rcases px98_ with z_ | z_; (exact absurd hz_ z_.1); (exact ⟨z_.2.1.trans (if_neg nv_.2.2), z_.2.2.trans nv_.2.1, by show (12 : Int) ≠ 0; decide⟩)
      obtain ⟨x4_, hx4_, hx4b⟩ : ∃ x4_ : pE Nat, rg b_ n_ T_ x4_ Sx95_ ∧ x4_ = .inl (12, r_) := ⟨_, g47_, rfl⟩
      have t50_ := rtab_fr t17_ hFx97_ rfl rfl rfl rfl rfl
      have w50_ := (fr_arr (t := 138) (i := 0) hFx97_ rfl).trans w17_
      refine sm_T_go 1 (c1 := (51, [some (.inr (.inr (some (13, 0)))), some (.inl (S0_.1 13 0 9)), some (.inl vx17_), none], [.inr (.inr (some (13, 0)))], Sx95_)) rfl ?_
      refine sm_T_cal (d1 := 2) (Q1 := vq_297 b_ n_ T_ x4_ Sx95_) rfl rfl (by decide) (vc_297 b_ n_ T_ x4_ Sx95_ hIx96_ (by exact t50_) (by exact hx4_) (by (intro q_ e_; rw [hx4b] at e_; first | (cases e_; done) | (cases e_; rw [cr.1]; decide)))) (fun u_ Sx100_ px103_ => ?_)
      obtain ⟨rfl, hIx101_, hFx102_, px103_⟩ := px103_
      have hFx104_ : ai_fr (sx_W vw_322) S0_ Sx100_ := ai_fr_tr hFx99_ (fr_le hFx102_ rfl)
      have g51_ := px103_.1
      have t51_ := rtab_fr t50_ hFx102_ rfl rfl rfl rfl rfl
      have na51_ : Sx100_.2.2.1 121 0 (S0_.1 13 0 9).toNat = lx_vl b_ n_ p_ := by rw [show (S0_.1 13 0 9).toNat = i_ by omega, (rp_at t51_ hi_.2).2.2.1, hk_]; rfl
      have pa51_ : Sx100_.2.2.1 120 0 (S0_.1 13 0 9).toNat = (p_ : Int) := by rw [show (S0_.1 13 0 9).toNat = i_ by omega]; exact (rp_at t51_ hi_.2).2.1
      have nn51_ := fr_arr (t := 121) (i := 0) hFx102_ rfl
      have vl51_ : Sx100_.1 13 0 34 = (gl_ : Int) := (hFx104_.1 13 0 34 rfl).trans hv_.1
      have w51_ := (fr_arr (t := 138) (i := 0) hFx102_ rfl).trans w50_
      refine sm_T_go 1 (c1 := (55, [some (.inr (.inr (some (13, 0)))), some (.inl (S0_.1 13 0 9)), some (.inl vx17_), none], [.inr (.inr (some (13, 0)))], Sx100_)) rfl ?_
      refine sm_T_cal (d1 := 0) (Q1 := vq_292  Sx100_) rfl rfl (by decide) (vc_292  Sx100_ hIx101_ ) (fun u_ Sx105_ px108_ => ?_)
      obtain ⟨rfl, vx110_, rfl, px108_⟩ := px108_
      have e55_ := px108_
      refine sm_T_b0 (a := 0) (z := 27) rfl (fun cx111_ => ?_) (fun cx111_ => ?_)
      · have cx111_ : vx110_ = 0 := of_decide_eq_true cx111_
        have hz5_ := wr_if e55_ (by omega)
        have bx112_ : 0 ≤ Sx100_.1 13 0 34 ∧ Sx100_.1 13 0 34 ≤ 1023 := hIx101_.1 13 0 34 rfl
        refine sm_T_go 7 (c1 := (98, [some (.inr (.inr (some (13, 0)))), some (.inl (S0_.1 13 0 9)), some (.inl vx17_), none], [.inl vx17_, .inr (.inr (some (121, 0))), .inl (Sx100_.1 13 0 34), .inr (.inr (some (138, 0)))], Sx100_)) rfl ?_
        refine sm_T_iald (n := 65537) rfl rfl (by omega) (by omega) ?_
        have bx113_ : (-2147483648) ≤ Sx100_.2.2.1 121 0 vx17_.toNat ∧ Sx100_.2.2.1 121 0 vx17_.toNat ≤ 2147483647 := hIx101_.2 121 0 _
        refine sm_T_iast (n := 1024) rfl rfl (by omega) (by omega) ?_
        have hIx114_ : gi (sm_aI Sx100_ 138 0 (Sx100_.1 13 0 34).toNat (Sx100_.2.2.1 121 0 vx17_.toNat)) := gi_aI hIx101_ (show (-2147483648) ≤ (Sx100_.2.2.1 121 0 vx17_.toNat) ∧ (Sx100_.2.2.1 121 0 vx17_.toNat) ≤ 2147483647 from ⟨by omega, by omega⟩)
        have hFx115_ : ai_fr (sx_W vw_322) S0_ (sm_aI Sx100_ 138 0 (Sx100_.1 13 0 34).toNat (Sx100_.2.2.1 121 0 vx17_.toNat)) := ai_fr_tr hFx104_ (ai_fr_aI rfl)
        refine sm_T_go 2 (c1 := (102, [some (.inr (.inr (some (13, 0)))), some (.inl (S0_.1 13 0 9)), some (.inl vx17_), some (.inl 0)], [], sm_aI Sx100_ 138 0 (Sx100_.1 13 0 34).toNat (Sx100_.2.2.1 121 0 vx17_.toNat))) rfl ?_
        refine sm_T_wk [some (.inr (.inr (some (13, 0)))), some (.inl (S0_.1 13 0 9)), none, some (.inl 0)] (by exact ⟨rfl, rfl, rfl, trivial⟩) ?_
        refine (vl_322 b_ n_ T_ mo_ p_ i_ gl_ S0_ ht_ hf_ hi_ hv_ hmo_ hw_ hk_ hm2_ vp0_ _) (S0_.1 13 0 9) 0 (sm_aI Sx100_ 138 0 (Sx100_.1 13 0 34).toNat (Sx100_.2.2.1 121 0 vx17_.toNat)) hIx114_ hFx115_ ⟨?_, ?_, trivial⟩ (Nat.lt_succ_self _)
        · omega
        · first | (have g52_ := g51_; rw [hx4b] at g52_; first | (exfalso; exact g52_.2.2 (g52_.1.symm.trans hz5_)) | (refine ⟨fun e_ he_ => ?_, fun r9_ hr_ => ?_⟩; (first | (rw [cw3_] at he_; cases he_; exact rw9_ _ _ g52_ (hFx115_.1 13 0 32 rfl) (hFx115_.1 13 0 27 rfl)) | (rw [crv_] at he_; cases he_; exact rw9_ _ _ g52_ (hFx115_.1 13 0 32 rfl) (hFx115_.1 13 0 27 rfl))); (first | (rw [cw3_] at hr_; cases hr_) | (rw [crv_] at hr_; cases hr_)))) | (obtain ⟨u5_, i5_, hu5_, e51_, e52_⟩ := rg_r g51_ hz5_; rw [hx4b, pb_r rfl] at hu5_; have nv51_ := (congrFun nn51_ _).trans nv_.1; have sg_ := shl_ge (x_ := lx_vl b_ n_ p_) (w_ := lx_vl b_ n_ r_) vp0_ hin_; rw [na51_, nv51_] at cx111_; first | (have hp5_ : p_co b_ n_ p_ = .inl (12, p_) := (by rw [crv_, hu5_, pb_r rfl, if_neg (sg_.mp (by omega))]); have g82_ : rg b_ n_ T_ (.inl (12, p_)) _ := (by rcases e82_ with z_ | z_; (exact absurd hz5_ z_.1); (exact ⟨z_.2.1, z_.2.2.trans pa51_, by show (12 : Int) ≠ 0; decide⟩)); refine ⟨fun e_ he_ => ?_, fun r9_ hr_ => ?_⟩; (rw [hp5_] at he_; cases he_; exact rw9_ _ _ g82_ (hFx115_.1 13 0 32 rfl) (hFx115_.1 13 0 27 rfl)); (rw [hp5_] at hr_; cases hr_)) | (have hp5_ : p_co b_ n_ p_ = .inr (u5_, lx_vl b_ n_ r_, [cw 8 (lx_vl b_ n_ r_) (lx_vl b_ n_ p_)]) := (by rw [crv_, hu5_, pb_r rfl, if_pos (by by_cases q_ : lx_vl b_ n_ p_ / 2 ^ (lx_vl b_ n_ r_).toNat = 0; exact q_; (have := sg_.mpr q_; omega))]); refine ⟨fun e_ he_ => ?_, fun r9_ hr_ => ?_⟩; (rw [hp5_] at he_; cases he_); (rw [hp5_] at hr_; cases hr_; refine ⟨⟨hz5_, i5_, e51_, e52_⟩, fun l_ hl_ hs_ => ?_⟩; refine stk_pu (by omega) nv51_ ?_; rw [w51_]; exact hs_))) | (obtain ⟨e5_, he5_⟩ := rg_w g51_ hz5_; have g52_ := g51_; rw [he5_] at g52_; have hp5_ : p_co b_ n_ p_ = .inl e5_ := (by rw [crv_]; rw [hx4b, pb_r rfl] at he5_; rw [he5_]; rfl); refine ⟨fun e_ he_ => ?_, fun r9_ hr_ => ?_⟩; (rw [hp5_] at he_; cases he_; exact rw9_ _ _ g52_ (hFx115_.1 13 0 32 rfl) (hFx115_.1 13 0 27 rfl)); (rw [hp5_] at hr_; cases hr_))
      · have cx111_ : ¬ (vx110_ = 0) := of_decide_eq_false cx111_
        have hz5_ := rt_if e55_ (by omega)
        refine sm_T_go 3 (c1 := (66, [some (.inr (.inr (some (13, 0)))), some (.inl (S0_.1 13 0 9)), some (.inl vx17_), none], [.inl (S0_.1 13 0 9), .inr (.inr (some (121, 0)))], Sx100_)) rfl ?_
        refine sm_T_iald (n := 65537) rfl rfl (by omega) (by omega) ?_
        have bx116_ : (-2147483648) ≤ Sx100_.2.2.1 121 0 (S0_.1 13 0 9).toNat ∧ Sx100_.2.2.1 121 0 (S0_.1 13 0 9).toNat ≤ 2147483647 := hIx101_.2 121 0 _
        refine sm_T_go 4 (c1 := (73, [some (.inr (.inr (some (13, 0)))), some (.inl (S0_.1 13 0 9)), some (.inl vx17_), none], [.inl vx17_, .inr (.inr (some (121, 0))), .inl 1, .inl (Sx100_.2.2.1 121 0 (S0_.1 13 0 9).toNat)], Sx100_)) rfl ?_
        refine sm_T_iald (n := 65537) rfl rfl (by omega) (by omega) ?_
        have bx117_ : (-2147483648) ≤ Sx100_.2.2.1 121 0 vx17_.toNat ∧ Sx100_.2.2.1 121 0 vx17_.toNat ≤ 2147483647 := hIx101_.2 121 0 _
        refine sm_T_bin (w := (i_shl 1 (Sx100_.2.2.1 121 0 vx17_.toNat))) rfl rfl ?_
        refine sm_T_br (a := 2) (z := 10) rfl (fun cx118_ => ?_) (fun cx118_ => ?_)
        · have cx118_ : (Sx100_.2.2.1 121 0 (S0_.1 13 0 9).toNat) < (i_shl 1 (Sx100_.2.2.1 121 0 vx17_.toNat)) := of_decide_eq_true cx118_
          have bx119_ : 0 ≤ Sx100_.1 13 0 34 ∧ Sx100_.1 13 0 34 ≤ 1023 := hIx101_.1 13 0 34 rfl
          refine sm_T_go 7 (c1 := (98, [some (.inr (.inr (some (13, 0)))), some (.inl (S0_.1 13 0 9)), some (.inl vx17_), none], [.inl vx17_, .inr (.inr (some (121, 0))), .inl (Sx100_.1 13 0 34), .inr (.inr (some (138, 0)))], Sx100_)) rfl ?_
          refine sm_T_iald (n := 65537) rfl rfl (by omega) (by omega) ?_
          refine sm_T_iast (n := 1024) rfl rfl (by omega) (by omega) ?_
          have hIx120_ : gi (sm_aI Sx100_ 138 0 (Sx100_.1 13 0 34).toNat (Sx100_.2.2.1 121 0 vx17_.toNat)) := gi_aI hIx101_ (show (-2147483648) ≤ (Sx100_.2.2.1 121 0 vx17_.toNat) ∧ (Sx100_.2.2.1 121 0 vx17_.toNat) ≤ 2147483647 from ⟨by omega, by omega⟩)
          have hFx121_ : ai_fr (sx_W vw_322) S0_ (sm_aI Sx100_ 138 0 (Sx100_.1 13 0 34).toNat (Sx100_.2.2.1 121 0 vx17_.toNat)) := ai_fr_tr hFx104_ (ai_fr_aI rfl)
          refine sm_T_go 2 (c1 := (102, [some (.inr (.inr (some (13, 0)))), some (.inl (S0_.1 13 0 9)), some (.inl vx17_), some (.inl 0)], [], sm_aI Sx100_ 138 0 (Sx100_.1 13 0 34).toNat (Sx100_.2.2.1 121 0 vx17_.toNat))) rfl ?_
          refine sm_T_wk [some (.inr (.inr (some (13, 0)))), some (.inl (S0_.1 13 0 9)), none, some (.inl 0)] (by exact ⟨rfl, rfl, rfl, trivial⟩) ?_
          refine (vl_322 b_ n_ T_ mo_ p_ i_ gl_ S0_ ht_ hf_ hi_ hv_ hmo_ hw_ hk_ hm2_ vp0_ _) (S0_.1 13 0 9) 0 (sm_aI Sx100_ 138 0 (Sx100_.1 13 0 34).toNat (Sx100_.2.2.1 121 0 vx17_.toNat)) hIx120_ hFx121_ ⟨?_, ?_, trivial⟩ (Nat.lt_succ_self _)
          · omega
          · first | (have g52_ := g51_; rw [hx4b] at g52_; first | (exfalso; exact g52_.2.2 (g52_.1.symm.trans hz5_)) | (refine ⟨fun e_ he_ => ?_, fun r9_ hr_ => ?_⟩; (first | (rw [cw3_] at he_; cases he_; exact rw9_ _ _ g52_ (hFx121_.1 13 0 32 rfl) (hFx121_.1 13 0 27 rfl)) | (rw [crv_] at he_; cases he_; exact rw9_ _ _ g52_ (hFx121_.1 13 0 32 rfl) (hFx121_.1 13 0 27 rfl))); (first | (rw [cw3_] at hr_; cases hr_) | (rw [crv_] at hr_; cases hr_)))) | (obtain ⟨u5_, i5_, hu5_, e51_, e52_⟩ := rg_r g51_ hz5_; rw [hx4b, pb_r rfl] at hu5_; have nv51_ := (congrFun nn51_ _).trans nv_.1; have sg_ := shl_ge (x_ := lx_vl b_ n_ p_) (w_ := lx_vl b_ n_ r_) vp0_ hin_; rw [na51_, nv51_] at cx118_; first | (have hp5_ : p_co b_ n_ p_ = .inl (12, p_) := (by rw [crv_, hu5_, pb_r rfl, if_neg (sg_.mp (by omega))]); have g82_ : rg b_ n_ T_ (.inl (12, p_)) _ := (by rcases e82_ with z_ | z_; (exact absurd hz5_ z_.1); (exact ⟨z_.2.1, z_.2.2.trans pa51_, by show (12 : Int) ≠ 0; decide⟩)); refine ⟨fun e_ he_ => ?_, fun r9_ hr_ => ?_⟩; (rw [hp5_] at he_; cases he_; exact rw9_ _ _ g82_ (hFx121_.1 13 0 32 rfl) (hFx121_.1 13 0 27 rfl)); (rw [hp5_] at hr_; cases hr_)) | (have hp5_ : p_co b_ n_ p_ = .inr (u5_, lx_vl b_ n_ r_, [cw 8 (lx_vl b_ n_ r_) (lx_vl b_ n_ p_)]) := (by rw [crv_, hu5_, pb_r rfl, if_pos (by by_cases q_ : lx_vl b_ n_ p_ / 2 ^ (lx_vl b_ n_ r_).toNat = 0; exact q_; (have := sg_.mpr q_; omega))]); refine ⟨fun e_ he_ => ?_, fun r9_ hr_ => ?_⟩; (rw [hp5_] at he_; cases he_); (rw [hp5_] at hr_; cases hr_; refine ⟨⟨hz5_, i5_, e51_, e52_⟩, fun l_ hl_ hs_ => ?_⟩; refine stk_pu (by omega) nv51_ ?_; rw [w51_]; exact hs_))) | (obtain ⟨e5_, he5_⟩ := rg_w g51_ hz5_; have g52_ := g51_; rw [he5_] at g52_; have hp5_ : p_co b_ n_ p_ = .inl e5_ := (by rw [crv_]; rw [hx4b, pb_r rfl] at he5_; rw [he5_]; rfl); refine ⟨fun e_ he_ => ?_, fun r9_ hr_ => ?_⟩; (rw [hp5_] at he_; cases he_; exact rw9_ _ _ g52_ (hFx121_.1 13 0 32 rfl) (hFx121_.1 13 0 27 rfl)); (rw [hp5_] at hr_; cases hr_))
        · have cx118_ : ¬ ((Sx100_.2.2.1 121 0 (S0_.1 13 0 9).toNat) < (i_shl 1 (Sx100_.2.2.1 121 0 vx17_.toNat))) := of_decide_eq_false cx118_
          refine sm_T_go 3 (c1 := (82, [some (.inr (.inr (some (13, 0)))), some (.inl (S0_.1 13 0 9)), some (.inl vx17_), none], [.inl (S0_.1 13 0 9), .inl 12, .inr (.inr (some (13, 0)))], Sx100_)) rfl ?_
          refine sm_T_cal (d1 := 0) (Q1 := vq_294 12 (S0_.1 13 0 9) Sx100_) rfl rfl (by decide) (vc_294 12 (S0_.1 13 0 9) Sx100_ hIx101_ (by decide) (by omega)) (fun u_ Sx122_ px125_ => ?_)
          obtain ⟨rfl, hIx123_, hFx124_, px125_⟩ := px125_
          have hFx126_ : ai_fr (sx_W vw_322) S0_ Sx122_ := ai_fr_tr hFx104_ (fr_le hFx124_ rfl)
          have e82_ := px125_
          have w82_ := (fr_arr (t := 138) (i := 0) hFx124_ rfl).trans w51_
          have vl82_ : Sx122_.1 13 0 34 = (gl_ : Int) := (hFx126_.1 13 0 34 rfl).trans hv_.1
          have bx127_ : 0 ≤ Sx122_.1 13 0 34 ∧ Sx122_.1 13 0 34 ≤ 1023 := hIx123_.1 13 0 34 rfl
          refine sm_T_go 7 (c1 := (98, [some (.inr (.inr (some (13, 0)))), some (.inl (S0_.1 13 0 9)), some (.inl vx17_), none], [.inl vx17_, .inr (.inr (some (121, 0))), .inl (Sx122_.1 13 0 34), .inr (.inr (some (138, 0)))], Sx122_)) rfl ?_
          refine sm_T_iald (n := 65537) rfl rfl (by omega) (by omega) ?_
          have bx128_ : (-2147483648) ≤ Sx122_.2.2.1 121 0 vx17_.toNat ∧ Sx122_.2.2.1 121 0 vx17_.toNat ≤ 2147483647 := hIx123_.2 121 0 _
          refine sm_T_iast (n := 1024) rfl rfl (by omega) (by omega) ?_
          have hIx129_ : gi (sm_aI Sx122_ 138 0 (Sx122_.1 13 0 34).toNat (Sx122_.2.2.1 121 0 vx17_.toNat)) := gi_aI hIx123_ (show (-2147483648) ≤ (Sx122_.2.2.1 121 0 vx17_.toNat) ∧ (Sx122_.2.2.1 121 0 vx17_.toNat) ≤ 2147483647 from ⟨by omega, by omega⟩)
          have hFx130_ : ai_fr (sx_W vw_322) S0_ (sm_aI Sx122_ 138 0 (Sx122_.1 13 0 34).toNat (Sx122_.2.2.1 121 0 vx17_.toNat)) := ai_fr_tr hFx126_ (ai_fr_aI rfl)
          refine sm_T_go 2 (c1 := (102, [some (.inr (.inr (some (13, 0)))), some (.inl (S0_.1 13 0 9)), some (.inl vx17_), some (.inl 0)], [], sm_aI Sx122_ 138 0 (Sx122_.1 13 0 34).toNat (Sx122_.2.2.1 121 0 vx17_.toNat))) rfl ?_
          refine sm_T_wk [some (.inr (.inr (some (13, 0)))), some (.inl (S0_.1 13 0 9)), none, some (.inl 0)] (by exact ⟨rfl, rfl, rfl, trivial⟩) ?_
          refine (vl_322 b_ n_ T_ mo_ p_ i_ gl_ S0_ ht_ hf_ hi_ hv_ hmo_ hw_ hk_ hm2_ vp0_ _) (S0_.1 13 0 9) 0 (sm_aI Sx122_ 138 0 (Sx122_.1 13 0 34).toNat (Sx122_.2.2.1 121 0 vx17_.toNat)) hIx129_ hFx130_ ⟨?_, ?_, trivial⟩ (Nat.lt_succ_self _)
          · omega
          · first | (have g52_ := g51_; rw [hx4b] at g52_; first | (exfalso; exact g52_.2.2 (g52_.1.symm.trans hz5_)) | (refine ⟨fun e_ he_ => ?_, fun r9_ hr_ => ?_⟩; (first | (rw [cw3_] at he_; cases he_; exact rw9_ _ _ g52_ (hFx130_.1 13 0 32 rfl) (hFx130_.1 13 0 27 rfl)) | (rw [crv_] at he_; cases he_; exact rw9_ _ _ g52_ (hFx130_.1 13 0 32 rfl) (hFx130_.1 13 0 27 rfl))); (first | (rw [cw3_] at hr_; cases hr_) | (rw [crv_] at hr_; cases hr_)))) | (obtain ⟨u5_, i5_, hu5_, e51_, e52_⟩ := rg_r g51_ hz5_; rw [hx4b, pb_r rfl] at hu5_; have nv51_ := (congrFun nn51_ _).trans nv_.1; have sg_ := shl_ge (x_ := lx_vl b_ n_ p_) (w_ := lx_vl b_ n_ r_) vp0_ hin_; rw [na51_, nv51_] at cx118_; first | (have hp5_ : p_co b_ n_ p_ = .inl (12, p_) := (by rw [crv_, hu5_, pb_r rfl, if_neg (sg_.mp (by omega))]); have g82_ : rg b_ n_ T_ (.inl (12, p_)) _ := (by rcases e82_ with z_ | z_; (exact absurd hz5_ z_.1); (exact ⟨z_.2.1, z_.2.2.trans pa51_, by show (12 : Int) ≠ 0; decide⟩)); refine ⟨fun e_ he_ => ?_, fun r9_ hr_ => ?_⟩; (rw [hp5_] at he_; cases he_; exact rw9_ _ _ g82_ (hFx130_.1 13 0 32 rfl) (hFx130_.1 13 0 27 rfl)); (rw [hp5_] at hr_; cases hr_)) | (have hp5_ : p_co b_ n_ p_ = .inr (u5_, lx_vl b_ n_ r_, [cw 8 (lx_vl b_ n_ r_) (lx_vl b_ n_ p_)]) := (by rw [crv_, hu5_, pb_r rfl, if_pos (by by_cases q_ : lx_vl b_ n_ p_ / 2 ^ (lx_vl b_ n_ r_).toNat = 0; exact q_; (have := sg_.mpr q_; omega))]); refine ⟨fun e_ he_ => ?_, fun r9_ hr_ => ?_⟩; (rw [hp5_] at he_; cases he_); (rw [hp5_] at hr_; cases hr_; refine ⟨⟨hz5_, i5_, e51_, e52_⟩, fun l_ hl_ hs_ => ?_⟩; refine stk_pu (by omega) nv51_ ?_; rw [w51_]; exact hs_))) | (obtain ⟨e5_, he5_⟩ := rg_w g51_ hz5_; have g52_ := g51_; rw [he5_] at g52_; have hp5_ : p_co b_ n_ p_ = .inl e5_ := (by rw [crv_]; rw [hx4b, pb_r rfl] at he5_; rw [he5_]; rfl); refine ⟨fun e_ he_ => ?_, fun r9_ hr_ => ?_⟩; (rw [hp5_] at he_; cases he_; exact rw9_ _ _ g52_ (hFx130_.1 13 0 32 rfl) (hFx130_.1 13 0 27 rfl)); (rw [hp5_] at hr_; cases hr_))
end
/-! 99.yaa -/
section
/-! the reference: bits; written by wip/p55/gen/vg -/
/-! M_.copyValue -/
def vw_333 : sx_Wl := ([], [138, 139], [])
def vq_333 (wd_ : Int) (oi_ : Int) (fr_ : Int) (mo_ : Int) (gl_ : Nat) (S0_ : sm_S) (u_ : Option sm_V) (S1_ : sm_S) : Prop := u_ = none ∧ gi S1_ ∧ ai_fr (sx_W vw_333) S0_ S1_ ∧ (∀ l_ : List Int, l_.length = gl_ → stk (S0_.2.2.1 138 0) l_ → stk (S1_.2.2.1 138 0) (wd_ :: l_))
set_option maxHeartbeats 400000 in
theorem vc_333 {sc_ : Nat × (Nat → Int)} (wd_ : Int) (oi_ : Int) (fr_ : Int) (mo_ : Int) (gl_ : Nat) (S0_ : sm_S) (hI_ : gi S0_) (hv_ : (S0_.1 13 0 34) = (gl_ : Int) ∧ gl_ ≤ 1000) (hmo_ : (S0_.1 13 0 27) = mo_) (hm1_ : mo_ ≠ 1) (hwd_ : 0 ≤ wd_ ∧ wd_ ≤ 8) : sm_T (mt_P sc_) 0 333 (0, [some (.inr (.inr (some (13, 0)))), some (.inl wd_), some (.inl oi_), some (.inl fr_), none], [], S0_) (fun r_ => ∃ u_ S1_, r_ = (.inl u_, S1_, 0) ∧ vq_333 wd_ oi_ fr_ mo_ gl_ S0_ u_ S1_) := by
  have hF_ : ai_fr (sx_W vw_333) S0_ S0_ := ai_fr_rf
  have bx1_ : 0 ≤ S0_.1 13 0 34 ∧ S0_.1 13 0 34 ≤ 1023 := hI_.1 13 0 34 rfl
  refine sm_T_go 5 (c1 := (9, [some (.inr (.inr (some (13, 0)))), some (.inl wd_), some (.inl oi_), some (.inl fr_), none], [.inl wd_, .inl (S0_.1 13 0 34), .inr (.inr (some (138, 0)))], S0_)) rfl ?_
  refine sm_T_iast (n := 1024) rfl rfl (by omega) (by omega) ?_
  have hIx2_ : gi (sm_aI S0_ 138 0 (S0_.1 13 0 34).toNat wd_) := gi_aI hI_ (show (-2147483648) ≤ wd_ ∧ wd_ ≤ 2147483647 from ⟨by omega, by omega⟩)
  have hFx3_ : ai_fr (sx_W vw_333) S0_ (sm_aI S0_ 138 0 (S0_.1 13 0 34).toNat wd_) := ai_fr_tr hF_ (ai_fr_aI rfl)
  have bx4_ : 0 ≤ S0_.1 13 0 27 ∧ S0_.1 13 0 27 ≤ 2 := hI_.1 13 0 27 rfl
  refine sm_T_go 8 (c1 := (25, [some (.inr (.inr (some (13, 0)))), some (.inl wd_), some (.inl oi_), some (.inl fr_), some (.inl 0)], [.inl 1, .inl (S0_.1 13 0 27)], sm_aI S0_ 138 0 (S0_.1 13 0 34).toNat wd_)) rfl ?_
  refine sm_T_br (a := 1) (z := 49) rfl (fun cx5_ => ?_) (fun cx5_ => ?_)
  · have cx5_ : (S0_.1 13 0 27) ≠ 1 := of_decide_eq_true cx5_
    refine sm_T_rv rfl ⟨_, _, rfl, rfl, hIx2_, hFx3_, ?_⟩
    intro l_ hl_ hs_
    exact stk_pu (by omega) rfl hs_
  · have cx5_ : ¬ ((S0_.1 13 0 27) ≠ 1) := of_decide_eq_false cx5_
    exfalso; omega
end
/-! 99.yab -/
section
/-! bits -/
def p_bp (b_ : Nat → Int) (n_ : Nat) (wd_ : Int) (p_ : Nat) : pE Nat := pb (p_nu b_ n_ 0 (wd_ - 1) p_) fun _ => p_ad b_ n_ p_
theorem bp_bi {b_ : Nat → Int} {n_ p_ : Nat} {wd_ : Int} {l_ : List Int} : p_bi b_ n_ wd_ l_ p_ = pb (p_bp b_ n_ wd_ p_) fun q_ => .inr (q_, 1, cw 11 (lx_vl b_ n_ p_) 0 :: l_) := by
  unfold p_bi p_bp
  cases h_ : p_nu b_ n_ 0 (wd_ - 1) p_ with
  | inl e_ => rfl
  | inr v_ =>
    have h1_ := (p_nu_ok h_).2.1
    subst h1_
    rw [pb_r rfl, pb_r rfl]
theorem bp_w {b_ : Nat → Int} {n_ : Nat} {wd_ : Int} {x_ : pE Nat} {e_ : Int × Nat} (h_ : pb x_ (p_du b_ n_ 2) = .inl e_) : pb x_ (p_bp b_ n_ wd_) = .inl e_ := by
  cases x_ with
  | inl z_ => exact h_
  | inr p_ =>
    rw [pb_r rfl] at h_ ⊢
    unfold p_du at h_
    unfold p_bp p_nu
    split at h_
    · cases h_
    · rename_i g_
      cases h_
      rw [if_neg g_]
      rfl
theorem bp_r {b_ : Nat → Int} {n_ r_ : Nat} {wd_ : Int} {x_ : pE Nat} (h_ : pb x_ (p_du b_ n_ 2) = .inr r_) : lx_kd b_ n_ r_ = 2 ∧ pb x_ (p_bp b_ n_ wd_) = if lx_vl b_ n_ r_ < 0 ∨ wd_ - 1 < lx_vl b_ n_ r_ then .inl (12, r_) else p_ad b_ n_ r_ := by
  obtain ⟨p_, h1_, h2_⟩ := pb_inr h_
  subst h1_
  unfold p_du at h2_
  split at h2_
  · rename_i g_
    cases h2_
    refine ⟨g_, ?_⟩
    rw [pb_r rfl]
    unfold p_bp p_nu
    rw [if_pos g_]
    split <;> rfl
  · cases h2_
theorem lx_de_g {b_ : Nat → Int} {n_ : Nat} : ∀ (f_ p_ k_ : Nat), n_ - p_ ≤ f_ → p_ ≤ k_ → k_ < lx_de b_ n_ p_ → lx_g (b_ k_)
  | 0, p_, k_, hf_, hk_, h_ => by
    rw [lx_f_go, if_neg (by omega)] at h_
    omega
  | f_ + 1, p_, k_, hf_, hk_, h_ => by
    rw [lx_f_go] at h_
    split at h_
    · rename_i g_
      by_cases e_ : k_ = p_
      · rw [e_]; exact g_.2
      · exact lx_de_g f_ (p_ + 1) k_ (by omega) (by omega) h_
    · omega
theorem lx_vl_0 {b_ : Nat → Int} {n_ p_ : Nat} (h_ : lx_kd b_ n_ p_ = 2) : 0 ≤ lx_vl b_ n_ p_ := by
  unfold lx_kd at h_
  split at h_
  · omega
  · rename_i g_
    have h1_ := lx_wk_7 (lx_pk b_ p_ (lx_ne b_ n_ p_ - p_))
    split at h_
    · split at h_ <;> omega
    · split at h_
      · rename_i g2_
        unfold lx_vl
        refine (lx_v_b (b := b_) (p := p_) (k := min (lx_de b_ n_ p_ - p_) 6) (by omega) (fun j_ hj_ => ?_)).1
        exact lx_de_g (n_ - p_) p_ (p_ + j_) (Nat.le_refl _) (by omega) (by omega)
      · have h2_ := lx_sk_b (b := b_) (n := n_) (p := p_)
        split at h_ <;> omega
end
/-! 99.yac -/
section
/-! M_.bit -/
def vw_325 : sx_Wl := ([(13, 9), (13, 10), (13, 11)], [138, 139], [])
def vq_325 (wd_ : Int) (b_ : Nat → Int) (n_ : Nat) (T_ : Nat) (x_ : pE Nat) (mo_ : Int) (gl_ : Nat) (S0_ : sm_S) (u_ : Option sm_V) (S1_ : sm_S) : Prop := u_ = none ∧ gi S1_ ∧ ai_fr (sx_W vw_325) S0_ S1_ ∧ (rg b_ n_ T_ (pb x_ (p_bp b_ n_ wd_)) S1_ ∧ ∀ r_, pb x_ (p_bp b_ n_ wd_) = .inr r_ → ∀ l_ : List Int, l_.length = gl_ → stk (S0_.2.2.1 138 0) l_ → stk (S1_.2.2.1 138 0) (1 :: l_))
set_option maxHeartbeats 1500000 in
theorem vc_325 {sc_ : Nat × (Nat → Int)} (wd_ : Int) (b_ : Nat → Int) (n_ : Nat) (T_ : Nat) (x_ : pE Nat) (mo_ : Int) (gl_ : Nat) (S0_ : sm_S) (hI_ : gi S0_) (ht_ : rtab b_ n_ T_ S0_) (hx_ : rg b_ n_ T_ x_ S0_) (hv_ : (S0_.1 13 0 34) = (gl_ : Int) ∧ gl_ ≤ 1000) (hwd_ : 0 ≤ wd_ ∧ wd_ ≤ 8) : sm_T (mt_P sc_) 3 325 (0, [some (.inr (.inr (some (13, 0)))), some (.inl wd_), none], [], S0_) (fun r_ => ∃ u_ S1_, r_ = (.inl u_, S1_, 0) ∧ vq_325 wd_ b_ n_ T_ x_ mo_ gl_ S0_ u_ S1_) := by
  have hF_ : ai_fr (sx_W vw_325) S0_ S0_ := ai_fr_rf
  refine sm_T_go 2 (c1 := (2, [some (.inr (.inr (some (13, 0)))), some (.inl wd_), none], [.inl 2, .inr (.inr (some (13, 0)))], S0_)) rfl ?_
  refine sm_T_cal (d1 := 1) (Q1 := vq_299 2 b_ n_ T_ x_ S0_) rfl rfl (by decide) (vc_299 2 b_ n_ T_ x_ S0_ hI_ (by exact ht_) (by exact hx_) (by decide)) (fun u_ Sx1_ px4_ => ?_)
  obtain ⟨vx6_, rfl, hIx2_, hFx3_, px4_⟩ := px4_
  have hFx5_ : ai_fr (sx_W vw_325) S0_ Sx1_ := ai_fr_tr hF_ (fr_le hFx3_ rfl)
  have a17_ := px4_.1
  have g17_ := px4_.2
  have t17_ := rtab_fr ht_ hFx3_ rfl rfl rfl rfl rfl
  have at17_ := hFx3_.1 13 0 9 rfl
  have v17b : 0 ≤ vx6_ ∧ vx6_ ≤ 1280 := by rw [a17_, ← at17_]; exact hIx2_.1 13 0 9 rfl
  have w17_ := fr_arr (t := 138) (i := 0) hFx3_ rfl
  have nv17_ : ∀ r_ i3_ : Nat, Sx1_.1 13 0 9 = (i3_ : Int) → rp b_ n_ T_ i3_ r_ → lx_kd b_ n_ r_ = 2 → Sx1_.2.2.1 121 0 vx6_.toNat = lx_vl b_ n_ r_ ∧ Sx1_.2.2.1 120 0 vx6_.toNat = (r_ : Int) ∧ Sx1_.2.2.1 119 0 vx6_.toNat ≠ 4 := by intro r_ i3_ q1_ q2_ q3_; have q4_ := rp_at t17_ q2_; rw [show vx6_.toNat = i3_ by omega, q4_.1, q4_.2.1, q4_.2.2.1, q3_]; exact ⟨rfl, rfl, by decide⟩
  refine sm_T_go 2 (c1 := (7, [some (.inr (.inr (some (13, 0)))), some (.inl wd_), some (.inl vx6_)], [.inr (.inr (some (13, 0)))], Sx1_)) rfl ?_
  refine sm_T_cal (d1 := 0) (Q1 := vq_292  Sx1_) rfl rfl (by decide) (vc_292  Sx1_ hIx2_ ) (fun u_ Sx7_ px10_ => ?_)
  obtain ⟨rfl, vx12_, rfl, px10_⟩ := px10_
  have e22_ := px10_
  refine sm_T_b0 (a := 0) (z := 20) rfl (fun cx13_ => ?_) (fun cx13_ => ?_)
  · have cx13_ : vx12_ = 0 := of_decide_eq_true cx13_
    obtain ⟨e3_, he3_⟩ := rg_w g17_ (wr_if e22_ (by omega))
    have cw3_ := bp_w (wd_ := wd_) he3_
    rw [he3_] at g17_
    obtain ⟨x4_, hx4_, hx4b⟩ : ∃ x4_ : pE Nat, rg b_ n_ T_ x4_ _ ∧ x4_ = .inl e3_ := ⟨_, g17_, rfl⟩
    have t50_ := t17_
    have w50_ := w17_
    refine sm_T_go 1 (c1 := (31, [some (.inr (.inr (some (13, 0)))), some (.inl wd_), some (.inl vx6_)], [.inr (.inr (some (13, 0)))], Sx1_)) rfl ?_
    refine sm_T_cal (d1 := 2) (Q1 := vq_297 b_ n_ T_ x4_ Sx1_) rfl rfl (by decide) (vc_297 b_ n_ T_ x4_ Sx1_ hIx2_ (by exact t50_) (by exact hx4_) (by (intro q_ e_; rw [hx4b] at e_; first | (cases e_; done) | (cases e_; rw [cr.1]; decide)))) (fun u_ Sx14_ px17_ => ?_)
    obtain ⟨rfl, hIx15_, hFx16_, px17_⟩ := px17_
    have hFx18_ : ai_fr (sx_W vw_325) S0_ Sx14_ := ai_fr_tr hFx5_ (fr_le hFx16_ rfl)
    have g51_ := px17_.1
    have nn51_ := fr_arr (t := 121) (i := 0) hFx16_ rfl
    have vl51_ : Sx14_.1 13 0 34 = (gl_ : Int) := (hFx18_.1 13 0 34 rfl).trans hv_.1
    have w51_ := (fr_arr (t := 138) (i := 0) hFx16_ rfl).trans w50_
    refine sm_T_go 1 (c1 := (35, [some (.inr (.inr (some (13, 0)))), some (.inl wd_), some (.inl vx6_)], [.inr (.inr (some (13, 0)))], Sx14_)) rfl ?_
    refine sm_T_cal (d1 := 0) (Q1 := vq_292  Sx14_) rfl rfl (by decide) (vc_292  Sx14_ hIx15_ ) (fun u_ Sx19_ px22_ => ?_)
    obtain ⟨rfl, vx24_, rfl, px22_⟩ := px22_
    have e55_ := px22_
    first | (have v55_ : vx24_ = 0 := (by rw [hx4b] at g51_; rw [e55_, if_neg (fun z_ => g51_.2.2 (g51_.1.symm.trans z_))])) | skip
    refine sm_T_b0 (a := 0) (z := 44) rfl (fun cx25_ => ?_) (fun cx25_ => ?_)
    · have cx25_ : vx24_ = 0 := of_decide_eq_true cx25_
      have hz5_ := wr_if e55_ (by omega)
      refine sm_T_rv rfl ⟨_, _, rfl, rfl, hIx15_, hFx18_, ?_⟩
      first | (exfalso; omega) | (have gq_ : rg b_ n_ T_ (pb x_ (p_bp b_ n_ wd_)) _ := (by first | (rw [cw3_]; rw [hx4b] at g51_; exact g51_) | (rw [crv_]; rw [hx4b] at g51_; exact g51_)); refine ⟨gq_, fun r9_ hr_ l_ hl_ hs_ => ?_⟩; first | (exfalso; rw [hr_] at gq_; exact hz5_ gq_.1) | (exact stk_pu (by omega) rfl (stk_ot (by rw [w51_]; exact hs_) (by decide))))
    · have cx25_ : ¬ (vx24_ = 0) := of_decide_eq_false cx25_
      first | (have hz5_ := rt_if e55_ (by omega); have nv51_ := (congrFun nn51_ _).trans nv_.1; have n51_ : 0 ≤ lx_vl b_ n_ r_ ∧ lx_vl b_ n_ r_ < 8 := (by omega)) | skip
      have bx26_ : 0 ≤ Sx14_.1 13 0 34 ∧ Sx14_.1 13 0 34 ≤ 1023 := hIx15_.1 13 0 34 rfl
      refine sm_T_go 5 (c1 := (51, [some (.inr (.inr (some (13, 0)))), some (.inl wd_), some (.inl vx6_)], [.inl (Sx14_.1 13 0 34), .inl 8, .inr (.inr (some (139, 0)))], Sx14_)) rfl ?_
      refine sm_T_bin (w := 8 * (Sx14_.1 13 0 34)) rfl (bi_mul (by omega) (by omega) (by omega)) ?_
      refine sm_T_go 5 (c1 := (62, [some (.inr (.inr (some (13, 0)))), some (.inl wd_), some (.inl vx6_)], [.inl (Sx14_.1 13 0 34), .inl 8, .inr (.inr (some (139, 0))), .inl (8 * (Sx14_.1 13 0 34)), .inr (.inr (some (139, 0)))], Sx14_)) rfl ?_
      refine sm_T_bin (w := 8 * (Sx14_.1 13 0 34)) rfl (bi_mul (by omega) (by omega) (by omega)) ?_
      refine sm_T_go 3 (c1 := (68, [some (.inr (.inr (some (13, 0)))), some (.inl wd_), some (.inl vx6_)], [.inl vx6_, .inr (.inr (some (121, 0))), .inl (8 * (Sx14_.1 13 0 34)), .inr (.inr (some (139, 0))), .inl (8 * (Sx14_.1 13 0 34)), .inr (.inr (some (139, 0)))], Sx14_)) rfl ?_
      refine sm_T_iald (n := 65537) rfl rfl (by omega) (by omega) ?_
      have bx27_ : (-2147483648) ≤ Sx14_.2.2.1 121 0 vx6_.toNat ∧ Sx14_.2.2.1 121 0 vx6_.toNat ≤ 2147483647 := hIx15_.2 121 0 _
      refine sm_T_bin (w := 8 * (Sx14_.1 13 0 34) + (Sx14_.2.2.1 121 0 vx6_.toNat)) rfl (bi_add (by omega) (by omega) (by omega)) ?_
      refine sm_T_iald (n := 8192) rfl rfl (by omega) (by omega) ?_
      have bx28_ : 0 ≤ Sx14_.2.2.1 139 0 (8 * (Sx14_.1 13 0 34) + (Sx14_.2.2.1 121 0 vx6_.toNat)).toNat ∧ Sx14_.2.2.1 139 0 (8 * (Sx14_.1 13 0 34) + (Sx14_.2.2.1 121 0 vx6_.toNat)).toNat ≤ 2047 := hIx15_.2 139 0 _
      refine sm_T_iast (n := 8192) rfl rfl (by omega) (by omega) ?_
      have hIx29_ : gi (sm_aI Sx14_ 139 0 (8 * (Sx14_.1 13 0 34)).toNat (Sx14_.2.2.1 139 0 (8 * (Sx14_.1 13 0 34) + (Sx14_.2.2.1 121 0 vx6_.toNat)).toNat)) := gi_aI hIx15_ (show 0 ≤ (Sx14_.2.2.1 139 0 (8 * (Sx14_.1 13 0 34) + (Sx14_.2.2.1 121 0 vx6_.toNat)).toNat) ∧ (Sx14_.2.2.1 139 0 (8 * (Sx14_.1 13 0 34) + (Sx14_.2.2.1 121 0 vx6_.toNat)).toNat) ≤ 2047 from ⟨by omega, by omega⟩)
      have hFx30_ : ai_fr (sx_W vw_325) S0_ (sm_aI Sx14_ 139 0 (8 * (Sx14_.1 13 0 34)).toNat (Sx14_.2.2.1 139 0 (8 * (Sx14_.1 13 0 34) + (Sx14_.2.2.1 121 0 vx6_.toNat)).toNat)) := ai_fr_tr hFx18_ (ai_fr_aI rfl)
      refine sm_T_go 5 (c1 := (81, [some (.inr (.inr (some (13, 0)))), some (.inl wd_), some (.inl vx6_)], [.inl 1, .inl (Sx14_.1 13 0 34), .inr (.inr (some (138, 0)))], sm_aI Sx14_ 139 0 (8 * (Sx14_.1 13 0 34)).toNat (Sx14_.2.2.1 139 0 (8 * (Sx14_.1 13 0 34) + (Sx14_.2.2.1 121 0 vx6_.toNat)).toNat))) rfl ?_
      refine sm_T_iast (n := 1024) rfl rfl (by omega) (by omega) ?_
      have hIx31_ : gi (sm_aI (sm_aI Sx14_ 139 0 (8 * (Sx14_.1 13 0 34)).toNat (Sx14_.2.2.1 139 0 (8 * (Sx14_.1 13 0 34) + (Sx14_.2.2.1 121 0 vx6_.toNat)).toNat)) 138 0 (Sx14_.1 13 0 34).toNat 1) := gi_aI hIx29_ (show (-2147483648) ≤ 1 ∧ 1 ≤ 2147483647 from ⟨by omega, by omega⟩)
      have hFx32_ : ai_fr (sx_W vw_325) S0_ (sm_aI (sm_aI Sx14_ 139 0 (8 * (Sx14_.1 13 0 34)).toNat (Sx14_.2.2.1 139 0 (8 * (Sx14_.1 13 0 34) + (Sx14_.2.2.1 121 0 vx6_.toNat)).toNat)) 138 0 (Sx14_.1 13 0 34).toNat 1) := ai_fr_tr hFx30_ (ai_fr_aI rfl)
      refine sm_T_rv rfl ⟨_, _, rfl, rfl, hIx31_, hFx32_, ?_⟩
      first | (exfalso; omega) | (have gq_ : rg b_ n_ T_ (pb x_ (p_bp b_ n_ wd_)) _ := (by first | (rw [cw3_]; rw [hx4b] at g51_; exact g51_) | (rw [crv_]; rw [hx4b] at g51_; exact g51_)); refine ⟨gq_, fun r9_ hr_ l_ hl_ hs_ => ?_⟩; first | (exfalso; rw [hr_] at gq_; exact hz5_ gq_.1) | (exact stk_pu (by omega) rfl (stk_ot (by rw [w51_]; exact hs_) (by decide))))
  · have cx13_ : ¬ (vx12_ = 0) := of_decide_eq_false cx13_
    have hz_ := rt_if e22_ (by omega)
    obtain ⟨r_, i3_, hr3_, e31_, e32_⟩ := rg_r g17_ hz_
    have cr := bp_r (wd_ := wd_) hr3_
    have nv_ := nv17_ r_ i3_ e31_ e32_ cr.1
    have vr0_ := lx_vl_0 cr.1
    refine sm_T_go 3 (c1 := (18, [some (.inr (.inr (some (13, 0)))), some (.inl wd_), some (.inl vx6_)], [.inl vx6_, .inr (.inr (some (121, 0)))], Sx1_)) rfl ?_
    refine sm_T_iald (n := 65537) rfl rfl (by omega) (by omega) ?_
    have bx33_ : (-2147483648) ≤ Sx1_.2.2.1 121 0 vx6_.toNat ∧ Sx1_.2.2.1 121 0 vx6_.toNat ≤ 2147483647 := hIx2_.2 121 0 _
    refine sm_T_go 1 (c1 := (20, [some (.inr (.inr (some (13, 0)))), some (.inl wd_), some (.inl vx6_)], [.inl wd_, .inl (Sx1_.2.2.1 121 0 vx6_.toNat)], Sx1_)) rfl ?_
    refine sm_T_br (a := 2) (z := 10) rfl (fun cx34_ => ?_) (fun cx34_ => ?_)
    · have cx34_ : (Sx1_.2.2.1 121 0 vx6_.toNat) < wd_ := of_decide_eq_true cx34_
      rw [hr3_] at g17_
      obtain ⟨x4_, hx4_, hx4b⟩ : ∃ x4_ : pE Nat, rg b_ n_ T_ x4_ _ ∧ x4_ = .inr r_ := ⟨_, g17_, rfl⟩
      have t50_ := t17_
      have w50_ := w17_
      have crv_ := cr.2
      rw [if_neg (by omega)] at crv_
      refine sm_T_go 1 (c1 := (31, [some (.inr (.inr (some (13, 0)))), some (.inl wd_), some (.inl vx6_)], [.inr (.inr (some (13, 0)))], Sx1_)) rfl ?_
      refine sm_T_cal (d1 := 2) (Q1 := vq_297 b_ n_ T_ x4_ Sx1_) rfl rfl (by decide) (vc_297 b_ n_ T_ x4_ Sx1_ hIx2_ (by exact t50_) (by exact hx4_) (by (intro q_ e_; rw [hx4b] at e_; first | (cases e_; done) | (cases e_; rw [cr.1]; decide)))) (fun u_ Sx35_ px38_ => ?_)
      obtain ⟨rfl, hIx36_, hFx37_, px38_⟩ := px38_
      have hFx39_ : ai_fr (sx_W vw_325) S0_ Sx35_ := ai_fr_tr hFx5_ (fr_le hFx37_ rfl)
      have g51_ := px38_.1
      have nn51_ := fr_arr (t := 121) (i := 0) hFx37_ rfl
      have vl51_ : Sx35_.1 13 0 34 = (gl_ : Int) := (hFx39_.1 13 0 34 rfl).trans hv_.1
      have w51_ := (fr_arr (t := 138) (i := 0) hFx37_ rfl).trans w50_
      refine sm_T_go 1 (c1 := (35, [some (.inr (.inr (some (13, 0)))), some (.inl wd_), some (.inl vx6_)], [.inr (.inr (some (13, 0)))], Sx35_)) rfl ?_
      refine sm_T_cal (d1 := 0) (Q1 := vq_292  Sx35_) rfl rfl (by decide) (vc_292  Sx35_ hIx36_ ) (fun u_ Sx40_ px43_ => ?_)
      obtain ⟨rfl, vx45_, rfl, px43_⟩ := px43_
      have e55_ := px43_
      first | (have v55_ : vx45_ = 0 := (by rw [hx4b] at g51_; rw [e55_, if_neg (fun z_ => g51_.2.2 (g51_.1.symm.trans z_))])) | skip
      refine sm_T_b0 (a := 0) (z := 44) rfl (fun cx46_ => ?_) (fun cx46_ => ?_)
      · have cx46_ : vx45_ = 0 := of_decide_eq_true cx46_
        have hz5_ := wr_if e55_ (by omega)
        refine sm_T_rv rfl ⟨_, _, rfl, rfl, hIx36_, hFx39_, ?_⟩
        first | (exfalso; omega) | (have gq_ : rg b_ n_ T_ (pb x_ (p_bp b_ n_ wd_)) _ := (by first | (rw [cw3_]; rw [hx4b] at g51_; exact g51_) | (rw [crv_]; rw [hx4b] at g51_; exact g51_)); refine ⟨gq_, fun r9_ hr_ l_ hl_ hs_ => ?_⟩; first | (exfalso; rw [hr_] at gq_; exact hz5_ gq_.1) | (exact stk_pu (by omega) rfl (stk_ot (by rw [w51_]; exact hs_) (by decide))))
      · have cx46_ : ¬ (vx45_ = 0) := of_decide_eq_false cx46_
        first | (have hz5_ := rt_if e55_ (by omega); have nv51_ := (congrFun nn51_ _).trans nv_.1; have n51_ : 0 ≤ lx_vl b_ n_ r_ ∧ lx_vl b_ n_ r_ < 8 := (by omega)) | skip
        have bx47_ : 0 ≤ Sx35_.1 13 0 34 ∧ Sx35_.1 13 0 34 ≤ 1023 := hIx36_.1 13 0 34 rfl
        refine sm_T_go 5 (c1 := (51, [some (.inr (.inr (some (13, 0)))), some (.inl wd_), some (.inl vx6_)], [.inl (Sx35_.1 13 0 34), .inl 8, .inr (.inr (some (139, 0)))], Sx35_)) rfl ?_
        refine sm_T_bin (w := 8 * (Sx35_.1 13 0 34)) rfl (bi_mul (by omega) (by omega) (by omega)) ?_
        refine sm_T_go 5 (c1 := (62, [some (.inr (.inr (some (13, 0)))), some (.inl wd_), some (.inl vx6_)], [.inl (Sx35_.1 13 0 34), .inl 8, .inr (.inr (some (139, 0))), .inl (8 * (Sx35_.1 13 0 34)), .inr (.inr (some (139, 0)))], Sx35_)) rfl ?_
        refine sm_T_bin (w := 8 * (Sx35_.1 13 0 34)) rfl (bi_mul (by omega) (by omega) (by omega)) ?_
        refine sm_T_go 3 (c1 := (68, [some (.inr (.inr (some (13, 0)))), some (.inl wd_), some (.inl vx6_)], [.inl vx6_, .inr (.inr (some (121, 0))), .inl (8 * (Sx35_.1 13 0 34)), .inr (.inr (some (139, 0))), .inl (8 * (Sx35_.1 13 0 34)), .inr (.inr (some (139, 0)))], Sx35_)) rfl ?_
        refine sm_T_iald (n := 65537) rfl rfl (by omega) (by omega) ?_
        have bx48_ : (-2147483648) ≤ Sx35_.2.2.1 121 0 vx6_.toNat ∧ Sx35_.2.2.1 121 0 vx6_.toNat ≤ 2147483647 := hIx36_.2 121 0 _
        refine sm_T_bin (w := 8 * (Sx35_.1 13 0 34) + (Sx35_.2.2.1 121 0 vx6_.toNat)) rfl (bi_add (by omega) (by omega) (by omega)) ?_
        refine sm_T_iald (n := 8192) rfl rfl (by omega) (by omega) ?_
        have bx49_ : 0 ≤ Sx35_.2.2.1 139 0 (8 * (Sx35_.1 13 0 34) + (Sx35_.2.2.1 121 0 vx6_.toNat)).toNat ∧ Sx35_.2.2.1 139 0 (8 * (Sx35_.1 13 0 34) + (Sx35_.2.2.1 121 0 vx6_.toNat)).toNat ≤ 2047 := hIx36_.2 139 0 _
        refine sm_T_iast (n := 8192) rfl rfl (by omega) (by omega) ?_
        have hIx50_ : gi (sm_aI Sx35_ 139 0 (8 * (Sx35_.1 13 0 34)).toNat (Sx35_.2.2.1 139 0 (8 * (Sx35_.1 13 0 34) + (Sx35_.2.2.1 121 0 vx6_.toNat)).toNat)) := gi_aI hIx36_ (show 0 ≤ (Sx35_.2.2.1 139 0 (8 * (Sx35_.1 13 0 34) + (Sx35_.2.2.1 121 0 vx6_.toNat)).toNat) ∧ (Sx35_.2.2.1 139 0 (8 * (Sx35_.1 13 0 34) + (Sx35_.2.2.1 121 0 vx6_.toNat)).toNat) ≤ 2047 from ⟨by omega, by omega⟩)
        have hFx51_ : ai_fr (sx_W vw_325) S0_ (sm_aI Sx35_ 139 0 (8 * (Sx35_.1 13 0 34)).toNat (Sx35_.2.2.1 139 0 (8 * (Sx35_.1 13 0 34) + (Sx35_.2.2.1 121 0 vx6_.toNat)).toNat)) := ai_fr_tr hFx39_ (ai_fr_aI rfl)
        refine sm_T_go 5 (c1 := (81, [some (.inr (.inr (some (13, 0)))), some (.inl wd_), some (.inl vx6_)], [.inl 1, .inl (Sx35_.1 13 0 34), .inr (.inr (some (138, 0)))], sm_aI Sx35_ 139 0 (8 * (Sx35_.1 13 0 34)).toNat (Sx35_.2.2.1 139 0 (8 * (Sx35_.1 13 0 34) + (Sx35_.2.2.1 121 0 vx6_.toNat)).toNat))) rfl ?_
        refine sm_T_iast (n := 1024) rfl rfl (by omega) (by omega) ?_
        have hIx52_ : gi (sm_aI (sm_aI Sx35_ 139 0 (8 * (Sx35_.1 13 0 34)).toNat (Sx35_.2.2.1 139 0 (8 * (Sx35_.1 13 0 34) + (Sx35_.2.2.1 121 0 vx6_.toNat)).toNat)) 138 0 (Sx35_.1 13 0 34).toNat 1) := gi_aI hIx50_ (show (-2147483648) ≤ 1 ∧ 1 ≤ 2147483647 from ⟨by omega, by omega⟩)
        have hFx53_ : ai_fr (sx_W vw_325) S0_ (sm_aI (sm_aI Sx35_ 139 0 (8 * (Sx35_.1 13 0 34)).toNat (Sx35_.2.2.1 139 0 (8 * (Sx35_.1 13 0 34) + (Sx35_.2.2.1 121 0 vx6_.toNat)).toNat)) 138 0 (Sx35_.1 13 0 34).toNat 1) := ai_fr_tr hFx51_ (ai_fr_aI rfl)
        refine sm_T_rv rfl ⟨_, _, rfl, rfl, hIx52_, hFx53_, ?_⟩
        first | (exfalso; omega) | (have gq_ : rg b_ n_ T_ (pb x_ (p_bp b_ n_ wd_)) _ := (by first | (rw [cw3_]; rw [hx4b] at g51_; exact g51_) | (rw [crv_]; rw [hx4b] at g51_; exact g51_)); refine ⟨gq_, fun r9_ hr_ l_ hl_ hs_ => ?_⟩; first | (exfalso; rw [hr_] at gq_; exact hz5_ gq_.1) | (exact stk_pu (by omega) rfl (stk_ot (by rw [w51_]; exact hs_) (by decide))))
    · have cx34_ : ¬ ((Sx1_.2.2.1 121 0 vx6_.toNat) < wd_) := of_decide_eq_false cx34_
      have crv_ := cr.2
      rw [if_pos (by omega)] at crv_
      refine sm_T_go 3 (c1 := (27, [some (.inr (.inr (some (13, 0)))), some (.inl wd_), some (.inl vx6_)], [.inl vx6_, .inl 12, .inr (.inr (some (13, 0)))], Sx1_)) rfl ?_
      refine sm_T_cal (d1 := 0) (Q1 := vq_293 12 vx6_ Sx1_) rfl rfl (by decide) (vc_293 12 vx6_ Sx1_ hIx2_ (by decide) (by omega)) (fun u_ Sx54_ px57_ => ?_)
      obtain ⟨rfl, hIx55_, hFx56_, px57_⟩ := px57_
      have hFx58_ : ai_fr (sx_W vw_325) S0_ Sx54_ := ai_fr_tr hFx5_ (fr_le hFx56_ rfl)
      have g47_ : rg b_ n_ T_ (.inl (12, r_)) Sx54_ := by rcases px57_ with z_ | z_; (exact absurd hz_ z_.1); (exact ⟨z_.2.1.trans (if_neg nv_.2.2), z_.2.2.trans nv_.2.1, by show (12 : Int) ≠ 0; decide⟩)
      obtain ⟨x4_, hx4_, hx4b⟩ : ∃ x4_ : pE Nat, rg b_ n_ T_ x4_ Sx54_ ∧ x4_ = .inl (12, r_) := ⟨_, g47_, rfl⟩
      have t50_ := rtab_fr t17_ hFx56_ rfl rfl rfl rfl rfl
      have w50_ := (fr_arr (t := 138) (i := 0) hFx56_ rfl).trans w17_
      refine sm_T_go 1 (c1 := (31, [some (.inr (.inr (some (13, 0)))), some (.inl wd_), some (.inl vx6_)], [.inr (.inr (some (13, 0)))], Sx54_)) rfl ?_
      refine sm_T_cal (d1 := 2) (Q1 := vq_297 b_ n_ T_ x4_ Sx54_) rfl rfl (by decide) (vc_297 b_ n_ T_ x4_ Sx54_ hIx55_ (by exact t50_) (by exact hx4_) (by (intro q_ e_; rw [hx4b] at e_; first | (cases e_; done) | (cases e_; rw [cr.1]; decide)))) (fun u_ Sx59_ px62_ => ?_)
      obtain ⟨rfl, hIx60_, hFx61_, px62_⟩ := px62_
      have hFx63_ : ai_fr (sx_W vw_325) S0_ Sx59_ := ai_fr_tr hFx58_ (fr_le hFx61_ rfl)
      have g51_ := px62_.1
      have nn51_ := fr_arr (t := 121) (i := 0) hFx61_ rfl
      have vl51_ : Sx59_.1 13 0 34 = (gl_ : Int) := (hFx63_.1 13 0 34 rfl).trans hv_.1
      have w51_ := (fr_arr (t := 138) (i := 0) hFx61_ rfl).trans w50_
      refine sm_T_go 1 (c1 := (35, [some (.inr (.inr (some (13, 0)))), some (.inl wd_), some (.inl vx6_)], [.inr (.inr (some (13, 0)))], Sx59_)) rfl ?_
      refine sm_T_cal (d1 := 0) (Q1 := vq_292  Sx59_) rfl rfl (by decide) (vc_292  Sx59_ hIx60_ ) (fun u_ Sx64_ px67_ => ?_)
      obtain ⟨rfl, vx69_, rfl, px67_⟩ := px67_
      have e55_ := px67_
      first | (have v55_ : vx69_ = 0 := (by rw [hx4b] at g51_; rw [e55_, if_neg (fun z_ => g51_.2.2 (g51_.1.symm.trans z_))])) | skip
      refine sm_T_b0 (a := 0) (z := 44) rfl (fun cx70_ => ?_) (fun cx70_ => ?_)
      · have cx70_ : vx69_ = 0 := of_decide_eq_true cx70_
        have hz5_ := wr_if e55_ (by omega)
        refine sm_T_rv rfl ⟨_, _, rfl, rfl, hIx60_, hFx63_, ?_⟩
        first | (exfalso; omega) | (have gq_ : rg b_ n_ T_ (pb x_ (p_bp b_ n_ wd_)) _ := (by first | (rw [cw3_]; rw [hx4b] at g51_; exact g51_) | (rw [crv_]; rw [hx4b] at g51_; exact g51_)); refine ⟨gq_, fun r9_ hr_ l_ hl_ hs_ => ?_⟩; first | (exfalso; rw [hr_] at gq_; exact hz5_ gq_.1) | (exact stk_pu (by omega) rfl (stk_ot (by rw [w51_]; exact hs_) (by decide))))
      · have cx70_ : ¬ (vx69_ = 0) := of_decide_eq_false cx70_
        first | (have hz5_ := rt_if e55_ (by omega); have nv51_ := (congrFun nn51_ _).trans nv_.1; have n51_ : 0 ≤ lx_vl b_ n_ r_ ∧ lx_vl b_ n_ r_ < 8 := (by omega)) | skip
        have bx71_ : 0 ≤ Sx59_.1 13 0 34 ∧ Sx59_.1 13 0 34 ≤ 1023 := hIx60_.1 13 0 34 rfl
        refine sm_T_go 5 (c1 := (51, [some (.inr (.inr (some (13, 0)))), some (.inl wd_), some (.inl vx6_)], [.inl (Sx59_.1 13 0 34), .inl 8, .inr (.inr (some (139, 0)))], Sx59_)) rfl ?_
        refine sm_T_bin (w := 8 * (Sx59_.1 13 0 34)) rfl (bi_mul (by omega) (by omega) (by omega)) ?_
        refine sm_T_go 5 (c1 := (62, [some (.inr (.inr (some (13, 0)))), some (.inl wd_), some (.inl vx6_)], [.inl (Sx59_.1 13 0 34), .inl 8, .inr (.inr (some (139, 0))), .inl (8 * (Sx59_.1 13 0 34)), .inr (.inr (some (139, 0)))], Sx59_)) rfl ?_
        refine sm_T_bin (w := 8 * (Sx59_.1 13 0 34)) rfl (bi_mul (by omega) (by omega) (by omega)) ?_
        refine sm_T_go 3 (c1 := (68, [some (.inr (.inr (some (13, 0)))), some (.inl wd_), some (.inl vx6_)], [.inl vx6_, .inr (.inr (some (121, 0))), .inl (8 * (Sx59_.1 13 0 34)), .inr (.inr (some (139, 0))), .inl (8 * (Sx59_.1 13 0 34)), .inr (.inr (some (139, 0)))], Sx59_)) rfl ?_
        refine sm_T_iald (n := 65537) rfl rfl (by omega) (by omega) ?_
        have bx72_ : (-2147483648) ≤ Sx59_.2.2.1 121 0 vx6_.toNat ∧ Sx59_.2.2.1 121 0 vx6_.toNat ≤ 2147483647 := hIx60_.2 121 0 _
        refine sm_T_bin (w := 8 * (Sx59_.1 13 0 34) + (Sx59_.2.2.1 121 0 vx6_.toNat)) rfl (bi_add (by omega) (by omega) (by omega)) ?_
        refine sm_T_iald (n := 8192) rfl rfl (by omega) (by omega) ?_
        have bx73_ : 0 ≤ Sx59_.2.2.1 139 0 (8 * (Sx59_.1 13 0 34) + (Sx59_.2.2.1 121 0 vx6_.toNat)).toNat ∧ Sx59_.2.2.1 139 0 (8 * (Sx59_.1 13 0 34) + (Sx59_.2.2.1 121 0 vx6_.toNat)).toNat ≤ 2047 := hIx60_.2 139 0 _
        refine sm_T_iast (n := 8192) rfl rfl (by omega) (by omega) ?_
        have hIx74_ : gi (sm_aI Sx59_ 139 0 (8 * (Sx59_.1 13 0 34)).toNat (Sx59_.2.2.1 139 0 (8 * (Sx59_.1 13 0 34) + (Sx59_.2.2.1 121 0 vx6_.toNat)).toNat)) := gi_aI hIx60_ (show 0 ≤ (Sx59_.2.2.1 139 0 (8 * (Sx59_.1 13 0 34) + (Sx59_.2.2.1 121 0 vx6_.toNat)).toNat) ∧ (Sx59_.2.2.1 139 0 (8 * (Sx59_.1 13 0 34) + (Sx59_.2.2.1 121 0 vx6_.toNat)).toNat) ≤ 2047 from ⟨by omega, by omega⟩)
        have hFx75_ : ai_fr (sx_W vw_325) S0_ (sm_aI Sx59_ 139 0 (8 * (Sx59_.1 13 0 34)).toNat (Sx59_.2.2.1 139 0 (8 * (Sx59_.1 13 0 34) + (Sx59_.2.2.1 121 0 vx6_.toNat)).toNat)) := ai_fr_tr hFx63_ (ai_fr_aI rfl)
        refine sm_T_go 5 (c1 := (81, [some (.inr (.inr (some (13, 0)))), some (.inl wd_), some (.inl vx6_)], [.inl 1, .inl (Sx59_.1 13 0 34), .inr (.inr (some (138, 0)))], sm_aI Sx59_ 139 0 (8 * (Sx59_.1 13 0 34)).toNat (Sx59_.2.2.1 139 0 (8 * (Sx59_.1 13 0 34) + (Sx59_.2.2.1 121 0 vx6_.toNat)).toNat))) rfl ?_
        refine sm_T_iast (n := 1024) rfl rfl (by omega) (by omega) ?_
        have hIx76_ : gi (sm_aI (sm_aI Sx59_ 139 0 (8 * (Sx59_.1 13 0 34)).toNat (Sx59_.2.2.1 139 0 (8 * (Sx59_.1 13 0 34) + (Sx59_.2.2.1 121 0 vx6_.toNat)).toNat)) 138 0 (Sx59_.1 13 0 34).toNat 1) := gi_aI hIx74_ (show (-2147483648) ≤ 1 ∧ 1 ≤ 2147483647 from ⟨by omega, by omega⟩)
        have hFx77_ : ai_fr (sx_W vw_325) S0_ (sm_aI (sm_aI Sx59_ 139 0 (8 * (Sx59_.1 13 0 34)).toNat (Sx59_.2.2.1 139 0 (8 * (Sx59_.1 13 0 34) + (Sx59_.2.2.1 121 0 vx6_.toNat)).toNat)) 138 0 (Sx59_.1 13 0 34).toNat 1) := ai_fr_tr hFx75_ (ai_fr_aI rfl)
        refine sm_T_rv rfl ⟨_, _, rfl, rfl, hIx76_, hFx77_, ?_⟩
        first | (exfalso; omega) | (have gq_ : rg b_ n_ T_ (pb x_ (p_bp b_ n_ wd_)) _ := (by first | (rw [cw3_]; rw [hx4b] at g51_; exact g51_) | (rw [crv_]; rw [hx4b] at g51_; exact g51_)); refine ⟨gq_, fun r9_ hr_ l_ hl_ hs_ => ?_⟩; first | (exfalso; rw [hr_] at gq_; exact hz5_ gq_.1) | (exact stk_pu (by omega) rfl (stk_ot (by rw [w51_]; exact hs_) (by decide))))
end
