/-! the reference: items, small steps; written by wip/p55/gen/vg -/

/-! items, second pass: small steps -/
/-- the_ beginning and the_ next values fit_ the_ registers made and the_ graph -/
def rnS (S_ : sm_S) : Prop := (0 ≤ S_.1 13 0 52 ∧ S_.1 13 0 52 < 2 ^ (S_.1 13 0 53).toNat) ∧ ∀ k_ : Nat, (k_ : Int) < S_.1 13 0 53 → 0 ≤ S_.2.2.1 151 0 k_ ∧ S_.2.2.1 151 0 k_ < 2 * S_.1 13 0 37
theorem rnS_up {S_ S'_ : sm_S} (h_ : rnS S_) (e1_ : S'_.1 13 0 52 = S_.1 13 0 52) (e2_ : S'_.1 13 0 53 = S_.1 13 0 53) (e3_ : S'_.2.2.1 151 0 = S_.2.2.1 151 0) (e4_ : S_.1 13 0 37 ≤ S'_.1 13 0 37) : rnS S'_ := by
  unfold rnS
  rw [e1_, e2_, e3_]
  refine ⟨h_.1, fun k_ hk_ => ?_⟩
  have := h_.2 k_ hk_
  omega
theorem rnS_fr {w_ : sx_Wl} {S_ S'_ : sm_S} (h_ : rnS S_) (g_ : ai_fr (sx_W w_) S_ S'_) (h1_ : (sx_W w_).1 13 52 = false) (h2_ : (sx_W w_).1 13 53 = false) (h3_ : (sx_W w_).1 13 37 = false) (h4_ : (sx_W w_).2.1 151 = false) : rnS S'_ := rnS_up h_ (g_.1 13 0 52 h1_) (g_.1 13 0 53 h2_) (fr_arr g_ h4_) (by rw [g_.1 13 0 37 h3_]; exact Int.le_refl _)
theorem rgl_n {F_ : Nat} {G_ : pGr} {S_ : sm_S} (h_ : rgl F_ G_ S_) (hl_ : G_.length ≤ 1001) : S_.1 13 0 37 = ((F_ + G_.length : Nat) : Int) := by
  obtain ⟨G1_, x_, y_⟩ := h_
  rcases y_ with y_ | y_
  · rw [← y_.2]; exact x_.2.2.1
  · omega
theorem ev_w {F_ I_ : Nat} {A_ : pA} {X_ : Nat → gQ → gE → Option (gQ × gE)} {m_ : Nat} {s_ r_ : gS} {c_ : List Int} (hX_ : lwX F_ I_ X_) (h_ : ev F_ I_ A_ X_ m_ s_ c_ = some r_) (hl_ : F_ + r_.1.1.length ≤ 1023) (hR_ : 1 + I_ + r_.1.2.1 ≤ F_) (hs_ : lwS F_ s_) : lwS F_ r_ := ec_w hX_ _ _ _ h_ hl_ hR_ hs_
theorem ev_R {F_ I_ : Nat} {A_ : pA} {X_ : Nat → gQ → gE → Option (gQ × gE)} {m_ : Nat} {s_ r_ : gS} {c_ : List Int} (hX_ : lwX F_ I_ X_) (h_ : ev F_ I_ A_ X_ m_ s_ c_ = some r_) : s_.1.2.1 ≤ r_.1.2.1 := ec_R hX_ _ _ _ h_
def nxs (b_ : Nat → Int) (n_ : Nat) (s_ : Int) : Nat → Nat → Nat → Prop
  | 0, p_, u_ => p_ = u_ ∧ lx_kd b_ n_ p_ = s_
  | f_ + 1, p_, u_ => lx_kd b_ n_ p_ ≠ s_ ∧ lx_kd b_ n_ p_ ≠ 0 ∧ ∃ q_, p_ad b_ n_ p_ = .inr q_ ∧ nxs b_ n_ s_ f_ q_ u_
theorem ad_r {b_ : Nat → Int} {n_ p_ q_ : Nat} (h_ : p_ad b_ n_ p_ = .inr q_) : q_ = lx_nx b_ n_ p_ ∧ lx_kd b_ n_ q_ ≠ -1 := by
  unfold p_ad at h_
  split at h_
  · cases h_
  · rename_i g_
    cases h_
    exact ⟨rfl, g_⟩
theorem rg_pp {b_ : Nat → Int} {n_ T_ p_ q_ : Nat} {S_ : sm_S} {x_ : Int} (ht_ : rtab b_ n_ T_ S_) (hg_ : rg b_ n_ T_ (.inr p_) S_) (hk_ : lx_kd b_ n_ p_ ≠ 0) (ha_ : p_ad b_ n_ p_ = .inr q_) (hx_ : x_ = S_.1 13 0 9 + 1) : rg b_ n_ T_ (.inr q_) (sm_pI S_ 13 0 9 x_) ∧ S_.1 13 0 9 + 1 ≤ (T_ : Int) := by
  obtain ⟨hf_, i_, h1_, h2_⟩ := hg_
  obtain ⟨a1_, a2_⟩ := ad_r ha_
  obtain ⟨r1_, r2_, r3_, r4_⟩ := rp_nx ht_ h2_ hk_
  rw [← a1_] at r4_
  refine ⟨⟨hf_, i_ + 1, ?_, r4_ a2_⟩, by omega⟩
  rw [rf_eq, hx_, h1_]
  push_cast
  rfl
/-! M_.behindSign -/
def vw_343 : sx_Wl := ([(13, 9)], [], [])
def vq_343 (s_ : Int) (b_ : Nat → Int) (n_ : Nat) (T_ : Nat) (p_ : Nat) (uu_ : Nat) (f_ : Nat) (q_ : Nat) (S0_ : sm_S) (u_ : Option sm_V) (S1_ : sm_S) : Prop := u_ = none ∧ gi S1_ ∧ ai_fr (sx_W vw_343) S0_ S1_ ∧ (rg b_ n_ T_ (.inr q_) S1_)
set_option maxHeartbeats 400000 in
theorem vl_343 {sc_ : Nat × (Nat → Int)} (s_ : Int) (b_ : Nat → Int) (n_ : Nat) (T_ : Nat) (p_ : Nat) (uu_ : Nat) (f_ : Nat) (q_ : Nat) (S0_ : sm_S) (ht_ : rtab b_ n_ T_ S0_) (hx_ : rg b_ n_ T_ (.inr p_) S0_) (hn_ : nxs b_ n_ s_ f_ p_ uu_) (hq_ : p_ad b_ n_ uu_ = .inr q_) (hs_ : 33 ≤ s_ ∧ s_ ≤ 300) : ∀ nn_ : Nat, (∀  (S_ : sm_S), gi S_ → ai_fr (sx_W vw_343) S0_ S_ → ((∃ p1_ f1_, rg b_ n_ T_ (.inr p1_) S_ ∧ nxs b_ n_ s_ f1_ p1_ uu_) ∧ True) → (((T_ : Int) - (S_.1 13 0 9)).toNat) < nn_ → sm_T (mt_P sc_) 1 343 (0, [some (.inr (.inr (some (13, 0)))), some (.inl s_)], [], S_) (fun ro9_ => ∃ u_ S1_, ro9_ = (.inl u_, S1_, 0) ∧ vq_343 s_ b_ n_ T_ p_ uu_ f_ q_ S0_ u_ S1_)) := by
  intro nn_
  induction nn_ with
  | zero => exact fun  _ _ _ _ h_ => absurd h_ (Nat.not_lt_zero _)
  | succ nn_ ih_ =>
    rintro  S_ hI_ hF_ ⟨h1_, -⟩ hm_
    obtain ⟨p1_, f1_, z1_, z2_⟩ := h1_
    have ht1_ := rtab_fr ht_ hF_ rfl rfl rfl rfl rfl
    have hT_ := ht_.2.1
    refine sm_T_go 2 (c1 := (2, [some (.inr (.inr (some (13, 0)))), some (.inl s_)], [.inl s_, .inr (.inr (some (13, 0)))], S_)) rfl ?_
    refine sm_T_cal (d1 := 0) (Q1 := vq_295 s_ b_ n_ T_ (.inr p1_) S_) rfl rfl (by decide) (vc_295 s_ b_ n_ T_ (.inr p1_) S_ hI_ (by exact ht1_) (by exact z1_) (by omega)) (fun u_ Sx1_ px4_ => ?_)
    obtain ⟨rfl, vx6_, rfl, px4_⟩ := px4_
    have e2_ := px4_.2 p1_ rfl
    have r2_ := px4_.1.1
    refine sm_T_b0 (a := 1) (z := 16) rfl (fun cx7_ => ?_) (fun cx7_ => ?_)
    · have cx7_ : vx6_ ≠ 0 := of_decide_eq_true cx7_
      have k1_ : lx_kd b_ n_ p1_ = s_ := e2_.mp (by omega)
      have pu_ : p1_ = uu_ := by cases f1_ with | zero => exact z2_.1 | succ f1_ => exact absurd k1_ z2_.1
      subst pu_
      have rp := rg_pp (x_ := S_.1 13 0 9 + 1) ht1_ z1_ (by omega) hq_ rfl
      have rp2_ := rp.2
      have bx8_ : 0 ≤ S_.1 13 0 9 ∧ S_.1 13 0 9 ≤ 1280 := hI_.1 13 0 9 rfl
      refine sm_T_go 4 (c1 := (27, [some (.inr (.inr (some (13, 0)))), some (.inl s_)], [.inl 1, .inl (S_.1 13 0 9), .inr (.inr (some (13, 0)))], S_)) rfl ?_
      refine sm_T_bin (w := (S_.1 13 0 9) + 1) rfl (bi_add (by omega) (by omega) (by omega)) ?_
      have hIx9_ : gi (sm_pI S_ 13 0 9 ((S_.1 13 0 9) + 1)) := gi_pI hI_ (show 0 ≤ (S_.1 13 0 9) + 1 ∧ (S_.1 13 0 9) + 1 ≤ 1280 from ⟨by omega, by omega⟩)
      have hFx10_ : ai_fr (sx_W vw_343) S0_ (sm_pI S_ 13 0 9 ((S_.1 13 0 9) + 1)) := ai_fr_tr hF_ (ai_fr_pI rfl)
      refine sm_T_go 1 (c1 := (31, [some (.inr (.inr (some (13, 0)))), some (.inl s_)], [], sm_pI S_ 13 0 9 ((S_.1 13 0 9) + 1))) rfl ?_
      refine sm_T_rv rfl ⟨_, _, rfl, rfl, hIx9_, hFx10_, ?_⟩
      exact rp.1
    · have cx7_ : ¬ (vx6_ ≠ 0) := of_decide_eq_false cx7_
      have k1_ : lx_kd b_ n_ p1_ ≠ s_ := fun z_ => by have := e2_.mpr z_; omega
      obtain ⟨f2_, q2_, k2_, k3_, k4_⟩ : ∃ f2_ q2_, lx_kd b_ n_ p1_ ≠ 0 ∧ p_ad b_ n_ p1_ = .inr q2_ ∧ nxs b_ n_ s_ f2_ q2_ uu_ := by cases f1_ with | zero => exact absurd z2_.2 k1_ | succ f1_ => (obtain ⟨w1_, w2_, q9_, w3_, w4_⟩ := z2_; exact ⟨f1_, q9_, w2_, w3_, w4_⟩)
      have rp := rg_pp (x_ := S_.1 13 0 9 + 1) ht1_ z1_ k2_ k3_ rfl
      have rp2_ := rp.2
      have bx11_ : 0 ≤ S_.1 13 0 9 ∧ S_.1 13 0 9 ≤ 1280 := hI_.1 13 0 9 rfl
      refine sm_T_go 4 (c1 := (14, [some (.inr (.inr (some (13, 0)))), some (.inl s_)], [.inl 1, .inl (S_.1 13 0 9), .inr (.inr (some (13, 0)))], S_)) rfl ?_
      refine sm_T_bin (w := (S_.1 13 0 9) + 1) rfl (bi_add (by omega) (by omega) (by omega)) ?_
      have hIx12_ : gi (sm_pI S_ 13 0 9 ((S_.1 13 0 9) + 1)) := gi_pI hI_ (show 0 ≤ (S_.1 13 0 9) + 1 ∧ (S_.1 13 0 9) + 1 ≤ 1280 from ⟨by omega, by omega⟩)
      have hFx13_ : ai_fr (sx_W vw_343) S0_ (sm_pI S_ 13 0 9 ((S_.1 13 0 9) + 1)) := ai_fr_tr hF_ (ai_fr_pI rfl)
      refine sm_T_go 2 (c1 := (0, [some (.inr (.inr (some (13, 0)))), some (.inl s_)], [], sm_pI S_ 13 0 9 ((S_.1 13 0 9) + 1))) rfl ?_
      refine ih_  (sm_pI S_ 13 0 9 ((S_.1 13 0 9) + 1)) hIx12_ hFx13_ ⟨?_, trivial⟩ ?_
      · exact ⟨q2_, f2_, rp.1, k4_⟩
      · (try simp only [rd_eq, rd_ne, rf_eq, rf_nk, rf_nt, rd_fa, rd_af, rd_fl, rd_al, rd_lf, rd_la, rd_leq, rd_lne, rd_fr, rd_ar, ne_eq, Nat.reduceEqDiff, not_false_eq_true]); omega
set_option maxHeartbeats 400000 in
theorem vc_343 {sc_ : Nat × (Nat → Int)} (s_ : Int) (b_ : Nat → Int) (n_ : Nat) (T_ : Nat) (p_ : Nat) (uu_ : Nat) (f_ : Nat) (q_ : Nat) (S0_ : sm_S) (hI_ : gi S0_) (ht_ : rtab b_ n_ T_ S0_) (hx_ : rg b_ n_ T_ (.inr p_) S0_) (hn_ : nxs b_ n_ s_ f_ p_ uu_) (hq_ : p_ad b_ n_ uu_ = .inr q_) (hs_ : 33 ≤ s_ ∧ s_ ≤ 300) : sm_T (mt_P sc_) 1 343 (0, [some (.inr (.inr (some (13, 0)))), some (.inl s_)], [], S0_) (fun ro9_ => ∃ u_ S1_, ro9_ = (.inl u_, S1_, 0) ∧ vq_343 s_ b_ n_ T_ p_ uu_ f_ q_ S0_ u_ S1_) := by
  have hF_ : ai_fr (sx_W vw_343) S0_ S0_ := ai_fr_rf
  refine (vl_343 s_ b_ n_ T_ p_ uu_ f_ q_ S0_ ht_ hx_ hn_ hq_ hs_ _)  S0_ hI_ hF_ ⟨?_, trivial⟩ (Nat.lt_succ_self _)
  · exact ⟨p_, f_, hx_, hn_⟩
