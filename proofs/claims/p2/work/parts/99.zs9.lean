/-! the reference: tasks done; written by wip/p55/gen/vg -/

/-! the_ reference: tasks done -/
def gdr (F_ N_ : Int) (S_ : sm_S) : Prop := ∀ n_ : Int, F_ ≤ n_ → n_ < N_ → S_.2.2.1 202 0 n_.toNat = 1 → S_.2.2.1 203 0 n_.toNat = 1 → S_.2.2.1 210 0 (2 * n_).toNat < 1000000000
def jtop (S_ : sm_S) : Int := S_.2.2.1 220 0 (S_.1 13 0 137 - 1).toNat
def jtos (S_ : sm_S) : Int := S_.2.2.1 221 0 (S_.1 13 0 137 - 1).toNat
theorem tpv_e {S_ : sm_S} (h_ : S_.1 13 0 137 ≠ 0) : (jdn S_ (jtos S_) (jtop S_) → tpv_ S_ = 4000 + S_.1 13 0 137) ∧ (¬ jdn S_ (jtos S_) (jtop S_) → tpv_ S_ = jrk S_ (jtos S_) (jtop S_)) := by
  refine ⟨fun d_ => ?_, fun d_ => ?_⟩
  · unfold tpv_
    rw [if_neg h_]
    exact if_pos d_
  · unfold tpv_
    rw [if_neg h_]
    exact if_neg d_
theorem mad_cg {F_ : Int} {S_ S'_ : sm_S} (h_ : mad F_ S_) (e_ : S'_.1 13 0 129 = S_.1 13 0 129) (e6_ : S'_.2.2.1 216 0 = S_.2.2.1 216 0) (e7_ : S'_.2.2.1 217 0 = S_.2.2.1 217 0) (e5_ : S'_.2.2.1 185 0 = S_.2.2.1 185 0) (e106_ : S'_.1 13 0 106 = S_.1 13 0 106) (e134_ : S'_.1 13 0 134 = S_.1 13 0 134) : mad F_ S'_ := by
  unfold mad
  rw [e_, e6_, e7_, e5_, e106_, e134_]
  exact h_
theorem wk_pop {F_ N_ : Int} {S_ : sm_S} (hI_ : gi S_) (hg_ : gst F_ N_ S_) (hj_ : jsk F_ N_ S_) (hc_ : 1 ≤ S_.1 13 0 137) (hF_ : 1 ≤ F_) (dn_ : jdn S_ (jtos S_) (jtop S_)) : gst F_ N_ (sm_pI S_ 13 0 137 (S_.1 13 0 137 - 1)) ∧ jsk F_ N_ (sm_pI S_ 13 0 137 (S_.1 13 0 137 - 1)) ∧ mea_ N_ (sm_pI S_ 13 0 137 (S_.1 13 0 137 - 1)) < mea_ N_ S_ ∧ S_.1 13 0 129 ≤ (sm_pI S_ 13 0 137 (S_.1 13 0 137 - 1)).1 13 0 129 := by
  obtain ⟨S'_, hS_⟩ : ∃ S'_, S'_ = sm_pI S_ 13 0 137 (S_.1 13 0 137 - 1) := ⟨_, rfl⟩
  have j1_ : S'_.1 13 0 137 = S_.1 13 0 137 - 1 := by rw [hS_]; exact rf_eq
  have a_ : ∀ t_, S'_.2.2.1 t_ 0 = S_.2.2.1 t_ 0 := fun t_ => by rw [hS_]; rfl
  have f_ : ∀ k_, k_ ≠ 137 → S'_.1 13 0 k_ = S_.1 13 0 k_ := fun k_ hk_ => by rw [hS_]; exact rf_nk hk_
  rw [← hS_]
  have js_ : jsk F_ N_ S'_ := fun i_ i0_ i1_ => by
    rw [j1_] at i1_
    rw [a_, a_, jrk_cg (a_ 211)]
    exact ⟨jgd_cg (hj_ i_ i0_ (by omega)).1 (a_ _) (a_ _) (a_ _), (hj_ i_ i0_ (by omega)).2⟩
  refine ⟨gst_cg hg_ (f_ _ (by decide)) (a_ _) (a_ _) (a_ _) (a_ _) (a_ _) (f_ _ (by decide)) (f_ _ (by decide)), js_, ?_, by (rw [f_ 129 (by decide)]; exact Int.le_refl _)⟩
  have t_ := (tpv_e (S_ := S_) (by omega)).1 dn_
  unfold mea_
  rw [inc_cg (a_ 218) (a_ 219), t_]
  have q_ : tpv_ S'_ < 4000 + S_.1 13 0 137 := by
    unfold tpv_
    rw [j1_]
    split
    · omega
    · split
      · omega
      · have w_ := (js_ (S_.1 13 0 137 - 1 - 1) (by omega) (by omega)).2
        rw [← j1_] at w_ ⊢
        omega
  omega
theorem wk_push {F_ N_ s_ w_ : Int} {S_ S'_ : sm_S} (hI_ : gi S_) (hg_ : gst F_ N_ S_) (hj_ : jsk F_ N_ S_) (hc_ : 1 ≤ S_.1 13 0 137) (hF_ : 1 ≤ F_) (a_ : jap s_ w_ S_ S'_) (f_ : ai_fr (sx_W ([(13, 137)], [220, 221], [])) S_ S'_) (g_ : jgd F_ N_ S_ s_ w_) (r_ : jrk S_ s_ w_ < jrk S_ (jtos S_) (jtop S_)) (nd_ : ¬ jdn S_ (jtos S_) (jtop S_)) (nn9_ : ¬ jdn S_ s_ w_) : gst F_ N_ S'_ ∧ jsk F_ N_ S'_ ∧ mea_ N_ S'_ < mea_ N_ S_ ∧ S_.1 13 0 129 ≤ S'_.1 13 0 129 := by
  have tp_ := hj_ (S_.1 13 0 137 - 1) (by omega) (by omega)
  have tr_ : jrk S_ (jtos S_) (jtop S_) + (S_.1 13 0 137 - 1) ≤ 3042 := tp_.2
  have e1_ : jtos S'_ = s_ := by unfold jtos; rw [a_.1, a_.2.2, if_pos (by omega)]
  have e2_ : jtop S'_ = w_ := by unfold jtop; rw [a_.1, a_.2.1, if_pos (by omega)]
  have rb := jrk_b hI_ g_ hF_
  refine ⟨gst_cg hg_ (f_.1 13 0 129 rfl) (fr_arr f_ rfl) (fr_arr f_ rfl) (fr_arr f_ rfl) (fr_arr f_ rfl) (fr_arr f_ rfl) (f_.1 13 0 106 rfl) (f_.1 13 0 134 rfl), jsk_ap hj_ a_ (by omega) g_ (by omega) (fr_arr f_ rfl) (fr_arr f_ rfl) (fr_arr f_ rfl) (fr_arr f_ rfl), ?_, by (rw [f_.1 13 0 129 rfl]; exact Int.le_refl _)⟩
  have t_ := (tpv_e (S_ := S_) (by omega)).2 nd_
  have t'_ := (tpv_e (S_ := S'_) (by rw [a_.1]; omega)).2 (by
    rw [e1_, e2_]
    unfold jdn at *
    rw [fr_arr f_ (t := 218) rfl, fr_arr f_ (t := 219) rfl]
    exact nn9_)
  rw [e1_, e2_, jrk_cg (fr_arr f_ rfl)] at t'_
  unfold mea_
  rw [inc_cg (fr_arr f_ rfl) (fr_arr f_ rfl), t_, t'_]
  omega
theorem wk_g {F_ N_ w_ v_ : Int} {S_ Sx_ : sm_S} {w9_ : sx_Wl} (hI_ : gi (sm_aI Sx_ 218 0 w_.toNat v_)) (hg_ : gst F_ N_ S_) (hj_ : jsk F_ N_ S_) (hc_ : 0 ≤ S_.1 13 0 137) (hF_ : 1 ≤ F_) (f_ : ai_fr (sx_W w9_) S_ Sx_) (hw_ : 2 * F_ ≤ w_ ∧ w_ < 2 * N_) (h0_ : S_.2.2.1 218 0 w_.toNat = -1) (e_ : v_ = F_ - 1 + S_.1 13 0 129 ∧ Sx_.1 13 0 129 = S_.1 13 0 129 + 1 ∧ mad F_ Sx_) (h1_ : (sx_W w9_).1 13 137 = false := by rfl) (h2_ : (sx_W w9_).2.1 220 = false := by rfl) (h3_ : (sx_W w9_).2.1 221 = false := by rfl) (h4_ : (sx_W w9_).2.1 202 = false := by rfl) (h5_ : (sx_W w9_).2.1 203 = false := by rfl) (h6_ : (sx_W w9_).2.1 210 = false := by rfl) (h7_ : (sx_W w9_).2.1 211 = false := by rfl) (h8_ : (sx_W w9_).2.1 218 = false := by rfl) (h9_ : (sx_W w9_).2.1 219 = false := by rfl) : gst F_ N_ (sm_aI Sx_ 218 0 w_.toNat v_) ∧ jsk F_ N_ (sm_aI Sx_ 218 0 w_.toNat v_) ∧ mea_ N_ (sm_aI Sx_ 218 0 w_.toNat v_) < mea_ N_ S_ ∧ S_.1 13 0 129 ≤ (sm_aI Sx_ 218 0 w_.toNat v_).1 13 0 129 := by
  obtain ⟨S'_, hS_⟩ : ∃ S'_, S'_ = sm_aI Sx_ 218 0 w_.toNat v_ := ⟨_, rfl⟩
  have a_ : ∀ u_, u_ ≠ 218 → S'_.2.2.1 u_ 0 = Sx_.2.2.1 u_ 0 := fun u_ hu_ => by
    rw [hS_]
    funext j_
    simp only [rd_ne, hu_, ne_eq, not_false_eq_true]
  have b_ : ∀ k_, S'_.1 13 0 k_ = Sx_.1 13 0 k_ := fun k_ => by rw [hS_]; rfl
  have c_ : ∀ j_, S'_.2.2.1 218 0 j_ = if j_ = w_.toNat then v_ else S_.2.2.1 218 0 j_ := fun j_ => by
    rw [hS_, ← fr_arr f_ (t := 218) h8_]
    simp only [rd_eq]
  rw [← hS_] at hI_ ⊢
  have g0_ := hg_.1
  have G_ : gst F_ N_ S'_ ∧ inc N_ S'_ + 1 = inc N_ S_ := gst_g (S1_ := Sx_) hg_ hw_ (by omega) h0_ ⟨e_.1, by omega⟩ ((b_ 129).trans e_.2.1) c_ ((a_ 219 (by decide)).trans (fr_arr f_ h9_)) (mad_cg e_.2.2 (b_ 129) (a_ 216 (by decide)) (a_ 217 (by decide)) (a_ 185 (by decide)) (b_ 106) (b_ 134))
  have js_ := jsk_cg hj_ ((b_ 137).trans (f_.1 13 0 137 h1_)) ((a_ 220 (by decide)).trans (fr_arr f_ h2_)) ((a_ 221 (by decide)).trans (fr_arr f_ h3_)) ((a_ 202 (by decide)).trans (fr_arr f_ h4_)) ((a_ 203 (by decide)).trans (fr_arr f_ h5_)) ((a_ 210 (by decide)).trans (fr_arr f_ h6_)) ((a_ 211 (by decide)).trans (fr_arr f_ h7_))
  exact ⟨G_.1, js_, mea_c hI_ js_ hF_ (by rw [b_, f_.1 13 0 137 h1_]; exact hc_) G_.2, by (rw [b_ 129, e_.2.1]; omega)⟩
theorem wk_t {F_ N_ w_ v_ : Int} {S_ Sx_ : sm_S} {w9_ : sx_Wl} (hI_ : gi (sm_aI Sx_ 219 0 w_.toNat v_)) (hg_ : gst F_ N_ S_) (hj_ : jsk F_ N_ S_) (hc_ : 0 ≤ S_.1 13 0 137) (hF_ : 1 ≤ F_) (f_ : ai_fr (sx_W w9_) S_ Sx_) (hw_ : 1 ≤ w_ ∧ w_ < N_) (h0_ : S_.2.2.1 219 0 w_.toNat = -1) (e_ : v_ = F_ - 1 + S_.1 13 0 129 ∧ Sx_.1 13 0 129 = S_.1 13 0 129 + 1 ∧ mad F_ Sx_) (h1_ : (sx_W w9_).1 13 137 = false := by rfl) (h2_ : (sx_W w9_).2.1 220 = false := by rfl) (h3_ : (sx_W w9_).2.1 221 = false := by rfl) (h4_ : (sx_W w9_).2.1 202 = false := by rfl) (h5_ : (sx_W w9_).2.1 203 = false := by rfl) (h6_ : (sx_W w9_).2.1 210 = false := by rfl) (h7_ : (sx_W w9_).2.1 211 = false := by rfl) (h8_ : (sx_W w9_).2.1 218 = false := by rfl) (h9_ : (sx_W w9_).2.1 219 = false := by rfl) : gst F_ N_ (sm_aI Sx_ 219 0 w_.toNat v_) ∧ jsk F_ N_ (sm_aI Sx_ 219 0 w_.toNat v_) ∧ mea_ N_ (sm_aI Sx_ 219 0 w_.toNat v_) < mea_ N_ S_ ∧ S_.1 13 0 129 ≤ (sm_aI Sx_ 219 0 w_.toNat v_).1 13 0 129 := by
  obtain ⟨S'_, hS_⟩ : ∃ S'_, S'_ = sm_aI Sx_ 219 0 w_.toNat v_ := ⟨_, rfl⟩
  have a_ : ∀ u_, u_ ≠ 219 → S'_.2.2.1 u_ 0 = Sx_.2.2.1 u_ 0 := fun u_ hu_ => by
    rw [hS_]
    funext j_
    simp only [rd_ne, hu_, ne_eq, not_false_eq_true]
  have b_ : ∀ k_, S'_.1 13 0 k_ = Sx_.1 13 0 k_ := fun k_ => by rw [hS_]; rfl
  have c_ : ∀ j_, S'_.2.2.1 219 0 j_ = if j_ = w_.toNat then v_ else S_.2.2.1 219 0 j_ := fun j_ => by
    rw [hS_, ← fr_arr f_ (t := 219) h9_]
    simp only [rd_eq]
  rw [← hS_] at hI_ ⊢
  have g0_ := hg_.1
  have G_ : gst F_ N_ S'_ ∧ inc N_ S'_ + 1 = inc N_ S_ := gst_t (S1_ := Sx_) hg_ hw_ h0_ ⟨e_.1, by omega⟩ ((b_ 129).trans e_.2.1) c_ ((a_ 218 (by decide)).trans (fr_arr f_ h8_)) (mad_cg e_.2.2 (b_ 129) (a_ 216 (by decide)) (a_ 217 (by decide)) (a_ 185 (by decide)) (b_ 106) (b_ 134))
  have js_ := jsk_cg hj_ ((b_ 137).trans (f_.1 13 0 137 h1_)) ((a_ 220 (by decide)).trans (fr_arr f_ h2_)) ((a_ 221 (by decide)).trans (fr_arr f_ h3_)) ((a_ 202 (by decide)).trans (fr_arr f_ h4_)) ((a_ 203 (by decide)).trans (fr_arr f_ h5_)) ((a_ 210 (by decide)).trans (fr_arr f_ h6_)) ((a_ 211 (by decide)).trans (fr_arr f_ h7_))
  exact ⟨G_.1, js_, mea_c hI_ js_ hF_ (by rw [b_, f_.1 13 0 137 h1_]; exact hc_) G_.2, by (rw [b_ 129, e_.2.1]; omega)⟩
theorem wk_way {F_ N_ w_ : Int} {S_ : sm_S} (hI_ : gi S_) (h_ : wal9 F_ N_ S_) (hF_ : 1 ≤ F_) (g_ : 2 * F_ ≤ w_ ∧ w_ < 2 * N_ ∧ S_.2.2.1 202 0 (w_ / 2).toNat = 1 ∧ S_.2.2.1 210 0 w_.toNat < 1000000000) : (S_.2.2.1 211 0 w_.toNat = 0 → 0 ≤ S_.2.2.1 207 0 w_.toNat ∧ 1 ≤ S_.2.2.1 185 0 (12 * S_.1 13 0 106 + S_.2.2.1 207 0 w_.toNat).toNat ∧ ∀ k_ : Int, 0 ≤ k_ → k_ < S_.2.2.1 185 0 (12 * S_.1 13 0 106 + S_.2.2.1 207 0 w_.toNat).toNat → inp F_ (w_ / 2) S_ (S_.2.2.1 208 0 (3 * w_ + k_).toNat) (i_shr (S_.2.2.1 209 0 w_.toNat) k_ % 2)) ∧ (S_.2.2.1 211 0 w_.toNat ≠ 0 → S_.2.2.1 211 0 (w_ + 1 - 2 * (w_ % 2)).toNat = 0 ∧ S_.2.2.1 210 0 (w_ + 1 - 2 * (w_ % 2)).toNat < 1000000000) := by
  have q_ := h_ (w_ / 2) (by omega) (by omega) g_.2.2.1
  obtain ⟨q1_, q2_, q3_, q4_⟩ := q_
  have b_ : 0 ≤ S_.1 13 0 108 := (hI_.1 13 0 108 rfl).1
  have z0_ : 0 ≤ S_.2.2.1 211 0 (2 * (w_ / 2)).toNat := (hI_.2 211 0 _).1
  have z1_ : 0 ≤ S_.2.2.1 211 0 (2 * (w_ / 2) + 1).toNat := (hI_.2 211 0 _).1
  have c_ : w_ = 2 * (w_ / 2) ∨ w_ = 2 * (w_ / 2) + 1 := by omega
  rcases c_ with c_ | c_
  · have o_ : w_ + 1 - 2 * (w_ % 2) = w_ + 1 := by omega
    rw [o_]
    have b1_ : S_.2.2.1 206 0 w_.toNat ≤ 1000000000 := (hI_.2 206 0 _).2
    have g4_ := g_.2.2.2
    unfold ned at q3_ q4_
    unfold wyc at q1_
    rw [← c_] at z0_ z1_ q1_ q3_ q4_
    refine ⟨fun z_ => ?_, fun z_ => ?_⟩
    · refine q1_ ?_
      omega
    · omega
  · have o_ : w_ + 1 - 2 * (w_ % 2) = 2 * (w_ / 2) := by omega
    rw [o_]
    have b1_ : S_.2.2.1 206 0 w_.toNat ≤ 1000000000 := (hI_.2 206 0 _).2
    have g4_ := g_.2.2.2
    unfold ned at q3_ q4_
    unfold wyc at q2_
    rw [← c_] at z1_ q2_ q3_ q4_
    refine ⟨fun z_ => ?_, fun z_ => ?_⟩
    · refine q2_ ?_
      omega
    · omega

theorem shr3 {x_ : Int} (hx_ : 0 ≤ x_ ∧ x_ ≤ 7) : i_shr x_ 0 = x_ ∧ i_shr x_ 1 = x_ / 2 ∧ i_shr x_ 2 = x_ / 4 := by
  refine ⟨?_, ?_, ?_⟩
  · rw [i_shrv (by omega) (by omega) (by omega)]; exact Int.ediv_one x_
  · rw [i_shrv (by omega) (by omega) (by omega)]; rfl
  · rw [i_shrv (by omega) (by omega) (by omega)]; rfl
theorem wk_in {F_ N_ w_ x_ t_ : Int} {S_ : sm_S} (hg_ : gst F_ N_ S_) (hw_ : w_ < 2 * N_) (i_ : inp F_ (w_ / 2) S_ x_ t_) (ht_ : 0 ≤ t_ ∧ t_ ≤ 1) (h_ : noi F_ S_ x_ t_ ≠ -1) : 1 ≤ x_ ∧ x_ < w_ / 2 ∧ 0 ≤ noi F_ S_ x_ t_ ∧ noi F_ S_ x_ t_ < F_ - 1 + S_.1 13 0 129 := by
  have i1_ := i_.1.1
  have i2_ := i_.1.2.1
  have q_ := noi_b hg_ (x_ := x_) (t_ := t_) ⟨by omega, by omega⟩ ht_
  rcases q_ with q_ | q_
  · exact absurd q_ h_
  · exact ⟨by omega, by omega, q_.1, q_.2⟩
/-! M_.work -/
def vw_417 : sx_Wl := ([(13, 129), (13, 134), (13, 137)], [216, 217, 218, 219, 220, 221], [])
def vq_417 (F_ : Int) (N_ : Int) (d_ : Int) (S0_ : sm_S) (u_ : Option sm_V) (S1_ : sm_S) : Prop := u_ = none ∧ gi S1_ ∧ ai_fr (sx_W vw_417) S0_ S1_ ∧ (gst F_ N_ S1_ ∧ jsk F_ N_ S1_ ∧ mea_ N_ S1_ < mea_ N_ S0_ ∧ S0_.1 13 0 129 ≤ S1_.1 13 0 129)
set_option maxHeartbeats 4000000 in
set_option maxRecDepth 20000 in
theorem vl_417 {sc_ : Nat × (Nat → Int)} (F_ : Int) (N_ : Int) (d_ : Int) (S0_ : sm_S) (hd_ : dmp F_ N_ d_ S0_) (hal_ : wal9 F_ N_ S0_) (hgd_ : gdr F_ N_ S0_) (hiv_ : (S0_.1 13 0 107) = -1 ∨ S0_.2.2.1 185 0 (12 * S0_.1 13 0 106 + S0_.1 13 0 107).toNat = 1) (hgs_ : gst F_ N_ S0_) (hjs_ : jsk F_ N_ S0_) (hj_ : 1 ≤ (S0_.1 13 0 137)) : ∀ nn_ : Nat, (∀ (w_ : Int) (sz_ : Int) (k_ : Int) (S_ : sm_S), gi S_ → ai_fr (sx_W vw_417) S0_ S_ → ((S_ = S0_) ∧ (w_ = (S0_.2.2.1 220 0 (S0_.1 13 0 137 - 1).toNat) ∧ 0 ≤ k_ ∧ k_ ≤ sz_ ∧ sz_ ≤ 3 ∧ (S0_.2.2.1 221 0 (S0_.1 13 0 137 - 1).toNat) = 0 ∧ S0_.2.2.1 218 0 w_.toNat = -1 ∧ S0_.2.2.1 211 0 w_.toNat = 0 ∧ sz_ = S0_.2.2.1 185 0 (12 * S0_.1 13 0 106 + S0_.2.2.1 207 0 w_.toNat).toNat) ∧ (∀ j9_ : Int, 0 ≤ j9_ → j9_ < k_ → noi F_ S0_ (S0_.2.2.1 208 0 (3 * w_ + j9_).toNat) (i_shr (S0_.2.2.1 209 0 w_.toNat) j9_ % 2) ≠ -1) ∧ True) → ((50 - k_).toNat) < nn_ → sm_T (mt_P sc_) 3 417 (175, [some (.inr (.inr (some (13, 0)))), some (.inl w_), some (.inl sz_), some (.inl k_), none, none], [], S_) (fun ro9_ => ∃ u_ S1_, ro9_ = (.inl u_, S1_, 0) ∧ vq_417 F_ N_ d_ S0_ u_ S1_)) := by
  intro nn_
  induction nn_ with
  | zero => exact fun _ _ _ _ _ _ _ h_ => absurd h_ (Nat.not_lt_zero _)
  | succ nn_ ih_ =>
    rintro w_ sz_ k_ S_ hI_ hF_ ⟨h4_, h0_, h1_, -⟩ hm_
    rw [← h4_] at hd_ hal_ hgd_ hiv_ hgs_ hjs_ hj_ h0_ h1_
    have d1_ := hd_.1
    have tj_ := hjs_ (S_.1 13 0 137 - 1) (by omega) (by omega)
    have tg_ := tj_.1
    have f160_ : S_.2.2.1 160 0 (S_.1 13 0 105).toNat = F_ := by (rw [d1_.2.2.1]; exact d1_.2.2.2.1)
    have jc_ := jsk_c hI_ hjs_ (by omega)
    have g0_ := hgs_.1
    have cw : 0 ≤ S_.2.2.1 220 0 (S_.1 13 0 137 - 1).toNat ∧ S_.2.2.1 220 0 (S_.1 13 0 137 - 1).toNat ≤ 4095 := hI_.2 220 0 _
    have cs_ : 0 ≤ S_.2.2.1 221 0 (S_.1 13 0 137 - 1).toNat ∧ S_.2.2.1 221 0 (S_.1 13 0 137 - 1).toNat ≤ 1 := hI_.2 221 0 _
    have tw_ : 2 * F_ ≤ w_ ∧ w_ < 2 * N_ ∧ S_.2.2.1 202 0 (w_ / 2).toNat = 1 ∧ S_.2.2.1 210 0 w_.toNat < 1000000000 := by (rcases tg_ with y9_ | y9_; (exfalso; omega); (rw [h0_.1]; exact y9_.2))
    have W9_ := (wk_way hI_ hal_ (by omega) tw_).1 h0_.2.2.2.2.2.2.1
    rw [← h0_.2.2.2.2.2.2.2] at W9_
    have nd9_ : ¬ jdn S_ (jtos S_) (jtop S_) := by (unfold jdn jtos jtop; rw [← h0_.1]; omega)
    have rk9_ : jrk S_ (jtos S_) (jtop S_) = 3 * (w_ / 2) := by (unfold jrk jtos jtop; rw [← h0_.1, if_neg (by omega)]; omega)
    refine sm_T_go 2 (c1 := (177, [some (.inr (.inr (some (13, 0)))), some (.inl w_), some (.inl sz_), some (.inl k_), none, none], [.inl sz_, .inl k_], S_)) rfl ?_
    refine sm_T_br (a := 3) (z := 58) rfl (fun cx1_ => ?_) (fun cx1_ => ?_)
    · have cx1_ : sz_ ≤ k_ := of_decide_eq_true cx1_
      have ct : 0 ≤ S_.2.2.1 209 0 w_.toNat ∧ S_.2.2.1 209 0 w_.toNat ≤ 7 := hI_.2 209 0 _
      have sh_ := shr3 (x_ := S_.2.2.1 209 0 w_.toNat) (by omega)
      have M0_ := wk_in hgs_ tw_.2.1 (W9_.2.2 0 (by omega) (by omega)) (by omega) (h1_ 0 (by omega) (by omega))
      rw [sh_.1, Int.add_zero] at M0_
      have M1_ : 1 < sz_ → _ := fun z9_ => wk_in hgs_ tw_.2.1 (W9_.2.2 1 (by omega) z9_) (by omega) (h1_ 1 (by omega) (by omega))
      rw [sh_.2.1] at M1_
      have M2_ : 2 < sz_ → _ := fun z9_ => wk_in hgs_ tw_.2.1 (W9_.2.2 2 (by omega) z9_) (by omega) (h1_ 2 (by omega) (by omega))
      rw [sh_.2.2] at M2_
      refine sm_T_go 5 (c1 := (242, [some (.inr (.inr (some (13, 0)))), some (.inl w_), some (.inl sz_), some (.inl k_), none, none], [.inl w_, .inl 3, .inr (.inr (some (208, 0))), .inr (.inr (some (13, 0)))], S_)) rfl ?_
      refine sm_T_bin (w := 3 * w_) rfl (bi_mul (by omega) (by omega) (by omega)) ?_ -- pc_ 242
      refine sm_T_iald (n := 12288) rfl rfl (by omega) (by omega) ?_
      have bx2_ : 0 ≤ S_.2.2.1 208 0 (3 * w_).toNat ∧ S_.2.2.1 208 0 (3 * w_).toNat ≤ 2047 := hI_.2 208 0 _
      refine sm_T_go 3 (c1 := (249, [some (.inr (.inr (some (13, 0)))), some (.inl w_), some (.inl sz_), some (.inl k_), none, none], [.inl w_, .inr (.inr (some (209, 0))), .inl (S_.2.2.1 208 0 (3 * w_).toNat), .inr (.inr (some (13, 0)))], S_)) rfl ?_
      refine sm_T_iald (n := 4096) rfl rfl (by omega) (by omega) ?_
      have bx3_ : 0 ≤ S_.2.2.1 209 0 w_.toNat ∧ S_.2.2.1 209 0 w_.toNat ≤ 7 := hI_.2 209 0 _
      refine sm_T_go 1 (c1 := (251, [some (.inr (.inr (some (13, 0)))), some (.inl w_), some (.inl sz_), some (.inl k_), none, none], [.inl 1, .inl (S_.2.2.1 209 0 w_.toNat), .inl (S_.2.2.1 208 0 (3 * w_).toNat), .inr (.inr (some (13, 0)))], S_)) rfl ?_
      refine sm_T_bin (w := ((S_.2.2.1 209 0 w_.toNat) % 2)) rfl (bi_msk (k := 1) (by decide)) ?_ -- pc_ 251
      refine sm_T_cal (d1 := 2) (Q1 := vq_415 (S_.2.2.1 208 0 (3 * w_).toNat) ((S_.2.2.1 209 0 w_.toNat) % 2) F_ S_) rfl rfl (by decide) (vc_415 (S_.2.2.1 208 0 (3 * w_).toNat) ((S_.2.2.1 209 0 w_.toNat) % 2) F_ S_ hI_ (by exact f160_) (by omega)) (fun u_ Sx4_ px7_ => ?_)
      obtain ⟨rfl, vx9_, rfl, px7_⟩ := px7_
      have e252_ := px7_
      refine sm_T_go 3 (c1 := (258, [some (.inr (.inr (some (13, 0)))), some (.inl w_), some (.inl sz_), some (.inl vx9_), none, none], [.inl 1, .inl sz_], S_)) rfl ?_
      refine sm_T_br (a := 5) (z := 30) rfl (fun cx10_ => ?_) (fun cx10_ => ?_)
      · have cx10_ : sz_ ≤ 1 := of_decide_eq_true cx10_
        refine sm_T_go 4 (c1 := (293, [some (.inr (.inr (some (13, 0)))), some (.inl w_), some (.inl sz_), some (.inl vx9_), some (.inl (-1)), none], [.inl 2, .inl sz_], S_)) rfl ?_
        refine sm_T_br (a := 5) (z := 30) rfl (fun cx11_ => ?_) (fun cx11_ => ?_)
        · have cx11_ : sz_ ≤ 2 := of_decide_eq_true cx11_
          refine sm_T_go 9 (c1 := (337, [some (.inr (.inr (some (13, 0)))), some (.inl w_), some (.inl sz_), some (.inl vx9_), some (.inl (-1)), some (.inl (-1))], [.inl w_, .inr (.inr (some (207, 0))), .inr (.inr (some (13, 0))), .inl w_, .inr (.inr (some (218, 0)))], S_)) rfl ?_
          refine sm_T_iald (n := 4096) rfl rfl (by omega) (by omega) ?_
          have bx12_ : (-1) ≤ S_.2.2.1 207 0 w_.toNat ∧ S_.2.2.1 207 0 w_.toNat ≤ 11 := hI_.2 207 0 _
          refine sm_T_go 3 (c1 := (343, [some (.inr (.inr (some (13, 0)))), some (.inl w_), some (.inl sz_), some (.inl vx9_), some (.inl (-1)), some (.inl (-1))], [.inl (-1), .inl (-1), .inl vx9_, .inl (S_.2.2.1 207 0 w_.toNat), .inr (.inr (some (13, 0))), .inl w_, .inr (.inr (some (218, 0)))], S_)) rfl ?_
          refine sm_T_cal (d1 := 1) (Q1 := vq_410 (S_.2.2.1 207 0 w_.toNat) vx9_ (-1) (-1) F_ N_ d_ S_) rfl rfl (by decide) (vc_410 (S_.2.2.1 207 0 w_.toNat) vx9_ (-1) (-1) F_ N_ d_ S_ hI_ (by exact hd_) (by omega) (by omega) (by omega) (by (intro k9_ K9_ c9_ s9_; rcases K9_ with K9_ | K9_ <;> subst K9_; (rw [if_pos rfl]; omega); (rw [if_neg (by decide)]; omega))) (by exact hgs_.2.2.2)) (fun u_ Sx13_ px16_ => ?_)
          obtain ⟨vx18_, rfl, hIx14_, hFx15_, px16_⟩ := px16_
          have hFx17_ : ai_fr (sx_W vw_417) S0_ Sx13_ := ai_fr_tr hF_ (fr_le hFx15_ rfl)
          have e343_ := px16_
          have f343_ := hFx15_
          refine sm_T_iast (n := 4096) rfl rfl (by omega) (by omega) ?_
          have hIx19_ : gi (sm_aI Sx13_ 218 0 w_.toNat vx18_) := gi_aI hIx14_ (show (-2) ≤ vx18_ ∧ vx18_ ≤ 9000 from ⟨by omega, by omega⟩)
          have hFx20_ : ai_fr (sx_W vw_417) S0_ (sm_aI Sx13_ 218 0 w_.toNat vx18_) := ai_fr_tr hFx17_ (ai_fr_aI rfl)
          refine sm_T_rv rfl ⟨_, _, rfl, rfl, hIx19_, hFx20_, ?_⟩
          rw [← h4_]
          exact wk_g (by assumption) hgs_ hjs_ (by omega) (by omega) f343_ ⟨tw_.1, tw_.2.1⟩ (by omega) e343_
        · have cx11_ : ¬ (sz_ ≤ 2) := of_decide_eq_false cx11_
          exfalso; omega
      · have cx10_ : ¬ (sz_ ≤ 1) := of_decide_eq_false cx10_
        refine sm_T_go 5 (c1 := (268, [some (.inr (.inr (some (13, 0)))), some (.inl w_), some (.inl sz_), some (.inl vx9_), none, none], [.inl w_, .inl 3, .inr (.inr (some (208, 0))), .inr (.inr (some (13, 0)))], S_)) rfl ?_
        refine sm_T_bin (w := 3 * w_) rfl (bi_mul (by omega) (by omega) (by omega)) ?_ -- pc_ 268
        refine sm_T_go 1 (c1 := (270, [some (.inr (.inr (some (13, 0)))), some (.inl w_), some (.inl sz_), some (.inl vx9_), none, none], [.inl 1, .inl (3 * w_), .inr (.inr (some (208, 0))), .inr (.inr (some (13, 0)))], S_)) rfl ?_
        refine sm_T_bin (w := 3 * w_ + 1) rfl (bi_add (by omega) (by omega) (by omega)) ?_ -- pc_ 270
        refine sm_T_iald (n := 12288) rfl rfl (by omega) (by omega) ?_
        have bx21_ : 0 ≤ S_.2.2.1 208 0 (3 * w_ + 1).toNat ∧ S_.2.2.1 208 0 (3 * w_ + 1).toNat ≤ 2047 := hI_.2 208 0 _
        refine sm_T_go 3 (c1 := (277, [some (.inr (.inr (some (13, 0)))), some (.inl w_), some (.inl sz_), some (.inl vx9_), none, none], [.inl w_, .inr (.inr (some (209, 0))), .inl (S_.2.2.1 208 0 (3 * w_ + 1).toNat), .inr (.inr (some (13, 0)))], S_)) rfl ?_
        refine sm_T_iald (n := 4096) rfl rfl (by omega) (by omega) ?_
        refine sm_T_go 1 (c1 := (279, [some (.inr (.inr (some (13, 0)))), some (.inl w_), some (.inl sz_), some (.inl vx9_), none, none], [.inl 1, .inl (S_.2.2.1 209 0 w_.toNat), .inl (S_.2.2.1 208 0 (3 * w_ + 1).toNat), .inr (.inr (some (13, 0)))], S_)) rfl ?_
        refine sm_T_bin (w := ((S_.2.2.1 209 0 w_.toNat) / 2)) rfl (bi_shr (k := 1) (by decide) (by omega) (by omega)) ?_ -- pc_ 279
        refine sm_T_go 1 (c1 := (281, [some (.inr (.inr (some (13, 0)))), some (.inl w_), some (.inl sz_), some (.inl vx9_), none, none], [.inl 1, .inl ((S_.2.2.1 209 0 w_.toNat) / 2), .inl (S_.2.2.1 208 0 (3 * w_ + 1).toNat), .inr (.inr (some (13, 0)))], S_)) rfl ?_
        refine sm_T_bin (w := (((S_.2.2.1 209 0 w_.toNat) / 2) % 2)) rfl (bi_msk (k := 1) (by decide)) ?_ -- pc_ 281
        refine sm_T_cal (d1 := 2) (Q1 := vq_415 (S_.2.2.1 208 0 (3 * w_ + 1).toNat) (((S_.2.2.1 209 0 w_.toNat) / 2) % 2) F_ S_) rfl rfl (by decide) (vc_415 (S_.2.2.1 208 0 (3 * w_ + 1).toNat) (((S_.2.2.1 209 0 w_.toNat) / 2) % 2) F_ S_ hI_ (by exact f160_) (by (have y9_ := M1_ (by omega); omega))) (fun u_ Sx22_ px25_ => ?_)
        obtain ⟨rfl, vx27_, rfl, px25_⟩ := px25_
        have e282_ := px25_
        have y282_ := M1_ (by omega)
        refine sm_T_go 4 (c1 := (293, [some (.inr (.inr (some (13, 0)))), some (.inl w_), some (.inl sz_), some (.inl vx9_), some (.inl vx27_), none], [.inl 2, .inl sz_], S_)) rfl ?_
        refine sm_T_br (a := 5) (z := 30) rfl (fun cx28_ => ?_) (fun cx28_ => ?_)
        · have cx28_ : sz_ ≤ 2 := of_decide_eq_true cx28_
          refine sm_T_go 9 (c1 := (337, [some (.inr (.inr (some (13, 0)))), some (.inl w_), some (.inl sz_), some (.inl vx9_), some (.inl vx27_), some (.inl (-1))], [.inl w_, .inr (.inr (some (207, 0))), .inr (.inr (some (13, 0))), .inl w_, .inr (.inr (some (218, 0)))], S_)) rfl ?_
          refine sm_T_iald (n := 4096) rfl rfl (by omega) (by omega) ?_
          have bx29_ : (-1) ≤ S_.2.2.1 207 0 w_.toNat ∧ S_.2.2.1 207 0 w_.toNat ≤ 11 := hI_.2 207 0 _
          refine sm_T_go 3 (c1 := (343, [some (.inr (.inr (some (13, 0)))), some (.inl w_), some (.inl sz_), some (.inl vx9_), some (.inl vx27_), some (.inl (-1))], [.inl (-1), .inl vx27_, .inl vx9_, .inl (S_.2.2.1 207 0 w_.toNat), .inr (.inr (some (13, 0))), .inl w_, .inr (.inr (some (218, 0)))], S_)) rfl ?_
          refine sm_T_cal (d1 := 1) (Q1 := vq_410 (S_.2.2.1 207 0 w_.toNat) vx9_ vx27_ (-1) F_ N_ d_ S_) rfl rfl (by decide) (vc_410 (S_.2.2.1 207 0 w_.toNat) vx9_ vx27_ (-1) F_ N_ d_ S_ hI_ (by exact hd_) (by omega) (by omega) (by omega) (by (intro k9_ K9_ c9_ s9_; rcases K9_ with K9_ | K9_ <;> subst K9_; (rw [if_pos rfl]; omega); (rw [if_neg (by decide)]; omega))) (by exact hgs_.2.2.2)) (fun u_ Sx30_ px33_ => ?_)
          obtain ⟨vx35_, rfl, hIx31_, hFx32_, px33_⟩ := px33_
          have hFx34_ : ai_fr (sx_W vw_417) S0_ Sx30_ := ai_fr_tr hF_ (fr_le hFx32_ rfl)
          have e343_ := px33_
          have f343_ := hFx32_
          refine sm_T_iast (n := 4096) rfl rfl (by omega) (by omega) ?_
          have hIx36_ : gi (sm_aI Sx30_ 218 0 w_.toNat vx35_) := gi_aI hIx31_ (show (-2) ≤ vx35_ ∧ vx35_ ≤ 9000 from ⟨by omega, by omega⟩)
          have hFx37_ : ai_fr (sx_W vw_417) S0_ (sm_aI Sx30_ 218 0 w_.toNat vx35_) := ai_fr_tr hFx34_ (ai_fr_aI rfl)
          refine sm_T_rv rfl ⟨_, _, rfl, rfl, hIx36_, hFx37_, ?_⟩
          rw [← h4_]
          exact wk_g (by assumption) hgs_ hjs_ (by omega) (by omega) f343_ ⟨tw_.1, tw_.2.1⟩ (by omega) e343_
        · have cx28_ : ¬ (sz_ ≤ 2) := of_decide_eq_false cx28_
          refine sm_T_go 5 (c1 := (303, [some (.inr (.inr (some (13, 0)))), some (.inl w_), some (.inl sz_), some (.inl vx9_), some (.inl vx27_), none], [.inl w_, .inl 3, .inr (.inr (some (208, 0))), .inr (.inr (some (13, 0)))], S_)) rfl ?_
          refine sm_T_bin (w := 3 * w_) rfl (bi_mul (by omega) (by omega) (by omega)) ?_ -- pc_ 303
          refine sm_T_go 1 (c1 := (305, [some (.inr (.inr (some (13, 0)))), some (.inl w_), some (.inl sz_), some (.inl vx9_), some (.inl vx27_), none], [.inl 2, .inl (3 * w_), .inr (.inr (some (208, 0))), .inr (.inr (some (13, 0)))], S_)) rfl ?_
          refine sm_T_bin (w := 3 * w_ + 2) rfl (bi_add (by omega) (by omega) (by omega)) ?_ -- pc_ 305
          refine sm_T_iald (n := 12288) rfl rfl (by omega) (by omega) ?_
          have bx38_ : 0 ≤ S_.2.2.1 208 0 (3 * w_ + 2).toNat ∧ S_.2.2.1 208 0 (3 * w_ + 2).toNat ≤ 2047 := hI_.2 208 0 _
          refine sm_T_go 3 (c1 := (312, [some (.inr (.inr (some (13, 0)))), some (.inl w_), some (.inl sz_), some (.inl vx9_), some (.inl vx27_), none], [.inl w_, .inr (.inr (some (209, 0))), .inl (S_.2.2.1 208 0 (3 * w_ + 2).toNat), .inr (.inr (some (13, 0)))], S_)) rfl ?_
          refine sm_T_iald (n := 4096) rfl rfl (by omega) (by omega) ?_
          refine sm_T_go 1 (c1 := (314, [some (.inr (.inr (some (13, 0)))), some (.inl w_), some (.inl sz_), some (.inl vx9_), some (.inl vx27_), none], [.inl 2, .inl (S_.2.2.1 209 0 w_.toNat), .inl (S_.2.2.1 208 0 (3 * w_ + 2).toNat), .inr (.inr (some (13, 0)))], S_)) rfl ?_
          refine sm_T_bin (w := ((S_.2.2.1 209 0 w_.toNat) / 4)) rfl (bi_shr (k := 2) (by decide) (by omega) (by omega)) ?_ -- pc_ 314
          refine sm_T_go 1 (c1 := (316, [some (.inr (.inr (some (13, 0)))), some (.inl w_), some (.inl sz_), some (.inl vx9_), some (.inl vx27_), none], [.inl 1, .inl ((S_.2.2.1 209 0 w_.toNat) / 4), .inl (S_.2.2.1 208 0 (3 * w_ + 2).toNat), .inr (.inr (some (13, 0)))], S_)) rfl ?_
          refine sm_T_bin (w := (((S_.2.2.1 209 0 w_.toNat) / 4) % 2)) rfl (bi_msk (k := 1) (by decide)) ?_ -- pc_ 316
          refine sm_T_cal (d1 := 2) (Q1 := vq_415 (S_.2.2.1 208 0 (3 * w_ + 2).toNat) (((S_.2.2.1 209 0 w_.toNat) / 4) % 2) F_ S_) rfl rfl (by decide) (vc_415 (S_.2.2.1 208 0 (3 * w_ + 2).toNat) (((S_.2.2.1 209 0 w_.toNat) / 4) % 2) F_ S_ hI_ (by exact f160_) (by (have y9_ := M2_ (by omega); omega))) (fun u_ Sx39_ px42_ => ?_)
          obtain ⟨rfl, vx44_, rfl, px42_⟩ := px42_
          have e317_ := px42_
          have y317_ := M2_ (by omega)
          refine sm_T_go 9 (c1 := (337, [some (.inr (.inr (some (13, 0)))), some (.inl w_), some (.inl sz_), some (.inl vx9_), some (.inl vx27_), some (.inl vx44_)], [.inl w_, .inr (.inr (some (207, 0))), .inr (.inr (some (13, 0))), .inl w_, .inr (.inr (some (218, 0)))], S_)) rfl ?_
          refine sm_T_iald (n := 4096) rfl rfl (by omega) (by omega) ?_
          have bx45_ : (-1) ≤ S_.2.2.1 207 0 w_.toNat ∧ S_.2.2.1 207 0 w_.toNat ≤ 11 := hI_.2 207 0 _
          refine sm_T_go 3 (c1 := (343, [some (.inr (.inr (some (13, 0)))), some (.inl w_), some (.inl sz_), some (.inl vx9_), some (.inl vx27_), some (.inl vx44_)], [.inl vx44_, .inl vx27_, .inl vx9_, .inl (S_.2.2.1 207 0 w_.toNat), .inr (.inr (some (13, 0))), .inl w_, .inr (.inr (some (218, 0)))], S_)) rfl ?_
          refine sm_T_cal (d1 := 1) (Q1 := vq_410 (S_.2.2.1 207 0 w_.toNat) vx9_ vx27_ vx44_ F_ N_ d_ S_) rfl rfl (by decide) (vc_410 (S_.2.2.1 207 0 w_.toNat) vx9_ vx27_ vx44_ F_ N_ d_ S_ hI_ (by exact hd_) (by omega) (by omega) (by omega) (by (intro k9_ K9_ c9_ s9_; rcases K9_ with K9_ | K9_ <;> subst K9_; (rw [if_pos rfl]; omega); (rw [if_neg (by decide)]; omega))) (by exact hgs_.2.2.2)) (fun u_ Sx46_ px49_ => ?_)
          obtain ⟨vx51_, rfl, hIx47_, hFx48_, px49_⟩ := px49_
          have hFx50_ : ai_fr (sx_W vw_417) S0_ Sx46_ := ai_fr_tr hF_ (fr_le hFx48_ rfl)
          have e343_ := px49_
          have f343_ := hFx48_
          refine sm_T_iast (n := 4096) rfl rfl (by omega) (by omega) ?_
          have hIx52_ : gi (sm_aI Sx46_ 218 0 w_.toNat vx51_) := gi_aI hIx47_ (show (-2) ≤ vx51_ ∧ vx51_ ≤ 9000 from ⟨by omega, by omega⟩)
          have hFx53_ : ai_fr (sx_W vw_417) S0_ (sm_aI Sx46_ 218 0 w_.toNat vx51_) := ai_fr_tr hFx50_ (ai_fr_aI rfl)
          refine sm_T_rv rfl ⟨_, _, rfl, rfl, hIx52_, hFx53_, ?_⟩
          rw [← h4_]
          exact wk_g (by assumption) hgs_ hjs_ (by omega) (by omega) f343_ ⟨tw_.1, tw_.2.1⟩ (by omega) e343_
    · have cx1_ : ¬ (sz_ ≤ k_) := of_decide_eq_false cx1_
      have I9_ := W9_.2.2 k_ (by omega) (by omega)
      have i1_ := I9_.1.1
      have i2_ := I9_.1.2.1
      have i3_ := I9_.1.2.2
      have i4_ := I9_.2
      have q2k : (2 * S_.2.2.1 208 0 (3 * w_ + k_).toNat + i_shr (S_.2.2.1 209 0 w_.toNat) k_ % 2) / 2 = S_.2.2.1 208 0 (3 * w_ + k_).toNat := by omega
      refine sm_T_go 3 (c1 := (185, [some (.inr (.inr (some (13, 0)))), some (.inl w_), some (.inl sz_), some (.inl k_), none, none], [.inl w_, .inr (.inr (some (209, 0)))], S_)) rfl ?_
      refine sm_T_iald (n := 4096) rfl rfl (by omega) (by omega) ?_
      have bx54_ : 0 ≤ S_.2.2.1 209 0 w_.toNat ∧ S_.2.2.1 209 0 w_.toNat ≤ 7 := hI_.2 209 0 _
      refine sm_T_go 1 (c1 := (187, [some (.inr (.inr (some (13, 0)))), some (.inl w_), some (.inl sz_), some (.inl k_), none, none], [.inl k_, .inl (S_.2.2.1 209 0 w_.toNat)], S_)) rfl ?_
      refine sm_T_bin (w := (i_shr (S_.2.2.1 209 0 w_.toNat) k_)) rfl rfl ?_ -- pc_ 187
      refine sm_T_go 1 (c1 := (189, [some (.inr (.inr (some (13, 0)))), some (.inl w_), some (.inl sz_), some (.inl k_), none, none], [.inl 1, .inl (i_shr (S_.2.2.1 209 0 w_.toNat) k_)], S_)) rfl ?_
      refine sm_T_bin (w := ((i_shr (S_.2.2.1 209 0 w_.toNat) k_) % 2)) rfl (bi_msk (k := 1) (by decide)) ?_ -- pc_ 189
      refine sm_T_go 6 (c1 := (199, [some (.inr (.inr (some (13, 0)))), some (.inl w_), some (.inl sz_), some (.inl k_), some (.inl ((i_shr (S_.2.2.1 209 0 w_.toNat) k_) % 2)), none], [.inl w_, .inl 3, .inr (.inr (some (208, 0))), .inr (.inr (some (13, 0)))], S_)) rfl ?_
      refine sm_T_bin (w := 3 * w_) rfl (bi_mul (by omega) (by omega) (by omega)) ?_ -- pc_ 199
      refine sm_T_go 1 (c1 := (201, [some (.inr (.inr (some (13, 0)))), some (.inl w_), some (.inl sz_), some (.inl k_), some (.inl ((i_shr (S_.2.2.1 209 0 w_.toNat) k_) % 2)), none], [.inl k_, .inl (3 * w_), .inr (.inr (some (208, 0))), .inr (.inr (some (13, 0)))], S_)) rfl ?_
      refine sm_T_bin (w := 3 * w_ + k_) rfl (bi_add (by omega) (by omega) (by omega)) ?_ -- pc_ 201
      refine sm_T_iald (n := 12288) rfl rfl (by omega) (by omega) ?_
      have bx55_ : 0 ≤ S_.2.2.1 208 0 (3 * w_ + k_).toNat ∧ S_.2.2.1 208 0 (3 * w_ + k_).toNat ≤ 2047 := hI_.2 208 0 _
      refine sm_T_go 1 (c1 := (205, [some (.inr (.inr (some (13, 0)))), some (.inl w_), some (.inl sz_), some (.inl k_), some (.inl ((i_shr (S_.2.2.1 209 0 w_.toNat) k_) % 2)), none], [.inl ((i_shr (S_.2.2.1 209 0 w_.toNat) k_) % 2), .inl (S_.2.2.1 208 0 (3 * w_ + k_).toNat), .inr (.inr (some (13, 0)))], S_)) rfl ?_
      refine sm_T_cal (d1 := 2) (Q1 := vq_415 (S_.2.2.1 208 0 (3 * w_ + k_).toNat) ((i_shr (S_.2.2.1 209 0 w_.toNat) k_) % 2) F_ S_) rfl rfl (by decide) (vc_415 (S_.2.2.1 208 0 (3 * w_ + k_).toNat) ((i_shr (S_.2.2.1 209 0 w_.toNat) k_) % 2) F_ S_ hI_ (by exact f160_) (by omega)) (fun u_ Sx56_ px59_ => ?_)
      obtain ⟨rfl, vx61_, rfl, px59_⟩ := px59_
      have e205_ := px59_
      refine sm_T_go 1 (c1 := (209, [some (.inr (.inr (some (13, 0)))), some (.inl w_), some (.inl sz_), some (.inl k_), some (.inl ((i_shr (S_.2.2.1 209 0 w_.toNat) k_) % 2)), none], [.inl (-1), .inl vx61_], S_)) rfl ?_
      refine sm_T_br (a := 1) (z := 20) rfl (fun cx62_ => ?_) (fun cx62_ => ?_)
      · have cx62_ : vx61_ ≠ (-1) := of_decide_eq_true cx62_
        refine sm_T_inc (a := 3) (z := 1) (v := k_) (w := k_ + 1) rfl rfl (by omega) (by omega) (by omega) ?_ -- pc_ 229
        refine sm_T_go 1 (c1 := (175, [some (.inr (.inr (some (13, 0)))), some (.inl w_), some (.inl sz_), some (.inl (k_ + 1)), some (.inl ((i_shr (S_.2.2.1 209 0 w_.toNat) k_) % 2)), none], [], S_)) rfl ?_
        refine sm_T_wk [some (.inr (.inr (some (13, 0)))), some (.inl w_), some (.inl sz_), some (.inl (k_ + 1)), none, none] (by exact ⟨rfl, rfl, rfl, rfl, trivial⟩) ?_
        refine ih_ w_ sz_ (k_ + 1) S_ hI_ hF_ ⟨?_, ?_, ?_, trivial⟩ ?_
        · exact h4_
        · rw [← h4_]
          omega
        · rw [← h4_]
          intro j9_ u0_ u1_
          by_cases z9_ : j9_ = k_
          · rw [z9_, ← e205_.1]; omega
          · exact h1_ j9_ u0_ (by omega)
        · omega
      · have cx62_ : ¬ (vx61_ ≠ (-1)) := of_decide_eq_false cx62_
        refine sm_T_go 5 (c1 := (219, [some (.inr (.inr (some (13, 0)))), some (.inl w_), some (.inl sz_), some (.inl k_), some (.inl ((i_shr (S_.2.2.1 209 0 w_.toNat) k_) % 2)), none], [.inl w_, .inl 3, .inr (.inr (some (208, 0))), .inr (.inr (some (13, 0)))], S_)) rfl ?_
        refine sm_T_bin (w := 3 * w_) rfl (bi_mul (by omega) (by omega) (by omega)) ?_ -- pc_ 219
        refine sm_T_go 1 (c1 := (221, [some (.inr (.inr (some (13, 0)))), some (.inl w_), some (.inl sz_), some (.inl k_), some (.inl ((i_shr (S_.2.2.1 209 0 w_.toNat) k_) % 2)), none], [.inl k_, .inl (3 * w_), .inr (.inr (some (208, 0))), .inr (.inr (some (13, 0)))], S_)) rfl ?_
        refine sm_T_bin (w := 3 * w_ + k_) rfl (bi_add (by omega) (by omega) (by omega)) ?_ -- pc_ 221
        refine sm_T_iald (n := 12288) rfl rfl (by omega) (by omega) ?_
        refine sm_T_go 1 (c1 := (225, [some (.inr (.inr (some (13, 0)))), some (.inl w_), some (.inl sz_), some (.inl k_), some (.inl ((i_shr (S_.2.2.1 209 0 w_.toNat) k_) % 2)), none], [.inl ((i_shr (S_.2.2.1 209 0 w_.toNat) k_) % 2), .inl (S_.2.2.1 208 0 (3 * w_ + k_).toNat), .inr (.inr (some (13, 0)))], S_)) rfl ?_
        refine sm_T_cal (d1 := 2) (Q1 := vq_416 (S_.2.2.1 208 0 (3 * w_ + k_).toNat) ((i_shr (S_.2.2.1 209 0 w_.toNat) k_) % 2) F_ S_) rfl rfl (by decide) (vc_416 (S_.2.2.1 208 0 (3 * w_ + k_).toNat) ((i_shr (S_.2.2.1 209 0 w_.toNat) k_) % 2) F_ S_ hI_ (by exact f160_) (by omega) (by omega)) (fun u_ Sx63_ px66_ => ?_)
        obtain ⟨rfl, hIx64_, hFx65_, px66_⟩ := px66_
        have hFx67_ : ai_fr (sx_W vw_417) S0_ Sx63_ := ai_fr_tr hF_ (fr_le hFx65_ rfl)
        have e225_ := px66_
        have f225_ := hFx65_
        refine sm_T_rv rfl ⟨_, _, rfl, rfl, hIx64_, hFx67_, ?_⟩
        rw [← h4_]
        rcases e225_ with e9_ | e9_
        · exact wk_push hI_ hgs_ hjs_ hj_ (by omega) e9_.2.2 f225_ (Or.inl ⟨rfl, by omega, by omega, i3_, by (rcases e9_.1 with y9_ | y9_; exact Or.inl y9_; (by_cases b9_ : S_.2.2.1 208 0 (3 * w_ + k_).toNat < F_; exact Or.inl b9_; exact Or.inr ⟨y9_, hgd_ _ (by omega) (by omega) i3_ y9_⟩))⟩) (by (rw [rk9_]; unfold jrk; rw [if_pos rfl]; omega)) nd9_ (by (unfold jdn; have z9_ := e205_.1; unfold noi at z9_; rw [if_neg (by omega), if_neg (by omega)] at z9_; omega))
        · by_cases A9_ : F_ ≤ S_.2.2.1 208 0 (3 * w_ + k_).toNat ∧ S_.2.2.1 203 0 (S_.2.2.1 208 0 (3 * w_ + k_).toNat).toNat = 0
          · have z9_ := e205_.1
            unfold noi at z9_
            unfold cst at i4_
            rw [if_pos A9_] at z9_ i4_
            have c9_ : S_.2.2.1 211 0 (2 * S_.2.2.1 208 0 (3 * w_ + k_).toNat + i_shr (S_.2.2.1 209 0 w_.toNat) k_ % 2).toNat ≤ 1 := (hI_.2 211 0 _).2
            exact wk_push hI_ hgs_ hjs_ hj_ (by omega) e9_.2 f225_ (Or.inr ⟨rfl, by omega, by omega, by (rw [q2k]; exact i3_), i4_⟩) (by (rw [rk9_]; unfold jrk; rw [if_neg (by decide), q2k]; omega)) nd9_ (by (unfold jdn; omega))
          · have t9_ : i_shr (S_.2.2.1 209 0 w_.toNat) k_ % 2 = 0 := by omega
            have z9_ := e205_.1
            unfold noi at z9_
            rw [if_neg A9_, if_pos t9_] at z9_
            unfold lnf at z9_
            have F9_ : ¬ (S_.2.2.1 208 0 (3 * w_ + k_).toNat < F_) := fun F9_ => by (rw [if_pos F9_] at z9_; omega)
            rw [if_neg F9_] at z9_
            have e8_ := e9_.2
            rw [t9_, Int.add_zero] at e8_
            have b3_ : 0 ≤ S_.2.2.1 203 0 (S_.2.2.1 208 0 (3 * w_ + k_).toNat).toNat ∧ S_.2.2.1 203 0 (S_.2.2.1 208 0 (3 * w_ + k_).toNat).toNat ≤ 1 := hI_.2 203 0 _
            have q9_ : 2 * S_.2.2.1 208 0 (3 * w_ + k_).toNat / 2 = S_.2.2.1 208 0 (3 * w_ + k_).toNat := by omega
            have c9_ : S_.2.2.1 211 0 (2 * S_.2.2.1 208 0 (3 * w_ + k_).toNat).toNat ≤ 1 := (hI_.2 211 0 _).2
            exact wk_push hI_ hgs_ hjs_ hj_ (by omega) e8_ f225_ (Or.inr ⟨rfl, by omega, by omega, by (rw [q9_]; exact i3_), hgd_ _ (by omega) (by omega) i3_ (by omega)⟩) (by (rw [rk9_]; unfold jrk; rw [if_neg (by decide), q9_]; omega)) nd9_ (by (unfold jdn; omega))
set_option maxHeartbeats 4000000 in
set_option maxRecDepth 20000 in
theorem vc_417 {sc_ : Nat × (Nat → Int)} (F_ : Int) (N_ : Int) (d_ : Int) (S0_ : sm_S) (hI_ : gi S0_) (hd_ : dmp F_ N_ d_ S0_) (hal_ : wal9 F_ N_ S0_) (hgd_ : gdr F_ N_ S0_) (hiv_ : (S0_.1 13 0 107) = -1 ∨ S0_.2.2.1 185 0 (12 * S0_.1 13 0 106 + S0_.1 13 0 107).toNat = 1) (hgs_ : gst F_ N_ S0_) (hjs_ : jsk F_ N_ S0_) (hj_ : 1 ≤ (S0_.1 13 0 137)) : sm_T (mt_P sc_) 3 417 (0, [some (.inr (.inr (some (13, 0)))), none, none, none, none, none], [], S0_) (fun ro9_ => ∃ u_ S1_, ro9_ = (.inl u_, S1_, 0) ∧ vq_417 F_ N_ d_ S0_ u_ S1_) := by
  have hF_ : ai_fr (sx_W vw_417) S0_ S0_ := ai_fr_rf
  have d1_ := hd_.1
  have tj_ := hjs_ (S0_.1 13 0 137 - 1) (by omega) (by omega)
  have tg_ := tj_.1
  have f160_ : S0_.2.2.1 160 0 (S0_.1 13 0 105).toNat = F_ := by (rw [d1_.2.2.1]; exact d1_.2.2.2.1)
  have jc_ := jsk_c hI_ hjs_ (by omega)
  have g0_ := hgs_.1
  have cw : 0 ≤ S0_.2.2.1 220 0 (S0_.1 13 0 137 - 1).toNat ∧ S0_.2.2.1 220 0 (S0_.1 13 0 137 - 1).toNat ≤ 4095 := hI_.2 220 0 _
  have cs_ : 0 ≤ S0_.2.2.1 221 0 (S0_.1 13 0 137 - 1).toNat ∧ S0_.2.2.1 221 0 (S0_.1 13 0 137 - 1).toNat ≤ 1 := hI_.2 221 0 _
  have bx1_ : 0 ≤ S0_.1 13 0 137 ∧ S0_.1 13 0 137 ≤ 8191 := hI_.1 13 0 137 rfl
  refine sm_T_go 5 (c1 := (9, [some (.inr (.inr (some (13, 0)))), none, none, none, none, none], [.inl 1, .inl (S0_.1 13 0 137), .inr (.inr (some (220, 0)))], S0_)) rfl ?_
  refine sm_T_bin (w := (S0_.1 13 0 137) - 1) rfl (bi_sub (by omega) (by omega) (by omega)) ?_ -- pc_ 9
  refine sm_T_iald (n := 8192) rfl rfl (by omega) (by omega) ?_
  have bx2_ : 0 ≤ S0_.2.2.1 220 0 ((S0_.1 13 0 137) - 1).toNat ∧ S0_.2.2.1 220 0 ((S0_.1 13 0 137) - 1).toNat ≤ 4095 := hI_.2 220 0 _
  refine sm_T_go 6 (c1 := (21, [some (.inr (.inr (some (13, 0)))), some (.inl (S0_.2.2.1 220 0 ((S0_.1 13 0 137) - 1).toNat)), none, none, none, none], [.inl 1, .inl (S0_.1 13 0 137), .inr (.inr (some (221, 0)))], S0_)) rfl ?_
  refine sm_T_bin (w := (S0_.1 13 0 137) - 1) rfl (bi_sub (by omega) (by omega) (by omega)) ?_ -- pc_ 21
  refine sm_T_iald (n := 8192) rfl rfl (by omega) (by omega) ?_
  have bx3_ : 0 ≤ S0_.2.2.1 221 0 ((S0_.1 13 0 137) - 1).toNat ∧ S0_.2.2.1 221 0 ((S0_.1 13 0 137) - 1).toNat ≤ 1 := hI_.2 221 0 _
  refine sm_T_go 1 (c1 := (24, [some (.inr (.inr (some (13, 0)))), some (.inl (S0_.2.2.1 220 0 ((S0_.1 13 0 137) - 1).toNat)), none, none, none, none], [.inl 1, .inl (S0_.2.2.1 221 0 ((S0_.1 13 0 137) - 1).toNat)], S0_)) rfl ?_
  refine sm_T_br (a := 1) (z := 62) rfl (fun cx4_ => ?_) (fun cx4_ => ?_)
  · have cx4_ : (S0_.2.2.1 221 0 ((S0_.1 13 0 137) - 1).toNat) ≠ 1 := of_decide_eq_true cx4_
    have t0_ : 2 * F_ ≤ (S0_.2.2.1 220 0 (S0_.1 13 0 137 - 1).toNat) ∧ (S0_.2.2.1 220 0 (S0_.1 13 0 137 - 1).toNat) < 2 * N_ ∧ S0_.2.2.1 202 0 ((S0_.2.2.1 220 0 (S0_.1 13 0 137 - 1).toNat) / 2).toNat = 1 ∧ S0_.2.2.1 210 0 (S0_.2.2.1 220 0 (S0_.1 13 0 137 - 1).toNat).toNat < 1000000000 := by (rcases tg_ with y9_ | y9_; (exfalso; omega); exact y9_.2)
    have W8_ := wk_way hI_ hal_ (by omega) t0_
    have x1_ := i_x1 (x_ := (S0_.2.2.1 220 0 (S0_.1 13 0 137 - 1).toNat)) (by omega)
    have qx2_ : i_xor (S0_.2.2.1 220 0 (S0_.1 13 0 137 - 1).toNat) 1 / 2 = (S0_.2.2.1 220 0 (S0_.1 13 0 137 - 1).toNat) / 2 := by omega
    refine sm_T_go 3 (c1 := (91, [some (.inr (.inr (some (13, 0)))), some (.inl (S0_.2.2.1 220 0 ((S0_.1 13 0 137) - 1).toNat)), none, none, none, none], [.inl (S0_.2.2.1 220 0 ((S0_.1 13 0 137) - 1).toNat), .inr (.inr (some (218, 0)))], S0_)) rfl ?_
    refine sm_T_iald (n := 4096) rfl rfl (by omega) (by omega) ?_
    have bx5_ : (-2) ≤ S0_.2.2.1 218 0 (S0_.2.2.1 220 0 ((S0_.1 13 0 137) - 1).toNat).toNat ∧ S0_.2.2.1 218 0 (S0_.2.2.1 220 0 ((S0_.1 13 0 137) - 1).toNat).toNat ≤ 9000 := hI_.2 218 0 _
    refine sm_T_go 1 (c1 := (93, [some (.inr (.inr (some (13, 0)))), some (.inl (S0_.2.2.1 220 0 ((S0_.1 13 0 137) - 1).toNat)), none, none, none, none], [.inl (-1), .inl (S0_.2.2.1 218 0 (S0_.2.2.1 220 0 ((S0_.1 13 0 137) - 1).toNat).toNat)], S0_)) rfl ?_
    refine sm_T_br (a := 0) (z := 14) rfl (fun cx6_ => ?_) (fun cx6_ => ?_)
    · have cx6_ : (S0_.2.2.1 218 0 (S0_.2.2.1 220 0 ((S0_.1 13 0 137) - 1).toNat).toNat) = (-1) := of_decide_eq_true cx6_
      refine sm_T_go 3 (c1 := (112, [some (.inr (.inr (some (13, 0)))), some (.inl (S0_.2.2.1 220 0 ((S0_.1 13 0 137) - 1).toNat)), none, none, none, none], [.inl (S0_.2.2.1 220 0 ((S0_.1 13 0 137) - 1).toNat), .inr (.inr (some (211, 0)))], S0_)) rfl ?_
      refine sm_T_zald (n := 4096) rfl rfl (by omega) (by omega) ?_
      have bx7_ : 0 ≤ S0_.2.2.1 211 0 (S0_.2.2.1 220 0 ((S0_.1 13 0 137) - 1).toNat).toNat ∧ S0_.2.2.1 211 0 (S0_.2.2.1 220 0 ((S0_.1 13 0 137) - 1).toNat).toNat ≤ 1 := hI_.2 211 0 _
      refine sm_T_b0 (a := 0) (z := 40) rfl (fun cx8_ => ?_) (fun cx8_ => ?_)
      · have cx8_ : (S0_.2.2.1 211 0 (S0_.2.2.1 220 0 ((S0_.1 13 0 137) - 1).toNat).toNat) = 0 := of_decide_eq_true cx8_
        have bx9_ : 0 ≤ S0_.1 13 0 106 ∧ S0_.1 13 0 106 ≤ 2 := hI_.1 13 0 106 rfl
        refine sm_T_go 5 (c1 := (163, [some (.inr (.inr (some (13, 0)))), some (.inl (S0_.2.2.1 220 0 ((S0_.1 13 0 137) - 1).toNat)), none, none, none, none], [.inl (S0_.1 13 0 106), .inl 12, .inr (.inr (some (185, 0)))], S0_)) rfl ?_
        refine sm_T_bin (w := 12 * (S0_.1 13 0 106)) rfl (bi_mul (by omega) (by omega) (by omega)) ?_ -- pc_ 163
        refine sm_T_go 3 (c1 := (169, [some (.inr (.inr (some (13, 0)))), some (.inl (S0_.2.2.1 220 0 ((S0_.1 13 0 137) - 1).toNat)), none, none, none, none], [.inl (S0_.2.2.1 220 0 ((S0_.1 13 0 137) - 1).toNat), .inr (.inr (some (207, 0))), .inl (12 * (S0_.1 13 0 106)), .inr (.inr (some (185, 0)))], S0_)) rfl ?_
        refine sm_T_iald (n := 4096) rfl rfl (by omega) (by omega) ?_
        have bx10_ : (-1) ≤ S0_.2.2.1 207 0 (S0_.2.2.1 220 0 ((S0_.1 13 0 137) - 1).toNat).toNat ∧ S0_.2.2.1 207 0 (S0_.2.2.1 220 0 ((S0_.1 13 0 137) - 1).toNat).toNat ≤ 11 := hI_.2 207 0 _
        refine sm_T_bin (w := 12 * (S0_.1 13 0 106) + (S0_.2.2.1 207 0 (S0_.2.2.1 220 0 ((S0_.1 13 0 137) - 1).toNat).toNat)) rfl (bi_add (by omega) (by omega) (by omega)) ?_ -- pc_ 170
        refine sm_T_iald (n := 36) rfl rfl (by omega) (by omega) ?_
        have bx11_ : 0 ≤ S0_.2.2.1 185 0 (12 * (S0_.1 13 0 106) + (S0_.2.2.1 207 0 (S0_.2.2.1 220 0 ((S0_.1 13 0 137) - 1).toNat).toNat)).toNat ∧ S0_.2.2.1 185 0 (12 * (S0_.1 13 0 106) + (S0_.2.2.1 207 0 (S0_.2.2.1 220 0 ((S0_.1 13 0 137) - 1).toNat).toNat)).toNat ≤ 3 := hI_.2 185 0 _
        refine sm_T_go 3 (c1 := (175, [some (.inr (.inr (some (13, 0)))), some (.inl (S0_.2.2.1 220 0 ((S0_.1 13 0 137) - 1).toNat)), some (.inl (S0_.2.2.1 185 0 (12 * (S0_.1 13 0 106) + (S0_.2.2.1 207 0 (S0_.2.2.1 220 0 ((S0_.1 13 0 137) - 1).toNat).toNat)).toNat)), some (.inl 0), none, none], [], S0_)) rfl ?_
        refine (vl_417 F_ N_ d_ S0_ hd_ hal_ hgd_ hiv_ hgs_ hjs_ hj_ _) (S0_.2.2.1 220 0 ((S0_.1 13 0 137) - 1).toNat) (S0_.2.2.1 185 0 (12 * (S0_.1 13 0 106) + (S0_.2.2.1 207 0 (S0_.2.2.1 220 0 ((S0_.1 13 0 137) - 1).toNat).toNat)).toNat) 0 S0_ hI_ hF_ ⟨?_, ?_, ?_, trivial⟩ (Nat.lt_succ_self _)
        · rfl
        · omega
        · (intro j9_ u0_ u1_; exfalso; omega)
      · have cx8_ : ¬ ((S0_.2.2.1 211 0 (S0_.2.2.1 220 0 ((S0_.1 13 0 137) - 1).toNat).toNat) = 0) := of_decide_eq_false cx8_
        refine sm_T_go 4 (c1 := (122, [some (.inr (.inr (some (13, 0)))), some (.inl (S0_.2.2.1 220 0 ((S0_.1 13 0 137) - 1).toNat)), none, none, none, none], [.inl 1, .inl (S0_.2.2.1 220 0 ((S0_.1 13 0 137) - 1).toNat), .inr (.inr (some (218, 0)))], S0_)) rfl ?_
        refine sm_T_bin (w := (i_xor (S0_.2.2.1 220 0 ((S0_.1 13 0 137) - 1).toNat) 1)) rfl rfl ?_ -- pc_ 122
        refine sm_T_iald (n := 4096) rfl rfl (by omega) (by omega) ?_
        have bx12_ : (-2) ≤ S0_.2.2.1 218 0 (i_xor (S0_.2.2.1 220 0 ((S0_.1 13 0 137) - 1).toNat) 1).toNat ∧ S0_.2.2.1 218 0 (i_xor (S0_.2.2.1 220 0 ((S0_.1 13 0 137) - 1).toNat) 1).toNat ≤ 9000 := hI_.2 218 0 _
        refine sm_T_go 3 (c1 := (127, [some (.inr (.inr (some (13, 0)))), some (.inl (S0_.2.2.1 220 0 ((S0_.1 13 0 137) - 1).toNat)), some (.inl (S0_.2.2.1 218 0 (i_xor (S0_.2.2.1 220 0 ((S0_.1 13 0 137) - 1).toNat) 1).toNat)), none, none, none], [.inl (-1), .inl (S0_.2.2.1 218 0 (i_xor (S0_.2.2.1 220 0 ((S0_.1 13 0 137) - 1).toNat) 1).toNat)], S0_)) rfl ?_
        refine sm_T_br (a := 1) (z := 14) rfl (fun cx13_ => ?_) (fun cx13_ => ?_)
        · have cx13_ : (S0_.2.2.1 218 0 (i_xor (S0_.2.2.1 220 0 ((S0_.1 13 0 137) - 1).toNat) 1).toNat) ≠ (-1) := of_decide_eq_true cx13_
          refine sm_T_go 5 (c1 := (148, [some (.inr (.inr (some (13, 0)))), some (.inl (S0_.2.2.1 220 0 ((S0_.1 13 0 137) - 1).toNat)), some (.inl (S0_.2.2.1 218 0 (i_xor (S0_.2.2.1 220 0 ((S0_.1 13 0 137) - 1).toNat) 1).toNat)), none, none, none], [.inl (S0_.2.2.1 218 0 (i_xor (S0_.2.2.1 220 0 ((S0_.1 13 0 137) - 1).toNat) 1).toNat), .inr (.inr (some (13, 0))), .inl (S0_.2.2.1 220 0 ((S0_.1 13 0 137) - 1).toNat), .inr (.inr (some (218, 0)))], S0_)) rfl ?_
          refine sm_T_cal (d1 := 2) (Q1 := vq_411 (S0_.2.2.1 218 0 (i_xor (S0_.2.2.1 220 0 ((S0_.1 13 0 137) - 1).toNat) 1).toNat) F_ N_ d_ S0_) rfl rfl (by decide) (vc_411 (S0_.2.2.1 218 0 (i_xor (S0_.2.2.1 220 0 ((S0_.1 13 0 137) - 1).toNat) 1).toNat) F_ N_ d_ S0_ hI_ (by exact hd_) (by omega) (by (have b9_ := hgs_.2.1 (i_xor (S0_.2.2.1 220 0 (S0_.1 13 0 137 - 1).toNat) 1) (by omega) (by omega); rcases b9_ with y9_ | y9_; (exfalso; omega); exact y9_)) (by exact hiv_) (by exact hgs_.2.2.2)) (fun u_ Sx14_ px17_ => ?_)
          obtain ⟨vx19_, rfl, hIx15_, hFx16_, px17_⟩ := px17_
          have hFx18_ : ai_fr (sx_W vw_417) S0_ Sx14_ := ai_fr_tr hF_ (fr_le hFx16_ rfl)
          have ex20_ : Sx14_.1 13 0 137 = S0_.1 13 0 137 := hFx16_.1 13 0 137 rfl
          have e148_ := px17_
          have f148_ := hFx16_
          refine sm_T_iast (n := 4096) rfl rfl (by omega) (by omega) ?_
          have hIx21_ : gi (sm_aI Sx14_ 218 0 (S0_.2.2.1 220 0 ((S0_.1 13 0 137) - 1).toNat).toNat vx19_) := gi_aI hIx15_ (show (-2) ≤ vx19_ ∧ vx19_ ≤ 9000 from ⟨by omega, by omega⟩)
          have hFx22_ : ai_fr (sx_W vw_417) S0_ (sm_aI Sx14_ 218 0 (S0_.2.2.1 220 0 ((S0_.1 13 0 137) - 1).toNat).toNat vx19_) := ai_fr_tr hFx18_ (ai_fr_aI rfl)
          refine sm_T_rv rfl ⟨_, _, rfl, rfl, hIx21_, hFx22_, ?_⟩
          first
          | (have y8_ := e135_; have c9_ : S0_.2.2.1 211 0 (S0_.2.2.1 220 0 (S0_.1 13 0 137 - 1).toNat).toNat ≠ 0 := by omega
             exact wk_push hI_ hgs_ hjs_ hj_ (by omega) e135_ f135_ (Or.inr ⟨rfl, by omega, by omega, by (rw [qx2_]; exact t0_.2.2.1), by (rw [x1_]; exact (W8_.2 c9_).2)⟩) (by (unfold jrk jtos jtop; rw [if_neg (by decide), if_neg (by omega), qx2_, x1_, (W8_.2 c9_).1]; omega)) (by (unfold jdn jtos jtop; omega)) (by (unfold jdn; omega)))
          | (have y8_ := e148_; exact wk_g (by assumption) hgs_ hjs_ (by omega) (by omega) f148_ ⟨t0_.1, t0_.2.1⟩ (by omega) e148_)
        · have cx13_ : ¬ ((S0_.2.2.1 218 0 (i_xor (S0_.2.2.1 220 0 ((S0_.1 13 0 137) - 1).toNat) 1).toNat) ≠ (-1)) := of_decide_eq_false cx13_
          refine sm_T_go 4 (c1 := (134, [some (.inr (.inr (some (13, 0)))), some (.inl (S0_.2.2.1 220 0 ((S0_.1 13 0 137) - 1).toNat)), some (.inl (S0_.2.2.1 218 0 (i_xor (S0_.2.2.1 220 0 ((S0_.1 13 0 137) - 1).toNat) 1).toNat)), none, none, none], [.inl 1, .inl (S0_.2.2.1 220 0 ((S0_.1 13 0 137) - 1).toNat), .inl 0, .inr (.inr (some (13, 0)))], S0_)) rfl ?_
          refine sm_T_bin (w := (i_xor (S0_.2.2.1 220 0 ((S0_.1 13 0 137) - 1).toNat) 1)) rfl rfl ?_ -- pc_ 134
          refine sm_T_cal (d1 := 0) (Q1 := vq_412 0 (i_xor (S0_.2.2.1 220 0 ((S0_.1 13 0 137) - 1).toNat) 1) S0_) rfl rfl (by decide) (vc_412 0 (i_xor (S0_.2.2.1 220 0 ((S0_.1 13 0 137) - 1).toNat) 1) S0_ hI_ (by omega) (by omega)) (fun u_ Sx23_ px26_ => ?_)
          obtain ⟨rfl, hIx24_, hFx25_, px26_⟩ := px26_
          have hFx27_ : ai_fr (sx_W vw_417) S0_ Sx23_ := ai_fr_tr hF_ (fr_le hFx25_ rfl)
          have e135_ := px26_
          have f135_ := hFx25_
          refine sm_T_go 1 (c1 := (152, [some (.inr (.inr (some (13, 0)))), some (.inl (S0_.2.2.1 220 0 ((S0_.1 13 0 137) - 1).toNat)), some (.inl (S0_.2.2.1 218 0 (i_xor (S0_.2.2.1 220 0 ((S0_.1 13 0 137) - 1).toNat) 1).toNat)), none, none, none], [], Sx23_)) rfl ?_
          refine sm_T_rv rfl ⟨_, _, rfl, rfl, hIx24_, hFx27_, ?_⟩
          first
          | (have y8_ := e135_; have c9_ : S0_.2.2.1 211 0 (S0_.2.2.1 220 0 (S0_.1 13 0 137 - 1).toNat).toNat ≠ 0 := by omega
             exact wk_push hI_ hgs_ hjs_ hj_ (by omega) e135_ f135_ (Or.inr ⟨rfl, by omega, by omega, by (rw [qx2_]; exact t0_.2.2.1), by (rw [x1_]; exact (W8_.2 c9_).2)⟩) (by (unfold jrk jtos jtop; rw [if_neg (by decide), if_neg (by omega), qx2_, x1_, (W8_.2 c9_).1]; omega)) (by (unfold jdn jtos jtop; omega)) (by (unfold jdn; omega)))
          | (have y8_ := e148_; exact wk_g (by assumption) hgs_ hjs_ (by omega) (by omega) f148_ ⟨t0_.1, t0_.2.1⟩ (by omega) e148_)
    · have cx6_ : ¬ ((S0_.2.2.1 218 0 (S0_.2.2.1 220 0 ((S0_.1 13 0 137) - 1).toNat).toNat) = (-1)) := of_decide_eq_false cx6_
      refine sm_T_go 4 (c1 := (102, [some (.inr (.inr (some (13, 0)))), some (.inl (S0_.2.2.1 220 0 ((S0_.1 13 0 137) - 1).toNat)), none, none, none, none], [.inl 1, .inl (S0_.1 13 0 137), .inr (.inr (some (13, 0)))], S0_)) rfl ?_
      refine sm_T_bin (w := (S0_.1 13 0 137) - 1) rfl (bi_sub (by omega) (by omega) (by omega)) ?_ -- pc_ 102
      have hIx28_ : gi (sm_pI S0_ 13 0 137 ((S0_.1 13 0 137) - 1)) := gi_pI hI_ (show 0 ≤ (S0_.1 13 0 137) - 1 ∧ (S0_.1 13 0 137) - 1 ≤ 8191 from ⟨by omega, by omega⟩)
      have hFx29_ : ai_fr (sx_W vw_417) S0_ (sm_pI S0_ 13 0 137 ((S0_.1 13 0 137) - 1)) := ai_fr_tr hF_ (ai_fr_pI rfl)
      refine sm_T_go 1 (c1 := (106, [some (.inr (.inr (some (13, 0)))), some (.inl (S0_.2.2.1 220 0 ((S0_.1 13 0 137) - 1).toNat)), none, none, none, none], [], sm_pI S0_ 13 0 137 ((S0_.1 13 0 137) - 1))) rfl ?_
      refine sm_T_rv rfl ⟨_, _, rfl, rfl, hIx28_, hFx29_, ?_⟩
      exact wk_pop hI_ hgs_ hjs_ hj_ (by omega) (Or.inr ⟨by (show (S0_.2.2.1 221 0 (S0_.1 13 0 137 - 1).toNat) ≠ 1; omega), by (show S0_.2.2.1 218 0 (S0_.2.2.1 220 0 (S0_.1 13 0 137 - 1).toNat).toNat ≠ -1; omega)⟩)
  · have cx4_ : ¬ ((S0_.2.2.1 221 0 ((S0_.1 13 0 137) - 1).toNat) ≠ 1) := of_decide_eq_false cx4_
    have t1_ : 1 ≤ (S0_.2.2.1 220 0 (S0_.1 13 0 137 - 1).toNat) ∧ (S0_.2.2.1 220 0 (S0_.1 13 0 137 - 1).toNat) < N_ ∧ S0_.2.2.1 202 0 (S0_.2.2.1 220 0 (S0_.1 13 0 137 - 1).toNat).toNat = 1 ∧ ((S0_.2.2.1 220 0 (S0_.1 13 0 137 - 1).toNat) < F_ ∨ (S0_.2.2.1 203 0 (S0_.2.2.1 220 0 (S0_.1 13 0 137 - 1).toNat).toNat = 1 ∧ S0_.2.2.1 210 0 (2 * (S0_.2.2.1 220 0 (S0_.1 13 0 137 - 1).toNat)).toNat < 1000000000)) := by (rcases tg_ with y9_ | y9_; exact y9_.2; (exfalso; omega))
    have q2w : 2 * (S0_.2.2.1 220 0 (S0_.1 13 0 137 - 1).toNat) / 2 = (S0_.2.2.1 220 0 (S0_.1 13 0 137 - 1).toNat) := by omega
    refine sm_T_go 3 (c1 := (32, [some (.inr (.inr (some (13, 0)))), some (.inl (S0_.2.2.1 220 0 ((S0_.1 13 0 137) - 1).toNat)), none, none, none, none], [.inl (S0_.2.2.1 220 0 ((S0_.1 13 0 137) - 1).toNat), .inr (.inr (some (219, 0)))], S0_)) rfl ?_
    refine sm_T_iald (n := 2048) rfl rfl (by omega) (by omega) ?_
    have bx30_ : (-2) ≤ S0_.2.2.1 219 0 (S0_.2.2.1 220 0 ((S0_.1 13 0 137) - 1).toNat).toNat ∧ S0_.2.2.1 219 0 (S0_.2.2.1 220 0 ((S0_.1 13 0 137) - 1).toNat).toNat ≤ 9000 := hI_.2 219 0 _
    refine sm_T_go 1 (c1 := (34, [some (.inr (.inr (some (13, 0)))), some (.inl (S0_.2.2.1 220 0 ((S0_.1 13 0 137) - 1).toNat)), none, none, none, none], [.inl (-1), .inl (S0_.2.2.1 219 0 (S0_.2.2.1 220 0 ((S0_.1 13 0 137) - 1).toNat).toNat)], S0_)) rfl ?_
    refine sm_T_br (a := 0) (z := 16) rfl (fun cx31_ => ?_) (fun cx31_ => ?_)
    · have cx31_ : (S0_.2.2.1 219 0 (S0_.2.2.1 220 0 ((S0_.1 13 0 137) - 1).toNat).toNat) = (-1) := of_decide_eq_true cx31_
      refine sm_T_go 2 (c1 := (52, [some (.inr (.inr (some (13, 0)))), some (.inl (S0_.2.2.1 220 0 ((S0_.1 13 0 137) - 1).toNat)), none, none, none, none], [.inl (S0_.2.2.1 220 0 ((S0_.1 13 0 137) - 1).toNat), .inr (.inr (some (13, 0)))], S0_)) rfl ?_
      refine sm_T_cal (d1 := 0) (Q1 := vq_414 (S0_.2.2.1 220 0 ((S0_.1 13 0 137) - 1).toNat) F_ S0_) rfl rfl (by decide) (vc_414 (S0_.2.2.1 220 0 ((S0_.1 13 0 137) - 1).toNat) F_ S0_ hI_ (by exact f160_) (by omega)) (fun u_ Sx32_ px35_ => ?_)
      obtain ⟨rfl, vx37_, rfl, px35_⟩ := px35_
      have e52_ := px35_
      refine sm_T_go 1 (c1 := (56, [some (.inr (.inr (some (13, 0)))), some (.inl (S0_.2.2.1 220 0 ((S0_.1 13 0 137) - 1).toNat)), none, none, none, none], [.inl (-1), .inl vx37_], S0_)) rfl ?_
      refine sm_T_br (a := 1) (z := 14) rfl (fun cx38_ => ?_) (fun cx38_ => ?_)
      · have cx38_ : vx37_ ≠ (-1) := of_decide_eq_true cx38_
        refine sm_T_go 6 (c1 := (78, [some (.inr (.inr (some (13, 0)))), some (.inl (S0_.2.2.1 220 0 ((S0_.1 13 0 137) - 1).toNat)), none, none, none, none], [.inl (S0_.2.2.1 220 0 ((S0_.1 13 0 137) - 1).toNat), .inr (.inr (some (13, 0))), .inr (.inr (some (13, 0))), .inl (S0_.2.2.1 220 0 ((S0_.1 13 0 137) - 1).toNat), .inr (.inr (some (219, 0)))], S0_)) rfl ?_
        refine sm_T_cal (d1 := 0) (Q1 := vq_414 (S0_.2.2.1 220 0 ((S0_.1 13 0 137) - 1).toNat) F_ S0_) rfl rfl (by decide) (vc_414 (S0_.2.2.1 220 0 ((S0_.1 13 0 137) - 1).toNat) F_ S0_ hI_ (by exact f160_) (by omega)) (fun u_ Sx39_ px42_ => ?_)
        obtain ⟨rfl, vx44_, rfl, px42_⟩ := px42_
        have e78_ := px42_
        have n78_ := lnf_b hgs_ (x_ := (S0_.2.2.1 220 0 (S0_.1 13 0 137 - 1).toNat)) (by omega)
        rw [← e78_.1] at n78_
        have n79_ : 0 ≤ vx44_ ∧ vx44_ < F_ - 1 + S0_.1 13 0 129 := by (rcases n78_ with y9_ | y9_; (exfalso; have z9_ := e52_.1.trans e78_.1.symm; omega); exact y9_)
        refine sm_T_cal (d1 := 2) (Q1 := vq_411 vx44_ F_ N_ d_ S0_) rfl rfl (by decide) (vc_411 vx44_ F_ N_ d_ S0_ hI_ (by exact hd_) (by omega) (by exact n79_) (by exact hiv_) (by exact hgs_.2.2.2)) (fun u_ Sx45_ px48_ => ?_)
        obtain ⟨vx50_, rfl, hIx46_, hFx47_, px48_⟩ := px48_
        have hFx49_ : ai_fr (sx_W vw_417) S0_ Sx45_ := ai_fr_tr hF_ (fr_le hFx47_ rfl)
        have ex51_ : Sx45_.1 13 0 137 = S0_.1 13 0 137 := hFx47_.1 13 0 137 rfl
        have e81_ := px48_
        have f81_ := hFx47_
        refine sm_T_iast (n := 2048) rfl rfl (by omega) (by omega) ?_
        have hIx52_ : gi (sm_aI Sx45_ 219 0 (S0_.2.2.1 220 0 ((S0_.1 13 0 137) - 1).toNat).toNat vx50_) := gi_aI hIx46_ (show (-2) ≤ vx50_ ∧ vx50_ ≤ 9000 from ⟨by omega, by omega⟩)
        have hFx53_ : ai_fr (sx_W vw_417) S0_ (sm_aI Sx45_ 219 0 (S0_.2.2.1 220 0 ((S0_.1 13 0 137) - 1).toNat).toNat vx50_) := ai_fr_tr hFx49_ (ai_fr_aI rfl)
        refine sm_T_rv rfl ⟨_, _, rfl, rfl, hIx52_, hFx53_, ?_⟩
        first
        | (have y8_ := e64_; have z9_ := e52_.1; unfold lnf at z9_; have F9_ : ¬ ((S0_.2.2.1 220 0 (S0_.1 13 0 137 - 1).toNat) < F_) := fun F9_ => by (rw [if_pos F9_] at z9_; omega)
           rw [if_neg F9_] at z9_; have c9_ : S0_.2.2.1 211 0 (2 * (S0_.2.2.1 220 0 (S0_.1 13 0 137 - 1).toNat)).toNat ≤ 1 := (hI_.2 211 0 _).2
           exact wk_push hI_ hgs_ hjs_ hj_ (by omega) e64_ f64_ (Or.inr ⟨rfl, by omega, by omega, by (rw [q2w]; exact t1_.2.2.1), by omega⟩) (by (unfold jrk jtos jtop; rw [if_neg (by decide), if_pos (by omega), q2w]; omega)) (by (unfold jdn jtos jtop; omega)) (by (unfold jdn; omega)))
        | (have y8_ := e81_; exact wk_t (by assumption) hgs_ hjs_ (by omega) (by omega) f81_ ⟨t1_.1, t1_.2.1⟩ (by omega) e81_)
        | exact wk_pop hI_ hgs_ hjs_ hj_ (by omega) (Or.inl ⟨by (show (S0_.2.2.1 221 0 (S0_.1 13 0 137 - 1).toNat) = 1; omega), by (show S0_.2.2.1 219 0 (S0_.2.2.1 220 0 (S0_.1 13 0 137 - 1).toNat).toNat ≠ -1; omega)⟩)
      · have cx38_ : ¬ (vx37_ ≠ (-1)) := of_decide_eq_false cx38_
        refine sm_T_go 4 (c1 := (63, [some (.inr (.inr (some (13, 0)))), some (.inl (S0_.2.2.1 220 0 ((S0_.1 13 0 137) - 1).toNat)), none, none, none, none], [.inl (S0_.2.2.1 220 0 ((S0_.1 13 0 137) - 1).toNat), .inl 2, .inl 0, .inr (.inr (some (13, 0)))], S0_)) rfl ?_
        refine sm_T_bin (w := 2 * (S0_.2.2.1 220 0 ((S0_.1 13 0 137) - 1).toNat)) rfl (bi_mul (by omega) (by omega) (by omega)) ?_ -- pc_ 63
        refine sm_T_cal (d1 := 0) (Q1 := vq_412 0 (2 * (S0_.2.2.1 220 0 ((S0_.1 13 0 137) - 1).toNat)) S0_) rfl rfl (by decide) (vc_412 0 (2 * (S0_.2.2.1 220 0 ((S0_.1 13 0 137) - 1).toNat)) S0_ hI_ (by omega) (by omega)) (fun u_ Sx54_ px57_ => ?_)
        obtain ⟨rfl, hIx55_, hFx56_, px57_⟩ := px57_
        have hFx58_ : ai_fr (sx_W vw_417) S0_ Sx54_ := ai_fr_tr hF_ (fr_le hFx56_ rfl)
        have e64_ := px57_
        have f64_ := hFx56_
        refine sm_T_go 1 (c1 := (85, [some (.inr (.inr (some (13, 0)))), some (.inl (S0_.2.2.1 220 0 ((S0_.1 13 0 137) - 1).toNat)), none, none, none, none], [], Sx54_)) rfl ?_
        refine sm_T_rv rfl ⟨_, _, rfl, rfl, hIx55_, hFx58_, ?_⟩
        first
        | (have y8_ := e64_; have z9_ := e52_.1; unfold lnf at z9_; have F9_ : ¬ ((S0_.2.2.1 220 0 (S0_.1 13 0 137 - 1).toNat) < F_) := fun F9_ => by (rw [if_pos F9_] at z9_; omega)
           rw [if_neg F9_] at z9_; have c9_ : S0_.2.2.1 211 0 (2 * (S0_.2.2.1 220 0 (S0_.1 13 0 137 - 1).toNat)).toNat ≤ 1 := (hI_.2 211 0 _).2
           exact wk_push hI_ hgs_ hjs_ hj_ (by omega) e64_ f64_ (Or.inr ⟨rfl, by omega, by omega, by (rw [q2w]; exact t1_.2.2.1), by omega⟩) (by (unfold jrk jtos jtop; rw [if_neg (by decide), if_pos (by omega), q2w]; omega)) (by (unfold jdn jtos jtop; omega)) (by (unfold jdn; omega)))
        | (have y8_ := e81_; exact wk_t (by assumption) hgs_ hjs_ (by omega) (by omega) f81_ ⟨t1_.1, t1_.2.1⟩ (by omega) e81_)
        | exact wk_pop hI_ hgs_ hjs_ hj_ (by omega) (Or.inl ⟨by (show (S0_.2.2.1 221 0 (S0_.1 13 0 137 - 1).toNat) = 1; omega), by (show S0_.2.2.1 219 0 (S0_.2.2.1 220 0 (S0_.1 13 0 137 - 1).toNat).toNat ≠ -1; omega)⟩)
    · have cx31_ : ¬ ((S0_.2.2.1 219 0 (S0_.2.2.1 220 0 ((S0_.1 13 0 137) - 1).toNat).toNat) = (-1)) := of_decide_eq_false cx31_
      refine sm_T_go 4 (c1 := (43, [some (.inr (.inr (some (13, 0)))), some (.inl (S0_.2.2.1 220 0 ((S0_.1 13 0 137) - 1).toNat)), none, none, none, none], [.inl 1, .inl (S0_.1 13 0 137), .inr (.inr (some (13, 0)))], S0_)) rfl ?_
      refine sm_T_bin (w := (S0_.1 13 0 137) - 1) rfl (bi_sub (by omega) (by omega) (by omega)) ?_ -- pc_ 43
      have hIx59_ : gi (sm_pI S0_ 13 0 137 ((S0_.1 13 0 137) - 1)) := gi_pI hI_ (show 0 ≤ (S0_.1 13 0 137) - 1 ∧ (S0_.1 13 0 137) - 1 ≤ 8191 from ⟨by omega, by omega⟩)
      have hFx60_ : ai_fr (sx_W vw_417) S0_ (sm_pI S0_ 13 0 137 ((S0_.1 13 0 137) - 1)) := ai_fr_tr hF_ (ai_fr_pI rfl)
      refine sm_T_go 2 (c1 := (85, [some (.inr (.inr (some (13, 0)))), some (.inl (S0_.2.2.1 220 0 ((S0_.1 13 0 137) - 1).toNat)), none, none, none, none], [], sm_pI S0_ 13 0 137 ((S0_.1 13 0 137) - 1))) rfl ?_
      refine sm_T_rv rfl ⟨_, _, rfl, rfl, hIx59_, hFx60_, ?_⟩
      first
      | (have y8_ := e64_; have z9_ := e52_.1; unfold lnf at z9_; have F9_ : ¬ ((S0_.2.2.1 220 0 (S0_.1 13 0 137 - 1).toNat) < F_) := fun F9_ => by (rw [if_pos F9_] at z9_; omega)
         rw [if_neg F9_] at z9_; have c9_ : S0_.2.2.1 211 0 (2 * (S0_.2.2.1 220 0 (S0_.1 13 0 137 - 1).toNat)).toNat ≤ 1 := (hI_.2 211 0 _).2
         exact wk_push hI_ hgs_ hjs_ hj_ (by omega) e64_ f64_ (Or.inr ⟨rfl, by omega, by omega, by (rw [q2w]; exact t1_.2.2.1), by omega⟩) (by (unfold jrk jtos jtop; rw [if_neg (by decide), if_pos (by omega), q2w]; omega)) (by (unfold jdn jtos jtop; omega)) (by (unfold jdn; omega)))
      | (have y8_ := e81_; exact wk_t (by assumption) hgs_ hjs_ (by omega) (by omega) f81_ ⟨t1_.1, t1_.2.1⟩ (by omega) e81_)
      | exact wk_pop hI_ hgs_ hjs_ hj_ (by omega) (Or.inl ⟨by (show (S0_.2.2.1 221 0 (S0_.1 13 0 137 - 1).toNat) = 1; omega), by (show S0_.2.2.1 219 0 (S0_.2.2.1 220 0 (S0_.1 13 0 137 - 1).toNat).toNat ≠ -1; omega)⟩)

theorem wal9_cg {F_ N_ : Int} {S_ S'_ : sm_S} (h_ : wal9 F_ N_ S_) (e2_ : S'_.2.2.1 202 0 = S_.2.2.1 202 0) (e3_ : S'_.2.2.1 203 0 = S_.2.2.1 203 0) (e5_ : S'_.2.2.1 185 0 = S_.2.2.1 185 0) (e6_ : S'_.2.2.1 206 0 = S_.2.2.1 206 0) (e7_ : S'_.2.2.1 207 0 = S_.2.2.1 207 0) (e8_ : S'_.2.2.1 208 0 = S_.2.2.1 208 0) (e9_ : S'_.2.2.1 209 0 = S_.2.2.1 209 0) (e10 : S'_.2.2.1 210 0 = S_.2.2.1 210 0) (e11 : S'_.2.2.1 211 0 = S_.2.2.1 211 0) (e106_ : S'_.1 13 0 106 = S_.1 13 0 106) (e108_ : S'_.1 13 0 108 = S_.1 13 0 108) : wal9 F_ N_ S'_ := by
  unfold wal9 wok2 wyc ned inp cst at *
  rw [e2_, e3_, e5_, e6_, e7_, e8_, e9_, e10, e11, e106_, e108_]
  exact h_
theorem gdr_cg {F_ N_ : Int} {S_ S'_ : sm_S} (h_ : gdr F_ N_ S_) (e2_ : S'_.2.2.1 202 0 = S_.2.2.1 202 0) (e3_ : S'_.2.2.1 203 0 = S_.2.2.1 203 0) (e10 : S'_.2.2.1 210 0 = S_.2.2.1 210 0) : gdr F_ N_ S'_ := by
  unfold gdr at *
  rw [e2_, e3_, e10]
  exact h_
theorem jsk_0 {F_ N_ : Int} {S_ : sm_S} (h_ : S_.1 13 0 137 = 0) : jsk F_ N_ S_ := fun i_ a_ b_ => by omega
theorem jsk_1 {F_ N_ x_ t_ : Int} {S_ S'_ : sm_S} (hI_ : gi S_) (hF_ : 1 ≤ F_) (hx_ : 1 ≤ x_ ∧ x_ < N_ ∧ N_ ≤ 1013) (ht_ : 0 ≤ t_ ∧ t_ ≤ 1) (h_ : S_.1 13 0 137 = 0) (hd_ : gdr F_ N_ S_) (m_ : mrk F_ S_ x_) (n_ : noi F_ S_ x_ t_ = -1) (e_ : ((x_ < F_ ∨ S_.2.2.1 203 0 x_.toNat = 1) ∧ t_ = 1 ∧ jap 1 x_ S_ S'_) ∨ (((F_ ≤ x_ ∧ S_.2.2.1 203 0 x_.toNat = 0) ∨ t_ = 0) ∧ jap 0 (2 * x_ + t_) S_ S'_)) (e2_ : S'_.2.2.1 202 0 = S_.2.2.1 202 0) (e3_ : S'_.2.2.1 203 0 = S_.2.2.1 203 0) (e10 : S'_.2.2.1 210 0 = S_.2.2.1 210 0) (e11 : S'_.2.2.1 211 0 = S_.2.2.1 211 0) : jsk F_ N_ S'_ := by
  have k_ : x_ < F_ ∨ (S_.2.2.1 203 0 x_.toNat = 1 ∧ S_.2.2.1 210 0 (2 * x_).toNat < 1000000000) := by
    by_cases c_ : x_ < F_
    · exact Or.inl c_
    · have y_ : S_.2.2.1 203 0 x_.toNat = 1 := by
        rcases m_.2 with z_ | z_
        · exact absurd z_ c_
        · exact z_
      exact Or.inr ⟨y_, hd_ x_ (by omega) hx_.2.1 m_.1 y_⟩
  rcases e_ with e_ | e_
  · exact jsk_ap (jsk_0 h_) e_.2.2 (by omega) (Or.inl ⟨rfl, hx_.1, hx_.2.1, m_.1, k_⟩) (by unfold jrk; rw [if_pos rfl]; omega) e2_ e3_ e10 e11
  · have t0_ : t_ = 0 := by
      rcases e_.1 with z_ | z_
      · rcases k_ with k_ | k_
        · exfalso; omega
        · exfalso; omega
      · exact z_
    have g_ : F_ ≤ x_ := by
      by_cases c_ : F_ ≤ x_
      · exact c_
      · exfalso
        unfold noi at n_
        rw [if_neg (by omega), if_pos t0_] at n_
        unfold lnf at n_
        rw [if_pos (by omega)] at n_
        omega
    have a_ := e_.2
    rw [t0_, Int.add_zero] at a_
    have q_ : 2 * x_ / 2 = x_ := by omega
    have c9_ : S_.2.2.1 211 0 (2 * x_).toNat ≤ 1 := (hI_.2 211 0 _).2
    exact jsk_ap (jsk_0 h_) a_ (by omega) (Or.inr ⟨rfl, by omega, by omega, by rw [q_]; exact m_.1, by omega⟩) (by unfold jrk; rw [if_neg (by decide), q_]; omega) e2_ e3_ e10 e11
/-! M_.netOfRoot -/
def vw_418 : sx_Wl := ([(13, 129), (13, 134), (13, 137)], [216, 217, 218, 219, 220, 221], [])
def vq_418 (l_ : Int) (F_ : Int) (N_ : Int) (d_ : Int) (S0_ : sm_S) (u_ : Option sm_V) (S1_ : sm_S) : Prop := ∃ v_ : Int, u_ = some (.inl v_) ∧ gi S1_ ∧ ai_fr (sx_W vw_418) S0_ S1_ ∧ (gst F_ N_ S1_ ∧ S0_.1 13 0 129 ≤ S1_.1 13 0 129 ∧ (v_ = -1 ∨ v_ = -2 ∨ (0 ≤ v_ ∧ v_ < F_ - 1 + S1_.1 13 0 129)))
set_option maxHeartbeats 2000000 in
set_option maxRecDepth 20000 in
theorem vl_418 {sc_ : Nat × (Nat → Int)} (l_ : Int) (F_ : Int) (N_ : Int) (d_ : Int) (S0_ : sm_S) (hd_ : dmp F_ N_ d_ S0_) (hal_ : wal9 F_ N_ S0_) (hgd_ : gdr F_ N_ S0_) (hiv_ : (S0_.1 13 0 107) = -1 ∨ S0_.2.2.1 185 0 (12 * S0_.1 13 0 106 + S0_.1 13 0 107).toNat = 1) (hgs_ : gst F_ N_ S0_) (hl_ : 0 ≤ l_ ∧ l_ < 2 * N_) (hm_ : mrk F_ S0_ (nod d_ S0_ l_)) : ∀ nn_ : Nat, (∀ (q_ : Int) (S_ : sm_S), gi S_ → ai_fr (sx_W vw_418) S0_ S_ → ((q_ / 2 = nod d_ S0_ l_ ∧ 2 ≤ q_ ∧ q_ ≤ 2025) ∧ (gst F_ N_ S_) ∧ (jsk F_ N_ S_) ∧ (S0_.1 13 0 129 ≤ S_.1 13 0 129) ∧ True) → (mea_ N_ S_) < nn_ → sm_T (mt_P sc_) 4 418 (44, [some (.inr (.inr (some (13, 0)))), some (.inl l_), some (.inl q_)], [], S_) (fun ro9_ => ∃ u_ S1_, ro9_ = (.inl u_, S1_, 0) ∧ vq_418 l_ F_ N_ d_ S0_ u_ S1_)) := by
  intro nn_
  induction nn_ with
  | zero => exact fun _ _ _ _ _ h_ => absurd h_ (Nat.not_lt_zero _)
  | succ nn_ ih_ =>
    rintro q_ S_ hI_ hF_ ⟨h0_, hg9_, hj9_, hm9_, -⟩ hm_
    have d9_ := dmp_fr hd_ hF_
    have d1_ := d9_.1
    have f160_ : S_.2.2.1 160 0 (S_.1 13 0 105).toNat = F_ := by (rw [d1_.2.2.1]; exact d1_.2.2.2.1)
    have nb := nod_b hd_ hl_.1 hl_.2
    have cj_ : 0 ≤ S_.1 13 0 137 := (hI_.1 13 0 137 rfl).1
    have bx1_ : 0 ≤ S_.1 13 0 137 ∧ S_.1 13 0 137 ≤ 8191 := hI_.1 13 0 137 rfl
    refine sm_T_go 2 (c1 := (48, [some (.inr (.inr (some (13, 0)))), some (.inl l_), some (.inl q_)], [.inl (S_.1 13 0 137)], S_)) rfl ?_
    refine sm_T_b0 (a := 5) (z := 10) rfl (fun cx2_ => ?_) (fun cx2_ => ?_)
    · have cx2_ : (S_.1 13 0 137) ≤ 0 := of_decide_eq_true cx2_
      refine sm_T_go 3 (c1 := (61, [some (.inr (.inr (some (13, 0)))), some (.inl l_), some (.inl q_)], [.inl 1, .inl q_, .inr (.inr (some (13, 0)))], S_)) rfl ?_
      refine sm_T_bin (w := (q_ / 2)) rfl (bi_shr (k := 1) (by decide) (by omega) (by omega)) ?_ -- pc_ 61
      refine sm_T_go 2 (c1 := (64, [some (.inr (.inr (some (13, 0)))), some (.inl l_), some (.inl q_)], [.inl 1, .inl q_, .inl (q_ / 2), .inr (.inr (some (13, 0)))], S_)) rfl ?_
      refine sm_T_bin (w := (q_ % 2)) rfl (bi_msk (k := 1) (by decide)) ?_ -- pc_ 64
      refine sm_T_cal (d1 := 2) (Q1 := vq_415 (q_ / 2) (q_ % 2) F_ S_) rfl rfl (by decide) (vc_415 (q_ / 2) (q_ % 2) F_ S_ hI_ (by exact f160_) (by omega)) (fun u_ Sx3_ px6_ => ?_)
      obtain ⟨rfl, vx8_, rfl, px6_⟩ := px6_
      have e65_ := px6_
      refine sm_T_ri rfl ⟨_, _, rfl, _, rfl, hI_, hF_, ?_⟩
      have b9_ := noi_b hg9_ (x_ := q_ / 2) (t_ := q_ % 2) (by omega) (by omega)
      rw [← e65_.1] at b9_
      exact ⟨hg9_, hm9_, by (rcases b9_ with b9_ | b9_; exact Or.inl b9_; exact Or.inr (Or.inr b9_))⟩
    · have cx2_ : ¬ ((S_.1 13 0 137) ≤ 0) := of_decide_eq_false cx2_
      refine sm_T_go 1 (c1 := (52, [some (.inr (.inr (some (13, 0)))), some (.inl l_), some (.inl q_)], [.inr (.inr (some (13, 0)))], S_)) rfl ?_
      refine sm_T_cal (d1 := 3) (Q1 := vq_417 F_ N_ d_ S_) rfl rfl (by decide) (vc_417 F_ N_ d_ S_ hI_ (by exact d9_) (by exact wal9_cg hal_ (fr_arr hF_ rfl) (fr_arr hF_ rfl) (fr_arr hF_ rfl) (fr_arr hF_ rfl) (fr_arr hF_ rfl) (fr_arr hF_ rfl) (fr_arr hF_ rfl) (fr_arr hF_ rfl) (fr_arr hF_ rfl) (hF_.1 13 0 106 rfl) (hF_.1 13 0 108 rfl)) (by exact gdr_cg hgd_ (fr_arr hF_ rfl) (fr_arr hF_ rfl) (fr_arr hF_ rfl)) (by (rw [hF_.1 13 0 107 rfl, hF_.1 13 0 106 rfl, fr_arr hF_ (t := 185) rfl]; exact hiv_)) (by exact hg9_) (by exact hj9_) (by omega)) (fun u_ Sx9_ px12_ => ?_)
      obtain ⟨rfl, hIx10_, hFx11_, px12_⟩ := px12_
      have hFx13_ : ai_fr (sx_W vw_418) S0_ Sx9_ := ai_fr_tr hF_ (fr_le hFx11_ rfl)
      have e52_ := px12_
      refine sm_T_go 1 (c1 := (44, [some (.inr (.inr (some (13, 0)))), some (.inl l_), some (.inl q_)], [], Sx9_)) rfl ?_
      refine ih_ q_ Sx9_ hIx10_ hFx13_ ⟨?_, ?_, ?_, ?_, trivial⟩ ?_
      · exact h0_
      · exact e52_.1
      · exact e52_.2.1
      · omega
      · (have y9_ := e52_.2.2.1; omega)
set_option maxHeartbeats 2000000 in
set_option maxRecDepth 20000 in
theorem vc_418 {sc_ : Nat × (Nat → Int)} (l_ : Int) (F_ : Int) (N_ : Int) (d_ : Int) (S0_ : sm_S) (hI_ : gi S0_) (hd_ : dmp F_ N_ d_ S0_) (hal_ : wal9 F_ N_ S0_) (hgd_ : gdr F_ N_ S0_) (hiv_ : (S0_.1 13 0 107) = -1 ∨ S0_.2.2.1 185 0 (12 * S0_.1 13 0 106 + S0_.1 13 0 107).toNat = 1) (hgs_ : gst F_ N_ S0_) (hl_ : 0 ≤ l_ ∧ l_ < 2 * N_) (hm_ : mrk F_ S0_ (nod d_ S0_ l_)) : sm_T (mt_P sc_) 4 418 (0, [some (.inr (.inr (some (13, 0)))), some (.inl l_), none], [], S0_) (fun ro9_ => ∃ u_ S1_, ro9_ = (.inl u_, S1_, 0) ∧ vq_418 l_ F_ N_ d_ S0_ u_ S1_) := by
  have hF_ : ai_fr (sx_W vw_418) S0_ S0_ := ai_fr_rf
  have d1_ := hd_.1
  have f160_ : S0_.2.2.1 160 0 (S0_.1 13 0 105).toNat = F_ := by (rw [d1_.2.2.1]; exact d1_.2.2.2.1)
  have nb := nod_b hd_ hl_.1 hl_.2
  refine sm_T_go 2 (c1 := (2, [some (.inr (.inr (some (13, 0)))), some (.inl l_), none], [.inl l_, .inr (.inr (some (13, 0)))], S0_)) rfl ?_
  refine sm_T_cal (d1 := 0) (Q1 := vq_392 l_ F_ N_ d_ S0_) rfl rfl (by decide) (vc_392 l_ F_ N_ d_ S0_ hI_ (by exact hd_) (by exact hl_)) (fun u_ Sx1_ px4_ => ?_)
  obtain ⟨rfl, vx6_, rfl, px4_⟩ := px4_
  have e2_ := px4_
  refine sm_T_go 3 (c1 := (8, [some (.inr (.inr (some (13, 0)))), some (.inl l_), some (.inl vx6_)], [.inl 2, .inl vx6_], S0_)) rfl ?_
  refine sm_T_br (a := 3) (z := 7) rfl (fun cx7_ => ?_) (fun cx7_ => ?_)
  · have cx7_ : 2 ≤ vx6_ := of_decide_eq_true cx7_
    have hIx8_ : gi (sm_pI S0_ 13 0 137 0) := gi_pI hI_ (show 0 ≤ 0 ∧ 0 ≤ 8191 from ⟨by omega, by omega⟩)
    have hFx9_ : ai_fr (sx_W vw_418) S0_ (sm_pI S0_ 13 0 137 0) := ai_fr_tr hF_ (ai_fr_pI rfl)
    refine sm_T_go 6 (c1 := (23, [some (.inr (.inr (some (13, 0)))), some (.inl l_), some (.inl vx6_)], [.inl 1, .inl vx6_, .inr (.inr (some (13, 0)))], sm_pI S0_ 13 0 137 0)) rfl ?_
    refine sm_T_bin (w := (vx6_ / 2)) rfl (bi_shr (k := 1) (by decide) (by omega) (by omega)) ?_ -- pc_ 23
    refine sm_T_go 2 (c1 := (26, [some (.inr (.inr (some (13, 0)))), some (.inl l_), some (.inl vx6_)], [.inl 1, .inl vx6_, .inl (vx6_ / 2), .inr (.inr (some (13, 0)))], sm_pI S0_ 13 0 137 0)) rfl ?_
    refine sm_T_bin (w := (vx6_ % 2)) rfl (bi_msk (k := 1) (by decide)) ?_ -- pc_ 26
    refine sm_T_cal (d1 := 2) (Q1 := vq_415 (vx6_ / 2) (vx6_ % 2) F_ (sm_pI S0_ 13 0 137 0)) rfl rfl (by decide) (vc_415 (vx6_ / 2) (vx6_ % 2) F_ (sm_pI S0_ 13 0 137 0) hIx8_ (by exact f160_) (by omega)) (fun u_ Sx10_ px13_ => ?_)
    obtain ⟨rfl, vx15_, rfl, px13_⟩ := px13_
    have e27_ := px13_
    refine sm_T_go 1 (c1 := (31, [some (.inr (.inr (some (13, 0)))), some (.inl l_), some (.inl vx6_)], [.inl (-1), .inl vx15_], sm_pI S0_ 13 0 137 0)) rfl ?_
    refine sm_T_br (a := 1) (z := 13) rfl (fun cx16_ => ?_) (fun cx16_ => ?_)
    · have cx16_ : vx15_ ≠ (-1) := of_decide_eq_true cx16_
      refine sm_T_go 0 (c1 := (44, [some (.inr (.inr (some (13, 0)))), some (.inl l_), some (.inl vx6_)], [], sm_pI S0_ 13 0 137 0)) rfl ?_
      refine (vl_418 l_ F_ N_ d_ S0_ hd_ hal_ hgd_ hiv_ hgs_ hl_ hm_ _) vx6_ (sm_pI S0_ 13 0 137 0) hIx8_ hFx9_ ⟨?_, ?_, ?_, ?_, trivial⟩ (Nat.lt_succ_self _)
      · omega
      · have G9_ : gst F_ N_ (sm_pI S0_ 13 0 137 0) := gst_cg hgs_ (rf_nk (by decide)) rfl rfl rfl rfl rfl (rf_nk (by decide)) (rf_nk (by decide))
        first | (have y8_ := f41_; exact gst_cg G9_ (f41_.1 13 0 129 rfl) (fr_arr f41_ rfl) (fr_arr f41_ rfl) (fr_arr f41_ rfl) (fr_arr f41_ rfl) (fr_arr f41_ rfl) (f41_.1 13 0 106 rfl) (f41_.1 13 0 134 rfl)) | exact G9_
      · have M9_ : mrk F_ (sm_pI S0_ 13 0 137 0) (nod d_ S0_ l_) := hm_
        rw [← e2_.1] at M9_
        first | (have y8_ := e41_; exact jsk_1 (S_ := sm_pI S0_ 13 0 137 0) (by assumption) (by omega) (by omega) (by omega) rf_eq (gdr_cg hgd_ rfl rfl rfl) M9_ (by (rw [← e27_.1]; omega)) e41_ (fr_arr f41_ rfl) (fr_arr f41_ rfl) (fr_arr f41_ rfl) (fr_arr f41_ rfl)) | exact jsk_0 rf_eq
      · have r9_ : (sm_pI S0_ 13 0 137 0).1 13 0 129 = S0_.1 13 0 129 := rf_nk (by decide)
        first | (have y8_ := f41_.1 13 0 129 rfl; omega) | omega
    · have cx16_ : ¬ (vx15_ ≠ (-1)) := of_decide_eq_false cx16_
      refine sm_T_go 3 (c1 := (37, [some (.inr (.inr (some (13, 0)))), some (.inl l_), some (.inl vx6_)], [.inl 1, .inl vx6_, .inr (.inr (some (13, 0)))], sm_pI S0_ 13 0 137 0)) rfl ?_
      refine sm_T_bin (w := (vx6_ / 2)) rfl (bi_shr (k := 1) (by decide) (by omega) (by omega)) ?_ -- pc_ 37
      refine sm_T_go 2 (c1 := (40, [some (.inr (.inr (some (13, 0)))), some (.inl l_), some (.inl vx6_)], [.inl 1, .inl vx6_, .inl (vx6_ / 2), .inr (.inr (some (13, 0)))], sm_pI S0_ 13 0 137 0)) rfl ?_
      refine sm_T_bin (w := (vx6_ % 2)) rfl (bi_msk (k := 1) (by decide)) ?_ -- pc_ 40
      refine sm_T_cal (d1 := 2) (Q1 := vq_416 (vx6_ / 2) (vx6_ % 2) F_ (sm_pI S0_ 13 0 137 0)) rfl rfl (by decide) (vc_416 (vx6_ / 2) (vx6_ % 2) F_ (sm_pI S0_ 13 0 137 0) hIx8_ (by exact f160_) (by omega) (by ((try simp only [rd_eq, rd_ne, rf_eq, rf_nk, rf_nt, rd_fa, rd_af, rd_fl, rd_al, rd_lf, rd_la, rd_leq, rd_lne, rd_fr, rd_ar, ne_eq, Nat.reduceEqDiff, not_false_eq_true]); omega))) (fun u_ Sx17_ px20_ => ?_)
      obtain ⟨rfl, hIx18_, hFx19_, px20_⟩ := px20_
      have hFx21_ : ai_fr (sx_W vw_418) S0_ Sx17_ := ai_fr_tr hFx9_ (fr_le hFx19_ rfl)
      have e41_ := px20_
      have f41_ := hFx19_
      refine sm_T_go 0 (c1 := (44, [some (.inr (.inr (some (13, 0)))), some (.inl l_), some (.inl vx6_)], [], Sx17_)) rfl ?_
      refine (vl_418 l_ F_ N_ d_ S0_ hd_ hal_ hgd_ hiv_ hgs_ hl_ hm_ _) vx6_ Sx17_ hIx18_ hFx21_ ⟨?_, ?_, ?_, ?_, trivial⟩ (Nat.lt_succ_self _)
      · omega
      · have G9_ : gst F_ N_ (sm_pI S0_ 13 0 137 0) := gst_cg hgs_ (rf_nk (by decide)) rfl rfl rfl rfl rfl (rf_nk (by decide)) (rf_nk (by decide))
        first | (have y8_ := f41_; exact gst_cg G9_ (f41_.1 13 0 129 rfl) (fr_arr f41_ rfl) (fr_arr f41_ rfl) (fr_arr f41_ rfl) (fr_arr f41_ rfl) (fr_arr f41_ rfl) (f41_.1 13 0 106 rfl) (f41_.1 13 0 134 rfl)) | exact G9_
      · have M9_ : mrk F_ (sm_pI S0_ 13 0 137 0) (nod d_ S0_ l_) := hm_
        rw [← e2_.1] at M9_
        first | (have y8_ := e41_; exact jsk_1 (S_ := sm_pI S0_ 13 0 137 0) (by assumption) (by omega) (by omega) (by omega) rf_eq (gdr_cg hgd_ rfl rfl rfl) M9_ (by (rw [← e27_.1]; omega)) e41_ (fr_arr f41_ rfl) (fr_arr f41_ rfl) (fr_arr f41_ rfl) (fr_arr f41_ rfl)) | exact jsk_0 rf_eq
      · have r9_ : (sm_pI S0_ 13 0 137 0).1 13 0 129 = S0_.1 13 0 129 := rf_nk (by decide)
        first | (have y8_ := f41_.1 13 0 129 rfl; omega) | omega
  · have cx7_ : ¬ (2 ≤ vx6_) := of_decide_eq_false cx7_
    refine sm_T_go 2 (c1 := (13, [some (.inr (.inr (some (13, 0)))), some (.inl l_), some (.inl vx6_)], [.inl vx6_, .inl (-1)], S0_)) rfl ?_
    refine sm_T_bin (w := -vx6_ - 1) rfl (bi_sub (by omega) (by omega) (by omega)) ?_ -- pc_ 13
    refine sm_T_ri rfl ⟨_, _, rfl, _, rfl, hI_, hF_, ?_⟩
    exact ⟨hgs_, by omega, by omega⟩
