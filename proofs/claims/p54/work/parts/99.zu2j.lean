/-! designs and the last fault, alike on both sides -/
/-- design d_ is the same on both sides -/
def dg0 (d_ : Nat) (S_ : sm_S) : Prop := (S_.1 3 d_ 1 = S_.2.2.1 154 0 d_ ∧ S_.1 3 d_ 2 = S_.2.2.1 155 0 d_ ∧ S_.1 3 d_ 3 = S_.2.2.1 156 0 d_ ∧ S_.1 3 d_ 4 = S_.2.2.1 159 0 d_ ∧ S_.2.2.1 160 0 d_ = 1 + S_.1 3 d_ 1 + S_.1 3 d_ 2) ∧ ∀ n_ : Nat, S_.2.2.1 160 0 d_ ≤ (n_ : Int) → (n_ : Int) < S_.1 3 d_ 4 → S_.2.2.1 42 (0 + d_) n_ = S_.2.2.1 164 0 (2048 * d_ + n_) ∧ S_.2.2.1 43 (0 + d_) n_ = S_.2.2.1 165 0 (2048 * d_ + n_)
theorem dg0_of {d_ : Nat} {r_ : pD} {z_ : gQ × gE} {S_ : sm_S} (h_ : dgx d_ r_ z_ S_) (g_ : dgR d_ r_ z_ S_) : dg0 d_ S_ := by
  obtain ⟨⟨h1_, h2_, h3_, h4_⟩, h5_⟩ := h_
  obtain ⟨⟨g1_, g2_, g3_, g4_, g5_⟩, g6_⟩ := g_
  refine ⟨⟨h1_.trans g1_.symm, h2_.trans g2_.symm, h3_.trans g3_.symm, h4_.trans g4_.symm, by rw [g5_, h1_, h2_]; omega⟩, fun n_ a_ b_ => ?_⟩
  rw [g5_] at a_
  rw [h4_] at b_
  obtain ⟨k_, e_⟩ : ∃ k_, n_ = 1 + d_I r_ + d_R r_ + k_ := ⟨n_ - (1 + d_I r_ + d_R r_), by omega⟩
  subst e_
  have hk_ : k_ < z_.1.1.length := by omega
  have e_ : z_.1.1[k_]? = some (z_.1.1[k_].1, z_.1.1[k_].2) := List.getElem?_eq_getElem hk_
  have p_ := h5_ k_ _ _ e_
  have q_ := g6_ k_ _ _ e_
  exact ⟨p_.1.trans q_.1.symm, p_.2.trans q_.2.symm⟩
/-- outputs, next values and beginning are alike -/
def dgo (d_ : Nat) (S_ : sm_S) : Prop := (S_.1 3 d_ 3 ≤ 16 ∧ S_.1 3 d_ 2 ≤ 6) ∧ (S_.1 3 d_ 5 = S_.2.2.1 157 0 d_) ∧ (∀ k_ : Nat, (k_ : Int) < S_.1 3 d_ 3 → S_.2.2.1 45 (0 + d_) k_ = S_.2.2.1 167 0 (16 * d_ + k_)) ∧ ∀ k_ : Nat, (k_ : Int) < S_.1 3 d_ 2 → S_.2.2.1 46 (0 + d_) k_ = S_.2.2.1 168 0 (6 * d_ + k_)
/-- nodes stand for the same nodes -/
def dgw0 (d_ : Nat) (S_ : sm_S) : Prop := ∀ n_ : Nat, (n_ : Int) < S_.1 3 d_ 4 → S_.2.2.1 44 (0 + d_) n_ = S_.2.2.1 166 0 (2048 * d_ + n_)
def dsv (d_ : Nat) (S_ : sm_S) : Prop := swd (1 + S_.1 3 d_ 1 + S_.1 3 d_ 2).toNat (S_.1 3 d_ 4).toNat (S_.2.2.1 42 (0 + d_)) (S_.2.2.1 43 (0 + d_)) (S_.2.2.1 44 (0 + d_))
def dgw (d_ : Nat) (S_ : sm_S) : Prop := dgw0 d_ S_ ∧ dsv d_ S_
/-- tables are alike -/
def dgq (d_ : Nat) (S_ : sm_S) : Prop := (0 ≤ S_.1 3 d_ 1 ∧ 0 ≤ S_.1 3 d_ 2 ∧ S_.1 3 d_ 1 + S_.1 3 d_ 2 ≤ 12) ∧ ∀ p_ : Nat, (p_ : Int) < 2 ^ (S_.1 3 d_ 1 + S_.1 3 d_ 2).toNat → S_.2.2.1 47 (0 + d_) p_ % 65536 = S_.2.2.1 169 0 (4096 * d_ + p_) ∧ S_.2.2.1 47 (0 + d_) p_ / 65536 = S_.2.2.1 170 0 (4096 * d_ + p_)
/-- the state -/
def dgc (d_ : Nat) (S_ : sm_S) : Prop := S_.1 3 d_ 6 = S_.2.2.1 158 0 d_
def dge (d_ : Nat) (S_ : sm_S) : Prop := dg0 d_ S_ ∧ dgo d_ S_ ∧ dgw d_ S_ ∧ dgq d_ S_ ∧ dgc d_ S_
theorem dgo_of {b_ : Nat → Int} {n_ d_ : Nat} {r_ : pD} {z_ : gQ × gE} {S_ : sm_S} (hn_ : n_ ≤ 1280) (hk_ : dok b_ n_ r_ z_) (hx_ : dgx d_ r_ z_ S_) (h_ : dcn d_ r_ z_ S_) (g_ : dgn d_ (d_R r_) r_.1 (d_tp r_) z_.2 (dnx r_) S_) : dgo d_ S_ := by
  obtain ⟨k1_, k2_, k3_, k4_⟩ := hk_
  obtain ⟨y_, y1_, y2_, y3_⟩ := d_zz hn_ k1_ k2_
  have ez_ : y_ = z_ := by
    unfold d_gr at k3_
    rw [k3_] at y1_
    exact (Option.some.inj y1_).symm
  subst ez_
  have dc_ := de_ch hn_ k1_
  have aB_ := (dc_.1 (d_tp r_) (by unfold d_tp; have := dc_.2; omega)).2
  obtain ⟨i1_, i2_, i3_, i4_, i5_⟩ := d_in hn_ k1_
  have l9_ := lm_0 k2_
  refine ⟨⟨?_, ?_⟩, h_.1.trans g_.1.1.symm, fun k_ hk_ => ?_, fun k_ hk_ => ?_⟩
  · rw [hx_.1.2.2.1]
    omega
  · rw [hx_.1.2.1]
    omega
  · rw [hx_.1.2.2.1] at hk_
    exact otr_u aB_ y3_ _ (Nat.le_refl _) h_.2.2 g_.2.2 k_ hk_
  · rw [hx_.1.2.1] at hk_
    have hk_ : k_ < d_R r_ := by omega
    exact (h_.2.1 k_ hk_).trans (g_.2.1 k_ hk_).symm
theorem dgw0_of {d_ : Nat} {r_ : pD} {z_ : gQ × gE} {S_ : sm_S} (hF_ : 1 + d_I r_ + d_R r_ ≤ 13) (hx_ : dgx d_ r_ z_ S_) (hy_ : dgR d_ r_ z_ S_) (h_ : dcs d_ (1 + d_I r_ + d_R r_) S_) (g_ : dgs d_ (1 + d_I r_ + d_R r_) (1 + d_I r_ + d_R r_ + z_.1.1.length) S_) : dgw0 d_ S_ := by
  have e_ := hx_.1.2.2.2
  have en_ : (S_.1 3 d_ 4).toNat = 1 + d_I r_ + d_R r_ + z_.1.1.length := by omega
  obtain ⟨h1_, h2_, -⟩ := h_
  rw [en_] at h1_ h2_
  have u_ := swd_u ⟨by omega, hF_⟩ h1_ (fun n_ x_ y_ => by
    obtain ⟨k_, rfl⟩ : ∃ k_, n_ = 1 + d_I r_ + d_R r_ + k_ := ⟨n_ - (1 + d_I r_ + d_R r_), by omega⟩
    have hk_ : k_ < z_.1.1.length := by omega
    have q_ : z_.1.1[k_]? = some (z_.1.1[k_].1, z_.1.1[k_].2) := List.getElem?_eq_getElem hk_
    have a_ := hx_.2 k_ _ _ q_
    have b_ := hy_.2 k_ _ _ q_
    exact ⟨b_.1.trans a_.1.symm, b_.2.trans a_.2.symm⟩) h2_ g_
  intro n_ hn_
  exact u_ n_ (by omega)
theorem dgq_of {d_ : Nat} {r_ : pD} {z_ : gQ × gE} {S_ : sm_S} (hF_ : 1 + d_I r_ + d_R r_ ≤ 13) (hx_ : dgx d_ r_ z_ S_) (hy_ : dgR d_ r_ z_ S_) (hs_ : dcs d_ (1 + d_I r_ + d_R r_) S_) (ho_ : dgo d_ S_) (h_ : dct d_ (1 + d_I r_ + d_R r_) S_) (g_ : dgt d_ (1 + d_I r_ + d_R r_) (1 + d_I r_ + d_R r_ + z_.1.1.length) (su (t_in r_.1 1 (d_tp r_)) (r_.1.1 (d_tp r_))).toNat (d_R r_) S_) : dgq d_ S_ := by
  have e4_ := hx_.1.2.2.2
  have e3_ := hx_.1.2.2.1
  have e2_ := hx_.1.2.1
  have e1_ := hx_.1.1
  have en_ : (S_.1 3 d_ 4).toNat = 1 + d_I r_ + d_R r_ + z_.1.1.length := by omega
  have er_ : (S_.1 3 d_ 2).toNat = d_R r_ := by omega
  obtain ⟨h1_, -, rt_⟩ := hs_
  unfold dct at h_
  rw [en_, er_, e3_] at h_
  rw [en_] at h1_
  have u_ := dtw_u h1_ (fun n_ x_ y_ => by
    obtain ⟨k_, rfl⟩ : ∃ k_, n_ = 1 + d_I r_ + d_R r_ + k_ := ⟨n_ - (1 + d_I r_ + d_R r_), by omega⟩
    have hk_ : k_ < z_.1.1.length := by omega
    have q_ : z_.1.1[k_]? = some (z_.1.1[k_].1, z_.1.1[k_].2) := List.getElem?_eq_getElem hk_
    have a_ := hx_.2 k_ _ _ q_
    have b_ := hy_.2 k_ _ _ q_
    exact ⟨b_.1.trans a_.1.symm, b_.2.trans a_.2.symm⟩) (fun k_ hk_ => by
    have b_ := rt_.2.1 k_ (by omega)
    exact ⟨(ho_.2.2.1 k_ (by omega)).symm, b_.1, by omega⟩) (fun k_ hk_ => by
    have b_ := rt_.2.2 k_ (by omega)
    exact ⟨(ho_.2.2.2 k_ (by omega)).symm, b_.1, by omega⟩) h_ g_
  refine ⟨by omega, fun p_ hp_ => ?_⟩
  have pn_ : ((2 ^ (1 + d_I r_ + d_R r_ - 1) : Nat) : Int) = (2 : Int) ^ (1 + d_I r_ + d_R r_ - 1) := by push_cast; rfl
  rw [show (S_.1 3 d_ 1 + S_.1 3 d_ 2).toNat = 1 + d_I r_ + d_R r_ - 1 by omega] at hp_
  exact u_ p_ (by omega)
theorem dsv_of {d_ : Nat} {r_ : pD} {z_ : gQ × gE} {S_ : sm_S} (hx_ : dgx d_ r_ z_ S_) (hs_ : dcs d_ (1 + d_I r_ + d_R r_) S_) : dsv d_ S_ := by
  have e2_ := hx_.1.2.1
  have e1_ := hx_.1.1
  unfold dsv
  rw [show (1 + S_.1 3 d_ 1 + S_.1 3 d_ 2).toNat = 1 + d_I r_ + d_R r_ by omega]
  exact hs_.2.1
/-- library l_ is the same on both sides -/
def lge (l_ : Nat) (S_ : sm_S) : Prop := ∃ (K_ : Nat) (L_ : pL), K_ ≤ 12 ∧ lcl l_ K_ L_ S_ ∧ S_.1 5 l_ 2 = fiv L_ K_ ∧ lcr l_ K_ L_ S_
/-- what both sides keep alike of designs and libraries, and of the last fault -/
def jG (S_ : sm_S) : Prop := S_.1 12 0 10 = S_.1 13 0 79 ∧ (∀ d_ : Nat, d_ < 6 → S_.1 3 d_ 0 = 1 → dge d_ S_) ∧ ∀ l_ : Nat, l_ < 3 → S_.1 5 l_ 0 = 1 → lge l_ S_
def jgF : List (Nat × Nat) := [(3, 1), (3, 2), (3, 3), (3, 4), (3, 5)]
def lgF : List (Nat × Nat) := [(5, 1), (5, 2)]
def lgA : List Nat := [55, 56, 57, 58, 184, 185, 186, 187, 188]
def lgw (w_ : sx_Wl) : Bool := lgF.all (fun q_ => !((sx_W w_).1 q_.1 q_.2)) && lgA.all (fun t_ => !((sx_W w_).2.1 t_))
theorem lgw_f {w_ : sx_Wl} (h_ : lgw w_ = true) {t_ k_ : Nat} (q_ : (t_, k_) ∈ lgF) : (sx_W w_).1 t_ k_ = false := by
  have a_ := List.all_eq_true.mp (Bool.and_eq_true_iff.mp h_).1 _ q_
  revert a_
  cases (sx_W w_).1 t_ k_ <;> simp
theorem lgw_a {w_ : sx_Wl} (h_ : lgw w_ = true) {t_ : Nat} (q_ : t_ ∈ lgA) : (sx_W w_).2.1 t_ = false := by
  have a_ := List.all_eq_true.mp (Bool.and_eq_true_iff.mp h_).2 _ q_
  revert a_
  cases (sx_W w_).2.1 t_ <;> simp
theorem lcr_fr {w_ : sx_Wl} {l_ K_ : Nat} {L_ : pL} {S_ S'_ : sm_S} (h_ : lcr l_ K_ L_ S_) (g_ : ai_fr (sx_W w_) S_ S'_) (q_ : ∀ t_, t_ < 189 → 184 ≤ t_ → (sx_W w_).2.1 t_ = false) : lcr l_ K_ L_ S'_ := by
  unfold lcr
  rw [fr_arr (t := 184) g_ (q_ _ (by decide) (by decide)), fr_arr (t := 185) g_ (q_ _ (by decide) (by decide)), fr_arr (t := 186) g_ (q_ _ (by decide) (by decide)), fr_arr (t := 187) g_ (q_ _ (by decide) (by decide)), fr_arr (t := 188) g_ (q_ _ (by decide) (by decide))]
  exact h_
theorem lge_fr {w_ : sx_Wl} {l_ : Nat} {S_ S'_ : sm_S} (h_ : lge l_ S_) (g_ : ai_fr (sx_W w_) S_ S'_) (q_ : lgw w_ = true) : lge l_ S'_ := by
  obtain ⟨K_, L_, h1_, h2_, h3_, h4_⟩ := h_
  refine ⟨K_, L_, h1_, lcl_fr h2_ g_ (lgw_f q_ (by decide)) (lgw_a q_ (by decide)) (lgw_a q_ (by decide)) (lgw_a q_ (by decide)) (lgw_a q_ (by decide)), (g_.1 5 l_ 2 (lgw_f q_ (by decide))).trans h3_, lcr_fr h4_ g_ (fun t_ a_ b_ => lgw_a q_ (by
    have c_ : t_ = 184 ∨ t_ = 185 ∨ t_ = 186 ∨ t_ = 187 ∨ t_ = 188 := by omega
    rcases c_ with rfl | rfl | rfl | rfl | rfl <;> decide))⟩
/-- the cells of the class stay, by their own rows -/
theorem lcl_eq {l_ K_ : Nat} {L_ : pL} {S_ S'_ : sm_S} (h_ : lcl l_ K_ L_ S_) (e_ : S'_.1 5 l_ 1 = S_.1 5 l_ 1) (a_ : ∀ t_, t_ < 59 → 55 ≤ t_ → S'_.2.2.1 t_ (0 + l_) = S_.2.2.1 t_ (0 + l_)) : lcl l_ K_ L_ S'_ := by
  unfold lcl
  rw [e_, a_ 55 (by decide) (by decide), a_ 56 (by decide) (by decide), a_ 57 (by decide) (by decide), a_ 58 (by decide) (by decide)]
  exact h_
theorem lcr_eq {l_ K_ : Nat} {L_ : pL} {S_ S'_ : sm_S} (h_ : lcr l_ K_ L_ S_) (hK_ : K_ ≤ 12) (e_ : S'_.2.2.1 184 0 l_ = S_.2.2.1 184 0 l_ ∧ ∀ j_, j_ < 12 → S'_.2.2.1 185 0 (12 * l_ + j_) = S_.2.2.1 185 0 (12 * l_ + j_) ∧ S'_.2.2.1 186 0 (12 * l_ + j_) = S_.2.2.1 186 0 (12 * l_ + j_) ∧ S'_.2.2.1 187 0 (12 * l_ + j_) = S_.2.2.1 187 0 (12 * l_ + j_) ∧ S'_.2.2.1 188 0 (12 * l_ + j_) = S_.2.2.1 188 0 (12 * l_ + j_)) : lcr l_ K_ L_ S'_ := by
  refine ⟨e_.1.trans h_.1, fun j_ hj_ => ?_⟩
  have a_ := e_.2 j_ (by omega)
  have b_ := h_.2 j_ hj_
  exact ⟨a_.1.trans b_.1, a_.2.1.trans b_.2.1, a_.2.2.1.trans b_.2.2.1, a_.2.2.2.trans b_.2.2.2⟩
def jgA : List Nat := [42, 43, 44, 45, 46, 47, 154, 155, 156, 157, 159, 160, 164, 165, 166, 167, 168, 169, 170]
def jgz (w_ : sx_Wl) : Bool := jgF.all (fun q_ => !((sx_W w_).1 q_.1 q_.2)) && jgA.all (fun t_ => !((sx_W w_).2.1 t_))
theorem jgz_f {w_ : sx_Wl} (h_ : jgz w_ = true) {t_ k_ : Nat} (q_ : (t_, k_) ∈ jgF) : (sx_W w_).1 t_ k_ = false := by
  have a_ := List.all_eq_true.mp (Bool.and_eq_true_iff.mp h_).1 _ q_
  revert a_
  cases (sx_W w_).1 t_ k_ <;> simp
theorem jgz_a {w_ : sx_Wl} (h_ : jgz w_ = true) {t_ : Nat} (q_ : t_ ∈ jgA) : (sx_W w_).2.1 t_ = false := by
  have a_ := List.all_eq_true.mp (Bool.and_eq_true_iff.mp h_).2 _ q_
  revert a_
  cases (sx_W w_).2.1 t_ <;> simp
def jgw (w_ : sx_Wl) : Bool := jgz w_ && ((!((sx_W w_).1 12 10) && !((sx_W w_).1 13 79)) && (!((sx_W w_).1 3 6) && !((sx_W w_).2.1 158)))
theorem jgw_z {w_ : sx_Wl} (h_ : jgw w_ = true) : jgz w_ = true := (Bool.and_eq_true_iff.mp h_).1
theorem jgw_f {w_ : sx_Wl} (h_ : jgw w_ = true) {t_ k_ : Nat} (q_ : (t_, k_) ∈ ([(12, 10), (13, 79)] : List (Nat × Nat))) : (sx_W w_).1 t_ k_ = false := by
  have a_ := (Bool.and_eq_true_iff.mp (Bool.and_eq_true_iff.mp h_).2).1
  simp only [List.mem_cons, List.not_mem_nil, or_false, Prod.mk.injEq] at q_
  rcases q_ with ⟨rfl, rfl⟩ | ⟨rfl, rfl⟩
  · revert a_
    cases (sx_W w_).1 12 10 <;> simp
  · revert a_
    cases (sx_W w_).1 13 79 <;> simp
theorem jgw_c {w_ : sx_Wl} (h_ : jgw w_ = true) : (sx_W w_).1 3 6 = false ∧ (sx_W w_).2.1 158 = false := by
  have a_ := Bool.and_eq_true_iff.mp (Bool.and_eq_true_iff.mp (Bool.and_eq_true_iff.mp h_).2).2
  revert a_
  cases (sx_W w_).1 3 6 <;> cases (sx_W w_).2.1 158 <;> simp
theorem dg0_fr {w_ : sx_Wl} {d_ : Nat} {S_ S'_ : sm_S} (h_ : dg0 d_ S_) (g_ : ai_fr (sx_W w_) S_ S'_) (q_ : jgz w_ = true) : dg0 d_ S'_ := by
  unfold dg0
  rw [g_.1 3 d_ 1 (jgz_f q_ (by decide)), g_.1 3 d_ 2 (jgz_f q_ (by decide)), g_.1 3 d_ 3 (jgz_f q_ (by decide)), g_.1 3 d_ 4 (jgz_f q_ (by decide)), fr_arr (t := 42) g_ (jgz_a q_ (by decide)), fr_arr (t := 43) g_ (jgz_a q_ (by decide)), fr_arr (t := 154) g_ (jgz_a q_ (by decide)), fr_arr (t := 155) g_ (jgz_a q_ (by decide)), fr_arr (t := 156) g_ (jgz_a q_ (by decide)), fr_arr (t := 159) g_ (jgz_a q_ (by decide)), fr_arr (t := 160) g_ (jgz_a q_ (by decide)), fr_arr (t := 164) g_ (jgz_a q_ (by decide)), fr_arr (t := 165) g_ (jgz_a q_ (by decide))]
  exact h_
theorem dgo_fr {w_ : sx_Wl} {d_ : Nat} {S_ S'_ : sm_S} (h_ : dgo d_ S_) (g_ : ai_fr (sx_W w_) S_ S'_) (q_ : jgz w_ = true) : dgo d_ S'_ := by
  unfold dgo
  rw [g_.1 3 d_ 2 (jgz_f q_ (by decide)), g_.1 3 d_ 3 (jgz_f q_ (by decide)), g_.1 3 d_ 5 (jgz_f q_ (by decide)), fr_arr (t := 45) g_ (jgz_a q_ (by decide)), fr_arr (t := 46) g_ (jgz_a q_ (by decide)), fr_arr (t := 157) g_ (jgz_a q_ (by decide)), fr_arr (t := 167) g_ (jgz_a q_ (by decide)), fr_arr (t := 168) g_ (jgz_a q_ (by decide))]
  exact h_
theorem dgw0_fr {w_ : sx_Wl} {d_ : Nat} {S_ S'_ : sm_S} (h_ : dgw0 d_ S_) (g_ : ai_fr (sx_W w_) S_ S'_) (q_ : jgz w_ = true) : dgw0 d_ S'_ := by
  unfold dgw0
  rw [g_.1 3 d_ 4 (jgz_f q_ (by decide)), fr_arr (t := 44) g_ (jgz_a q_ (by decide)), fr_arr (t := 166) g_ (jgz_a q_ (by decide))]
  exact h_
theorem dsv_fr {w_ : sx_Wl} {d_ : Nat} {S_ S'_ : sm_S} (h_ : dsv d_ S_) (g_ : ai_fr (sx_W w_) S_ S'_) (q_ : jgz w_ = true) : dsv d_ S'_ := by
  unfold dsv
  rw [g_.1 3 d_ 1 (jgz_f q_ (by decide)), g_.1 3 d_ 2 (jgz_f q_ (by decide)), g_.1 3 d_ 4 (jgz_f q_ (by decide)), fr_arr (t := 42) g_ (jgz_a q_ (by decide)), fr_arr (t := 43) g_ (jgz_a q_ (by decide)), fr_arr (t := 44) g_ (jgz_a q_ (by decide))]
  exact h_
theorem dgw_fr {w_ : sx_Wl} {d_ : Nat} {S_ S'_ : sm_S} (h_ : dgw d_ S_) (g_ : ai_fr (sx_W w_) S_ S'_) (q_ : jgz w_ = true) : dgw d_ S'_ := ⟨dgw0_fr h_.1 g_ q_, dsv_fr h_.2 g_ q_⟩
theorem dgq_fr {w_ : sx_Wl} {d_ : Nat} {S_ S'_ : sm_S} (h_ : dgq d_ S_) (g_ : ai_fr (sx_W w_) S_ S'_) (q_ : jgz w_ = true) : dgq d_ S'_ := by
  unfold dgq
  rw [g_.1 3 d_ 1 (jgz_f q_ (by decide)), g_.1 3 d_ 2 (jgz_f q_ (by decide)), fr_arr (t := 47) g_ (jgz_a q_ (by decide)), fr_arr (t := 169) g_ (jgz_a q_ (by decide)), fr_arr (t := 170) g_ (jgz_a q_ (by decide))]
  exact h_
theorem dge_y {w_ : sx_Wl} {d_ : Nat} {S_ S'_ : sm_S} (h_ : dge d_ S_) (g_ : ai_fr (sx_W w_) S_ S'_) (q_ : jgz w_ = true) (c1_ : (sx_W w_).1 3 6 = false) (c2_ : (sx_W w_).2.1 158 = false) : dge d_ S'_ := ⟨dg0_fr h_.1 g_ q_, dgo_fr h_.2.1 g_ q_, dgw_fr h_.2.2.1 g_ q_, dgq_fr h_.2.2.2.1 g_ q_, (g_.1 3 d_ 6 c1_).trans (h_.2.2.2.2.trans (congrFun (fr_arr (t := 158) (i := 0) g_ c2_) d_).symm)⟩
theorem dge_fr {w_ : sx_Wl} {d_ : Nat} {S_ S'_ : sm_S} (h_ : dge d_ S_) (g_ : ai_fr (sx_W w_) S_ S'_) (q_ : jgw w_ = true) : dge d_ S'_ := dge_y h_ g_ (jgw_z q_) (jgw_c q_).1 (jgw_c q_).2
/-- a design or a library goes at most -/
theorem jG_dn {w_ : sx_Wl} {S_ S'_ : sm_S} (h_ : jG S_) (g_ : ai_fr (sx_W w_) S_ S'_) (u_ : ∀ d_ : Nat, d_ < 6 → S'_.1 3 d_ 0 = 1 → S_.1 3 d_ 0 = 1) (v_ : ∀ l_ : Nat, l_ < 3 → S'_.1 5 l_ 0 = 1 → S_.1 5 l_ 0 = 1) (q_ : jgw w_ = true := by rfl) (p_ : lgw w_ = true := by rfl) : jG S'_ := by
  refine ⟨?_, fun d_ hd_ z_ => dge_fr (h_.2.1 d_ hd_ (u_ d_ hd_ z_)) g_ q_, fun l_ hl_ z_ => lge_fr (h_.2.2 l_ hl_ (v_ l_ hl_ z_)) g_ p_⟩
  rw [g_.1 12 0 10 (jgw_f q_ (by decide)), g_.1 13 0 79 (jgw_f q_ (by decide))]
  exact h_.1
theorem jG_fr {w_ : sx_Wl} {S_ S'_ : sm_S} (h_ : jG S_) (g_ : ai_fr (sx_W w_) S_ S'_) (q_ : jgw w_ = true := by rfl) (u_ : (sx_W w_).1 3 0 = false := by rfl) (p_ : lgw w_ = true := by rfl) (v_ : (sx_W w_).1 5 0 = false := by rfl) : jG S'_ := jG_dn h_ g_ (fun d_ _ z_ => (g_.1 3 d_ 0 u_).symm.trans z_) (fun l_ _ z_ => (g_.1 5 l_ 0 v_).symm.trans z_) q_ p_
/-- a chip is made: the class's libraries stay -/
theorem jG_mp {w_ : sx_Wl} {S_ S'_ : sm_S} (h_ : jG S_) (g_ : ai_fr (sx_W w_) S_ S'_) (b_ : lbs S_ S'_) (q_ : jgw w_ = true := by rfl) (u_ : (sx_W w_).1 3 0 = false := by rfl) (p_ : ∀ t_, t_ < 189 → 184 ≤ t_ → (sx_W w_).2.1 t_ = false := by decide) : jG S'_ := by
  refine ⟨?_, fun d_ hd_ z_ => dge_fr (h_.2.1 d_ hd_ ((g_.1 3 d_ 0 u_).symm.trans z_)) g_ q_, fun l_ hl_ z_ => ?_⟩
  · rw [g_.1 12 0 10 (jgw_f q_ (by decide)), g_.1 13 0 79 (jgw_f q_ (by decide))]
    exact h_.1
  · have e_ := b_ l_ hl_
    rw [e_.1 0] at z_
    obtain ⟨K_, L_, h1_, h2_, h3_, h4_⟩ := h_.2.2 l_ hl_ z_
    exact ⟨K_, L_, h1_, lcl_eq h2_ (e_.1 1) (fun t_ x_ y_ => e_.2 t_ y_ x_), (e_.1 2).trans h3_, lcr_fr h4_ g_ p_⟩
/-- the other designs of the class stay, and the reference's -/
theorem dg0_ot {a_ d_ : Nat} {w_ : sx_Wl} {S_ S1_ S2_ : sm_S} (h_ : dg0 d_ S_) (hI_ : gi S_) (hd_ : d_ ≠ a_) (c_ : idf a_ S_ S1_) (q_ : ∀ t_, t_ < 171 → 153 ≤ t_ → S1_.2.2.1 t_ 0 = S_.2.2.1 t_ 0) (f_ : ai_fr (sx_W w_) S1_ S2_) (r_ : rdf a_ S1_ S2_) (k_ : ∀ k_, k_ < 10 → (sx_W w_).1 3 k_ = false) (l_ : ∀ t_, t_ < 48 → 42 ≤ t_ → (sx_W w_).2.1 t_ = false) : dg0 d_ S2_ := by
  have e_ : ∀ k_, k_ < 10 → S2_.1 3 d_ k_ = S_.1 3 d_ k_ := fun k9_ h9_ => (f_.1 3 d_ k9_ (k_ k9_ h9_)).trans ((c_ d_ hd_).1 k9_ h9_)
  have a_ : ∀ t_, t_ < 48 → 42 ≤ t_ → S2_.2.2.1 t_ (0 + d_) = S_.2.2.1 t_ (0 + d_) := fun t9_ x_ y_ => (fr_arr f_ (l_ t9_ x_ y_)).trans ((c_ d_ hd_).2 t9_ x_ y_)
  have m_ : ∀ t_, 153 ≤ t_ → t_ < 171 → ∀ j_, rds t_ * d_ ≤ j_ → j_ < rds t_ * d_ + rds t_ → S2_.2.2.1 t_ 0 j_ = S_.2.2.1 t_ 0 j_ := fun t9_ x_ y_ j9_ u_ v_ => (rdf_sl r_ hd_ t9_ x_ y_ j9_ u_ v_).trans (congrFun (q_ t9_ y_ x_) j9_)
  have n_ : S_.1 3 d_ 4 ≤ 1013 := (hI_.1 3 d_ 4 rfl).2
  obtain ⟨⟨h1_, h2_, h3_, h4_, h5_⟩, h6_⟩ := h_
  have s1_ : ∀ t_, 153 ≤ t_ → t_ ≤ 163 → S2_.2.2.1 t_ 0 d_ = S_.2.2.1 t_ 0 d_ := fun t9_ x_ y_ => m_ t9_ x_ (by omega) d_ (by unfold rds; rw [if_pos y_]; omega) (by unfold rds; rw [if_pos y_]; omega)
  refine ⟨⟨?_, ?_, ?_, ?_, ?_⟩, fun n9_ x_ y_ => ?_⟩
  · rw [e_ 1 (by decide), s1_ 154 (by decide) (by decide)]; exact h1_
  · rw [e_ 2 (by decide), s1_ 155 (by decide) (by decide)]; exact h2_
  · rw [e_ 3 (by decide), s1_ 156 (by decide) (by decide)]; exact h3_
  · rw [e_ 4 (by decide), s1_ 159 (by decide) (by decide)]; exact h4_
  · rw [e_ 1 (by decide), e_ 2 (by decide), s1_ 160 (by decide) (by decide)]; exact h5_
  · rw [s1_ 160 (by decide) (by decide)] at x_
    rw [e_ 4 (by decide)] at y_
    rw [a_ 42 (by decide) (by decide), a_ 43 (by decide) (by decide), m_ 164 (by decide) (by decide) _ (by rw [show rds 164 = 2048 from rfl]; omega) (by rw [show rds 164 = 2048 from rfl]; omega), m_ 165 (by decide) (by decide) _ (by rw [show rds 165 = 2048 from rfl]; omega) (by rw [show rds 165 = 2048 from rfl]; omega)]
    exact h6_ n9_ x_ y_
theorem dgo_ot {a_ d_ : Nat} {w_ : sx_Wl} {S_ S1_ S2_ : sm_S} (h_ : dgo d_ S_) (hI_ : gi S_) (hd_ : d_ ≠ a_) (c_ : idf a_ S_ S1_) (q_ : ∀ t_, t_ < 171 → 153 ≤ t_ → S1_.2.2.1 t_ 0 = S_.2.2.1 t_ 0) (f_ : ai_fr (sx_W w_) S1_ S2_) (r_ : rdf a_ S1_ S2_) (k_ : ∀ k_, k_ < 10 → (sx_W w_).1 3 k_ = false) (l_ : ∀ t_, t_ < 48 → 42 ≤ t_ → (sx_W w_).2.1 t_ = false) : dgo d_ S2_ := by
  have e_ : ∀ k_, k_ < 10 → S2_.1 3 d_ k_ = S_.1 3 d_ k_ := fun k9_ h9_ => (f_.1 3 d_ k9_ (k_ k9_ h9_)).trans ((c_ d_ hd_).1 k9_ h9_)
  have a_ : ∀ t_, t_ < 48 → 42 ≤ t_ → S2_.2.2.1 t_ (0 + d_) = S_.2.2.1 t_ (0 + d_) := fun t9_ x_ y_ => (fr_arr f_ (l_ t9_ x_ y_)).trans ((c_ d_ hd_).2 t9_ x_ y_)
  have m_ : ∀ t_, 153 ≤ t_ → t_ < 171 → ∀ j_, rds t_ * d_ ≤ j_ → j_ < rds t_ * d_ + rds t_ → S2_.2.2.1 t_ 0 j_ = S_.2.2.1 t_ 0 j_ := fun t9_ x_ y_ j9_ u_ v_ => (rdf_sl r_ hd_ t9_ x_ y_ j9_ u_ v_).trans (congrFun (q_ t9_ y_ x_) j9_)
  have s1_ : ∀ t_, 153 ≤ t_ → t_ ≤ 163 → S2_.2.2.1 t_ 0 d_ = S_.2.2.1 t_ 0 d_ := fun t9_ x_ y_ => m_ t9_ x_ (by omega) d_ (by unfold rds; rw [if_pos y_]; omega) (by unfold rds; rw [if_pos y_]; omega)
  obtain ⟨⟨b3_, b2_⟩, h0_, h1_, h2_⟩ := h_
  refine ⟨⟨by rw [e_ 3 (by decide)]; exact b3_, by rw [e_ 2 (by decide)]; exact b2_⟩, ?_, fun k9_ hk9_ => ?_, fun k9_ hk9_ => ?_⟩
  · rw [e_ 5 (by decide), s1_ 157 (by decide) (by decide)]; exact h0_
  · rw [e_ 3 (by decide)] at hk9_
    rw [a_ 45 (by decide) (by decide), m_ 167 (by decide) (by decide) _ (by rw [show rds 167 = 16 from rfl]; omega) (by rw [show rds 167 = 16 from rfl]; omega)]
    exact h1_ k9_ hk9_
  · rw [e_ 2 (by decide)] at hk9_
    rw [a_ 46 (by decide) (by decide), m_ 168 (by decide) (by decide) _ (by rw [show rds 168 = 6 from rfl]; omega) (by rw [show rds 168 = 6 from rfl]; omega)]
    exact h2_ k9_ hk9_
theorem dgw0_ot {a_ d_ : Nat} {w_ : sx_Wl} {S_ S1_ S2_ : sm_S} (h_ : dgw0 d_ S_) (hI_ : gi S_) (hd_ : d_ ≠ a_) (c_ : idf a_ S_ S1_) (q_ : ∀ t_, t_ < 171 → 153 ≤ t_ → S1_.2.2.1 t_ 0 = S_.2.2.1 t_ 0) (f_ : ai_fr (sx_W w_) S1_ S2_) (r_ : rdf a_ S1_ S2_) (k_ : ∀ k_, k_ < 10 → (sx_W w_).1 3 k_ = false) (l_ : ∀ t_, t_ < 48 → 42 ≤ t_ → (sx_W w_).2.1 t_ = false) : dgw0 d_ S2_ := by
  have e_ : ∀ k_, k_ < 10 → S2_.1 3 d_ k_ = S_.1 3 d_ k_ := fun k9_ h9_ => (f_.1 3 d_ k9_ (k_ k9_ h9_)).trans ((c_ d_ hd_).1 k9_ h9_)
  have a_ : ∀ t_, t_ < 48 → 42 ≤ t_ → S2_.2.2.1 t_ (0 + d_) = S_.2.2.1 t_ (0 + d_) := fun t9_ x_ y_ => (fr_arr f_ (l_ t9_ x_ y_)).trans ((c_ d_ hd_).2 t9_ x_ y_)
  have m_ : ∀ t_, 153 ≤ t_ → t_ < 171 → ∀ j_, rds t_ * d_ ≤ j_ → j_ < rds t_ * d_ + rds t_ → S2_.2.2.1 t_ 0 j_ = S_.2.2.1 t_ 0 j_ := fun t9_ x_ y_ j9_ u_ v_ => (rdf_sl r_ hd_ t9_ x_ y_ j9_ u_ v_).trans (congrFun (q_ t9_ y_ x_) j9_)
  have n_ : S_.1 3 d_ 4 ≤ 1013 := (hI_.1 3 d_ 4 rfl).2
  intro k9_ hk9_
  rw [e_ 4 (by decide)] at hk9_
  rw [a_ 44 (by decide) (by decide), m_ 166 (by decide) (by decide) _ (by rw [show rds 166 = 2048 from rfl]; omega) (by rw [show rds 166 = 2048 from rfl]; omega)]
  exact h_ k9_ hk9_
theorem dsv_ot {a_ d_ : Nat} {w_ : sx_Wl} {S_ S1_ S2_ : sm_S} (h_ : dsv d_ S_) (hI_ : gi S_) (hd_ : d_ ≠ a_) (c_ : idf a_ S_ S1_) (q_ : ∀ t_, t_ < 171 → 153 ≤ t_ → S1_.2.2.1 t_ 0 = S_.2.2.1 t_ 0) (f_ : ai_fr (sx_W w_) S1_ S2_) (r_ : rdf a_ S1_ S2_) (k_ : ∀ k_, k_ < 10 → (sx_W w_).1 3 k_ = false) (l_ : ∀ t_, t_ < 48 → 42 ≤ t_ → (sx_W w_).2.1 t_ = false) : dsv d_ S2_ := by
  have e_ : ∀ k_, k_ < 10 → S2_.1 3 d_ k_ = S_.1 3 d_ k_ := fun k9_ h9_ => (f_.1 3 d_ k9_ (k_ k9_ h9_)).trans ((c_ d_ hd_).1 k9_ h9_)
  have a_ : ∀ t_, t_ < 48 → 42 ≤ t_ → S2_.2.2.1 t_ (0 + d_) = S_.2.2.1 t_ (0 + d_) := fun t9_ x_ y_ => (fr_arr f_ (l_ t9_ x_ y_)).trans ((c_ d_ hd_).2 t9_ x_ y_)
  unfold dsv
  rw [e_ 1 (by decide), e_ 2 (by decide), e_ 4 (by decide), a_ 42 (by decide) (by decide), a_ 43 (by decide) (by decide), a_ 44 (by decide) (by decide)]
  exact h_
theorem dgw_ot {a_ d_ : Nat} {w_ : sx_Wl} {S_ S1_ S2_ : sm_S} (h_ : dgw d_ S_) (hI_ : gi S_) (hd_ : d_ ≠ a_) (c_ : idf a_ S_ S1_) (q_ : ∀ t_, t_ < 171 → 153 ≤ t_ → S1_.2.2.1 t_ 0 = S_.2.2.1 t_ 0) (f_ : ai_fr (sx_W w_) S1_ S2_) (r_ : rdf a_ S1_ S2_) (k_ : ∀ k_, k_ < 10 → (sx_W w_).1 3 k_ = false) (l_ : ∀ t_, t_ < 48 → 42 ≤ t_ → (sx_W w_).2.1 t_ = false) : dgw d_ S2_ := ⟨dgw0_ot h_.1 hI_ hd_ c_ q_ f_ r_ k_ l_, dsv_ot h_.2 hI_ hd_ c_ q_ f_ r_ k_ l_⟩
theorem dgq_ot {a_ d_ : Nat} {w_ : sx_Wl} {S_ S1_ S2_ : sm_S} (h_ : dgq d_ S_) (hI_ : gi S_) (hd_ : d_ ≠ a_) (c_ : idf a_ S_ S1_) (q_ : ∀ t_, t_ < 171 → 153 ≤ t_ → S1_.2.2.1 t_ 0 = S_.2.2.1 t_ 0) (f_ : ai_fr (sx_W w_) S1_ S2_) (r_ : rdf a_ S1_ S2_) (k_ : ∀ k_, k_ < 10 → (sx_W w_).1 3 k_ = false) (l_ : ∀ t_, t_ < 48 → 42 ≤ t_ → (sx_W w_).2.1 t_ = false) : dgq d_ S2_ := by
  have e_ : ∀ k_, k_ < 10 → S2_.1 3 d_ k_ = S_.1 3 d_ k_ := fun k9_ h9_ => (f_.1 3 d_ k9_ (k_ k9_ h9_)).trans ((c_ d_ hd_).1 k9_ h9_)
  have a_ : ∀ t_, t_ < 48 → 42 ≤ t_ → S2_.2.2.1 t_ (0 + d_) = S_.2.2.1 t_ (0 + d_) := fun t9_ x_ y_ => (fr_arr f_ (l_ t9_ x_ y_)).trans ((c_ d_ hd_).2 t9_ x_ y_)
  have m_ : ∀ t_, 153 ≤ t_ → t_ < 171 → ∀ j_, rds t_ * d_ ≤ j_ → j_ < rds t_ * d_ + rds t_ → S2_.2.2.1 t_ 0 j_ = S_.2.2.1 t_ 0 j_ := fun t9_ x_ y_ j9_ u_ v_ => (rdf_sl r_ hd_ t9_ x_ y_ j9_ u_ v_).trans (congrFun (q_ t9_ y_ x_) j9_)
  have n_ : S_.1 3 d_ 4 ≤ 1013 := (hI_.1 3 d_ 4 rfl).2
  obtain ⟨b_, h_⟩ := h_
  refine ⟨by rw [e_ 1 (by decide), e_ 2 (by decide)]; exact b_, fun k9_ hk9_ => ?_⟩
  rw [e_ 1 (by decide), e_ 2 (by decide)] at hk9_
  have w9_ := pw_le (n := (S_.1 3 d_ 1 + S_.1 3 d_ 2).toNat) (m := 12) (by omega)
  have w9_ : (2 : Int) ^ (S_.1 3 d_ 1 + S_.1 3 d_ 2).toNat ≤ 4096 := w9_
  rw [a_ 47 (by decide) (by decide), m_ 169 (by decide) (by decide) _ (by rw [show rds 169 = 4096 from rfl]; omega) (by rw [show rds 169 = 4096 from rfl]; omega), m_ 170 (by decide) (by decide) _ (by rw [show rds 170 = 4096 from rfl]; omega) (by rw [show rds 170 = 4096 from rfl]; omega)]
  exact h_ k9_ hk9_
theorem dgc_ot {a_ d_ : Nat} {w_ : sx_Wl} {S_ S1_ S2_ : sm_S} (h_ : dgc d_ S_) (hI_ : gi S_) (hd_ : d_ ≠ a_) (c_ : idf a_ S_ S1_) (q_ : ∀ t_, t_ < 171 → 153 ≤ t_ → S1_.2.2.1 t_ 0 = S_.2.2.1 t_ 0) (f_ : ai_fr (sx_W w_) S1_ S2_) (r_ : rdf a_ S1_ S2_) (k_ : ∀ k_, k_ < 10 → (sx_W w_).1 3 k_ = false) (l_ : ∀ t_, t_ < 48 → 42 ≤ t_ → (sx_W w_).2.1 t_ = false) : dgc d_ S2_ := by
  have e_ : ∀ k_, k_ < 10 → S2_.1 3 d_ k_ = S_.1 3 d_ k_ := fun k9_ h9_ => (f_.1 3 d_ k9_ (k_ k9_ h9_)).trans ((c_ d_ hd_).1 k9_ h9_)
  have a_ : ∀ t_, t_ < 48 → 42 ≤ t_ → S2_.2.2.1 t_ (0 + d_) = S_.2.2.1 t_ (0 + d_) := fun t9_ x_ y_ => (fr_arr f_ (l_ t9_ x_ y_)).trans ((c_ d_ hd_).2 t9_ x_ y_)
  have m_ : ∀ t_, 153 ≤ t_ → t_ < 171 → ∀ j_, rds t_ * d_ ≤ j_ → j_ < rds t_ * d_ + rds t_ → S2_.2.2.1 t_ 0 j_ = S_.2.2.1 t_ 0 j_ := fun t9_ x_ y_ j9_ u_ v_ => (rdf_sl r_ hd_ t9_ x_ y_ j9_ u_ v_).trans (congrFun (q_ t9_ y_ x_) j9_)
  have s1_ : ∀ t_, 153 ≤ t_ → t_ ≤ 163 → S2_.2.2.1 t_ 0 d_ = S_.2.2.1 t_ 0 d_ := fun t9_ x_ y_ => m_ t9_ x_ (by omega) d_ (by unfold rds; rw [if_pos y_]; omega) (by unfold rds; rw [if_pos y_]; omega)
  exact (e_ 6 (by decide)).trans (h_.trans (s1_ 158 (by decide) (by decide)).symm)
theorem dge_ot {a_ d_ : Nat} {w_ : sx_Wl} {S_ S1_ S2_ : sm_S} (h_ : dge d_ S_) (hI_ : gi S_) (hd_ : d_ ≠ a_) (c_ : idf a_ S_ S1_) (q_ : ∀ t_, t_ < 171 → 153 ≤ t_ → S1_.2.2.1 t_ 0 = S_.2.2.1 t_ 0) (f_ : ai_fr (sx_W w_) S1_ S2_) (r_ : rdf a_ S1_ S2_) (k_ : ∀ k_, k_ < 10 → (sx_W w_).1 3 k_ = false) (l_ : ∀ t_, t_ < 48 → 42 ≤ t_ → (sx_W w_).2.1 t_ = false) : dge d_ S2_ := ⟨dg0_ot h_.1 hI_ hd_ c_ q_ f_ r_ k_ l_, dgo_ot h_.2.1 hI_ hd_ c_ q_ f_ r_ k_ l_, dgw_ot h_.2.2.1 hI_ hd_ c_ q_ f_ r_ k_ l_, dgq_ot h_.2.2.2.1 hI_ hd_ c_ q_ f_ r_ k_ l_, dgc_ot h_.2.2.2.2 hI_ hd_ c_ q_ f_ r_ k_ l_⟩
theorem dv_c {b_ : Nat → Int} {n_ : Nat} {S0_ S1_ : sm_S} {u_ : Option sm_V} (q_ : vq_213n b_ n_ S0_ u_ S1_) : vq_213 b_ n_ S0_ u_ S1_ := by
  obtain ⟨v_, e_, hI_, f_, sl_, h1_, h2_, h3_, h4_, h5_, h6_⟩ := q_
  refine ⟨v_, e_, hI_, f_, sl_, h1_, h2_, h3_, h4_, h5_, ?_⟩
  rcases h6_ with ⟨⟨r_, z_, a_, -⟩, b_, c_, -⟩ | ⟨a_, b_, -⟩
  · exact Or.inl ⟨dok_a a_, b_, c_⟩
  · exact Or.inr ⟨a_, b_⟩
theorem dv_r {b_ : Nat → Int} {n_ : Nat} {S0_ S1_ : sm_S} {u_ : Option sm_V} (q_ : vq_363n b_ n_ S0_ u_ S1_) : vq_363 b_ n_ S0_ u_ S1_ := by
  obtain ⟨v_, e_, hI_, f_, h_⟩ := q_
  refine ⟨v_, e_, hI_, f_, ?_⟩
  rcases h_ with ⟨h1_, h2_, h3_, h4_, -⟩ | ⟨h1_, sl_, h2_, h3_, h4_, h5_, h6_, h7_⟩
  · exact Or.inl ⟨h1_, h2_, h3_, h4_⟩
  · refine Or.inr ⟨h1_, sl_, h2_, h3_, h4_, h5_, h6_, ?_⟩
    rcases h7_ with ⟨⟨r_, z_, a_, -⟩, b_, c_, -⟩ | ⟨a_, b_, -⟩
    · exact Or.inl ⟨dok_a a_, b_, c_⟩
    · exact Or.inr ⟨a_, b_⟩
/-- what design answers and keeps: the class -/
def ldev (b_ : Nat → Int) (n_ : Nat) (S0_ S1_ : sm_S) (v_ : Int) : Prop := (v_ = 1 ∧ (∀ j_ : Nat, j_ < 6 → S0_.1 3 j_ 0 = 1) ∧ idf 6 S0_ S1_ ∧ S1_.1 12 0 10 = S0_.1 12 0 10) ∨ (v_ = 0 ∧ ∃ sl_ : Nat, sl_ < 6 ∧ S0_.1 3 sl_ 0 = 0 ∧ (∀ j_ : Nat, j_ < sl_ → S0_.1 3 j_ 0 = 1) ∧ idf sl_ S0_ S1_ ∧ (((∃ r_ z_, dok b_ n_ r_ z_ ∧ dgx sl_ r_ z_ S1_ ∧ dcn sl_ r_ z_ S1_ ∧ S1_.1 3 sl_ 6 = (dnx r_).2 ∧ dcs sl_ (1 + d_I r_ + d_R r_) S1_ ∧ dct sl_ (1 + d_I r_ + d_R r_) S1_) ∧ S1_.2.2.2 295 0 0 = l_i2l (sl_ : Int) ∧ S1_.1 12 0 10 = 0) ∨ (¬ dacc b_ n_ ∧ S1_.1 3 sl_ 0 = 0 ∧ ∃ e_, dfe b_ n_ e_ ∧ S1_.2.2.2 295 0 0 = l_i2l (-1 - (e_.2 : Int)) ∧ S1_.1 12 0 10 = e_.1)))
theorem lde_v {b_ : Nat → Int} {n_ : Nat} {v_ : Int} {S0_ S1_ : sm_S} (q_ : vq_213n b_ n_ S0_ (some (.inl v_)) S1_) : ldev b_ n_ S0_ (sm_aL S1_ 295 0 0 (l_i2l v_)) 0 := by
  obtain ⟨w_, e_, hI_, f_, sl_, h1_, h2_, h3_, h4_, h5_, h6_⟩ := q_
  cases e_
  have o_ : (sm_aL S1_ 295 0 0 (l_i2l v_)).2.2.2 295 0 0 = l_i2l v_ := rd_ll.trans (if_pos ⟨rfl, rfl, rfl⟩)
  refine Or.inr ⟨rfl, sl_, h1_, h2_, h3_, h5_, ?_⟩
  rcases h6_ with ⟨a_, -, -, y_, l_⟩ | ⟨a_, c_, g_, p_, y_, l_⟩
  · exact Or.inl ⟨a_, o_.trans (congrArg l_i2l y_), l_⟩
  · exact Or.inr ⟨a_, c_, g_, p_, o_.trans (congrArg l_i2l y_), l_⟩
set_option maxRecDepth 20000 in
theorem jG_de {b_ : Nat → Int} {n_ : Nat} {v_ : Int} {S_ S1_ S2_ : sm_S} {u_ : Option sm_V} (hn9_ : n_ ≤ 1280) (J_ : jG S_) (hI_ : gi S_) (a7_ : ∀ j_ : Nat, j_ < 6 → S_.1 3 j_ 0 = S_.2.2.1 153 0 j_) (q_ : ai_fr (sx_W (wo9 vw_213)) S_ S1_) (e_ : ldev b_ n_ S_ S1_ v_) (p_ : vq_363n b_ n_ S1_ u_ S2_) : jG S2_ ∧ S2_.1 13 0 0 = v_ ∧ ∀ w_ : Int, u_ = some (.inl w_) → v_ = 0 → S2_.2.2.2 295 0 0 = l_i2l w_ := by
  obtain ⟨x_, rfl, i_, f_, p_⟩ := p_
  have o_ : S2_.2.2.2 295 0 0 = S1_.2.2.2 295 0 0 := congrFun (fr_lon (t_ := 295) (i_ := 0) f_ rfl) 0
  have l_ : S2_.1 12 0 10 = S1_.1 12 0 10 := f_.1 12 0 10 rfl
  have m_ : S1_.1 13 0 79 = S_.1 13 0 79 := q_.1 13 0 79 rfl
  have y_ : ∀ t_, t_ < 171 → 153 ≤ t_ → S1_.2.2.1 t_ 0 = S_.2.2.1 t_ 0 := fun t_ h1_ h2_ => fr_arr q_ (by revert h1_ h2_; revert t_; decide)
  have x3_ : ∀ j_, S1_.2.2.1 153 0 j_ = S_.2.2.1 153 0 j_ := fun j_ => congrFun (y_ 153 (by decide) (by decide)) j_
  have x4_ : ∀ j_, S2_.1 3 j_ 0 = S1_.1 3 j_ 0 := fun j_ => f_.1 3 j_ 0 rfl
  have lb_ : ∀ l_ : Nat, l_ < 3 → S2_.1 5 l_ 0 = 1 → lge l_ S2_ := fun l_ hl_ z_ => lge_fr (lge_fr (J_.2.2 l_ hl_ (by rw [f_.1 5 l_ 0 rfl, q_.1 5 l_ 0 rfl] at z_; exact z_)) q_ rfl) f_ rfl
  rcases e_ with ⟨e1_, e2_, e3_, e4_⟩ | ⟨e1_, s_, s1_, s2_, s3_, s4_, s5_⟩
  · rcases p_ with ⟨p1_, p2_, p3_, p4_, p5_⟩ | ⟨p1_, z_, z1_, z2_, -⟩
    · refine ⟨⟨?_, fun d_ hd_ _ => dge_ot (J_.2.1 d_ hd_ (e2_ d_ hd_)) hI_ (by omega) e3_ y_ f_ p4_ (by decide) (by decide), lb_⟩, p1_.trans e1_.symm, fun w_ _ h_ => absurd (e1_.symm.trans h_) (by decide)⟩
      rw [l_, e4_, p5_, m_]
      exact J_.1
    · exfalso
      have := e2_ z_ z1_
      have := a7_ z_ z1_
      have := x3_ z_
      omega
  · rcases p_ with ⟨p1_, p2_, -⟩ | ⟨p1_, z_, z1_, z2_, z3_, z4_, z5_, z6_⟩
    · exfalso
      have := p2_ s_ s1_
      have := a7_ s_ s1_
      have := x3_ s_
      omega
    · have sz_ : s_ = z_ := by
        rcases Nat.lt_trichotomy s_ z_ with c_ | c_ | c_
        · exfalso
          have := z3_ s_ c_
          have := a7_ s_ s1_
          have := x3_ s_
          omega
        · exact c_
        · exfalso
          have := s3_ z_ c_
          have := a7_ z_ z1_
          have := x3_ z_
          omega
      subst sz_
      have ot_ : ∀ d_ : Nat, d_ < 6 → d_ ≠ s_ → S2_.1 3 d_ 0 = 1 → dge d_ S2_ := fun d_ hd_ c_ h_ => dge_ot (J_.2.1 d_ hd_ (by rw [x4_, (s4_ d_ c_).1 0 (by decide)] at h_; exact h_)) hI_ c_ s4_ y_ f_ z5_ (by decide) (by decide)
      rcases s5_ with ⟨⟨r_, t_, k1_, k2_⟩, k3_, k4_⟩ | ⟨k1_, k5_, g_, k2_, k3_, k4_⟩
      · rcases z6_ with ⟨⟨r1_, t1_, w1_, w2_⟩, -, -, w3_, w4_⟩ | ⟨w1_, -⟩
        · obtain ⟨rfl, rfl⟩ := dok_u k1_ w1_
          refine ⟨⟨by rw [l_, k4_, w4_], fun d_ hd_ h_ => ?_, lb_⟩, p1_.trans e1_.symm, fun w_ hw_ _ => by cases hw_; rw [o_, k3_, w3_]⟩
          by_cases c_ : d_ = s_
          · subst c_
            have go_ := dgo_of hn9_ k1_ (dgx_fr k2_.1 f_ rfl rfl rfl rfl rfl rfl) (dcn_fr k2_.2.1 f_) w2_.2.1
            exact ⟨dg0_of (dgx_fr k2_.1 f_ rfl rfl rfl rfl rfl rfl) w2_.1, go_, ⟨dgw0_of (by (have l9_ := lm_0 k1_.2.1; obtain ⟨i1_, i2_, i3_, i4_, i5_⟩ := d_in hn9_ k1_.1; omega)) (dgx_fr k2_.1 f_ rfl rfl rfl rfl rfl rfl) w2_.1 (dcs_fr k2_.2.2.2.1 f_) w2_.2.2.1, dsv_of (dgx_fr k2_.1 f_ rfl rfl rfl rfl rfl rfl) (dcs_fr k2_.2.2.2.1 f_)⟩, dgq_of (by (have l9_ := lm_0 k1_.2.1; obtain ⟨i1_, i2_, i3_, i4_, i5_⟩ := d_in hn9_ k1_.1; omega)) (dgx_fr k2_.1 f_ rfl rfl rfl rfl rfl rfl) w2_.1 (dcs_fr k2_.2.2.2.1 f_) go_ (dct_fr k2_.2.2.2.2 f_) w2_.2.2.2, (f_.1 3 _ 6 rfl).trans (k2_.2.2.1.trans w2_.2.1.1.2.symm)⟩
          · exact ot_ d_ hd_ c_ h_
        · exact absurd (dok_a k1_) w1_
      · rcases z6_ with ⟨⟨r1_, t1_, w1_, w2_⟩, -⟩ | ⟨w1_, w0_, g1_, w2_, w3_, w4_⟩
        · exact absurd (dok_a w1_) k1_
        · have ge_ := dfe_u k2_ w2_
          subst ge_
          refine ⟨⟨by rw [l_, k4_, w4_], fun d_ hd_ h_ => ?_, lb_⟩, p1_.trans e1_.symm, fun w_ hw_ _ => by cases hw_; rw [o_, k3_, w3_]⟩
          by_cases c_ : d_ = s_
          · subst c_
            rw [x4_, k5_] at h_
            exact absurd h_ (by decide)
          · exact ot_ d_ hd_ c_ h_
theorem lv_c {b_ : Nat → Int} {n_ : Nat} {S0_ S1_ : sm_S} {u_ : Option sm_V} (q_ : vq_214v b_ n_ S0_ u_ S1_) : vq_214 b_ n_ S0_ u_ S1_ := by
  obtain ⟨v_, e_, hI_, f_, sl_, h1_, h2_, h3_, h4_, h5_, h6_⟩ := q_
  refine ⟨v_, e_, hI_, f_, sl_, h1_, h2_, h3_, h4_, ?_⟩
  rcases h6_ with h6_ | ⟨⟨r_, a_, -⟩, b_⟩
  · exact Or.inl h6_
  · exact Or.inr ⟨⟨r_, a_⟩, b_⟩
theorem lv_r {b_ : Nat → Int} {n_ : Nat} {S0_ S1_ : sm_S} {u_ : Option sm_V} (q_ : vq_367v b_ n_ S0_ u_ S1_) : vq_367 b_ n_ S0_ u_ S1_ := by
  obtain ⟨v_, e_, hI_, f_, h_⟩ := q_
  refine ⟨v_, e_, hI_, f_, ?_⟩
  rcases h_ with ⟨h1_, h2_, h3_, h4_, -⟩ | ⟨h1_, sl_, h2_, h3_, h4_, h5_, h6_, h7_⟩
  · exact Or.inl ⟨h1_, h2_, h3_, h4_⟩
  · refine Or.inr ⟨h1_, sl_, h2_, h3_, h4_, h5_, ?_⟩
    rcases h7_ with h7_ | ⟨⟨r_, a_, -⟩, b_⟩
    · exact Or.inl h7_
    · exact Or.inr ⟨⟨r_, a_⟩, b_⟩
/-- what library answers and keeps: the class -/
def lliv (b_ : Nat → Int) (n_ : Nat) (S0_ S1_ : sm_S) (v_ : Int) : Prop := (v_ = 1 ∧ (∀ j_ : Nat, j_ < 3 → S0_.1 5 j_ 0 = 1) ∧ ilf 9 S0_ S1_ ∧ S1_.1 12 0 10 = S0_.1 12 0 10) ∨ (v_ = 0 ∧ ∃ sl_ : Nat, sl_ < 3 ∧ S0_.1 5 sl_ 0 = 0 ∧ (∀ j_ : Nat, j_ < sl_ → S0_.1 5 j_ 0 = 1) ∧ ilf sl_ S0_ S1_ ∧ ((∃ e_, p_li b_ n_ = .inl e_ ∧ S1_.2.2.2 295 0 0 = l_i2l (-1 - (e_.2 : Int)) ∧ S1_.1 12 0 10 = e_.1 ∧ S1_.1 5 sl_ 0 = 0) ∨ ((∃ r_, p_li b_ n_ = .inr r_ ∧ lcl sl_ r_.1 r_.2 S1_ ∧ S1_.1 5 sl_ 2 = fiv r_.2 r_.1) ∧ S1_.2.2.2 295 0 0 = l_i2l (sl_ : Int) ∧ S1_.1 12 0 10 = 0)))
theorem lli_v {b_ : Nat → Int} {n_ : Nat} {v_ : Int} {S0_ S1_ : sm_S} (q_ : vq_214v b_ n_ S0_ (some (.inl v_)) S1_) : lliv b_ n_ S0_ (sm_aL S1_ 295 0 0 (l_i2l v_)) 0 := by
  obtain ⟨w_, e_, hI_, f_, sl_, h1_, h2_, h3_, h4_, h5_, h6_⟩ := q_
  cases e_
  have o_ : (sm_aL S1_ 295 0 0 (l_i2l v_)).2.2.2 295 0 0 = l_i2l v_ := rd_ll.trans (if_pos ⟨rfl, rfl, rfl⟩)
  refine Or.inr ⟨rfl, sl_, h1_, h2_, h3_, h5_, ?_⟩
  rcases h6_ with ⟨x_, p_, y_, l_, k_⟩ | ⟨p_, y_, l_, k_⟩
  · exact Or.inl ⟨x_, p_, o_.trans (congrArg l_i2l y_), l_, (k_ sl_).trans h2_⟩
  · exact Or.inr ⟨p_, o_.trans (congrArg l_i2l y_), l_⟩
set_option maxRecDepth 20000 in
theorem jG_li {m_ : Nat} {b_ : Nat → Int} {v_ : Int} {S_ S1_ S2_ : sm_S} {u_ : Option sm_V} (J_ : jG S_) (a8_ : ∀ j_ : Nat, j_ < 3 → S_.1 5 j_ 0 = S_.2.2.1 183 0 j_) (I1_ : gi S1_) (q_ : ai_fr (sx_W (wo9 vw_214)) S_ S1_) (e_ : lliv b_ m_ S_ S1_ v_) (p_ : vq_367v b_ m_ S1_ u_ S2_) : jG S2_ ∧ S2_.1 13 0 0 = v_ ∧ ∀ w_ : Int, u_ = some (.inl w_) → v_ = 0 → S2_.2.2.2 295 0 0 = l_i2l w_ := by
  obtain ⟨x_, rfl, i_, f_, p_⟩ := p_
  have o_ : S2_.2.2.2 295 0 0 = S1_.2.2.2 295 0 0 := congrFun (fr_lon (t_ := 295) (i_ := 0) f_ rfl) 0
  have l_ : S2_.1 12 0 10 = S1_.1 12 0 10 := f_.1 12 0 10 rfl
  have n_ : S1_.1 13 0 79 = S_.1 13 0 79 := q_.1 13 0 79 rfl
  have x3_ : ∀ j_, S1_.2.2.1 183 0 j_ = S_.2.2.1 183 0 j_ := fun j_ => congrFun (fr_arr (t := 183) (i := 0) q_ rfl) j_
  have x5_ : ∀ j_ k_, S2_.1 5 j_ k_ = S1_.1 5 j_ k_ := fun j_ k_ => f_.1 5 j_ k_ rfl
  have x6_ : ∀ t_ j_, t_ < 59 → 55 ≤ t_ → S2_.2.2.1 t_ j_ = S1_.2.2.1 t_ j_ := fun t_ j_ h1_ h2_ => fr_arr f_ (by revert h1_ h2_; revert t_; decide)
  have y_ : rsm S_ S1_ := rsm_fr q_ (by decide)
  have gd_ : ∀ d_ : Nat, d_ < 6 → S2_.1 3 d_ 0 = 1 → dge d_ S2_ := fun d_ hd_ z_ => by
    rw [f_.1 3 d_ 0 rfl, q_.1 3 d_ 0 rfl] at z_
    have h_ := J_.2.1 d_ hd_ z_
    exact dge_y (dge_y h_ q_ rfl rfl rfl) f_ rfl rfl rfl
  have ot_ : ∀ s_ : Nat, ilf s_ S_ S1_ → rlf s_ S1_ S2_ → ∀ l_ : Nat, l_ < 3 → l_ ≠ s_ → S2_.1 5 l_ 0 = 1 → lge l_ S2_ := fun s_ c_ r_ l_ hl_ n_ z_ => by
    rw [x5_, (c_ l_ n_).1 0 (by decide)] at z_
    obtain ⟨K_, L_, h1_, h2_, h3_, h4_⟩ := J_.2.2 l_ hl_ z_
    refine ⟨K_, L_, h1_, lcl_eq h2_ ((x5_ l_ 1).trans ((c_ l_ n_).1 1 (by decide))) (fun t_ a_ b_ => (x6_ t_ _ a_ b_).trans ((c_ l_ n_).2 t_ a_ b_)), ((x5_ l_ 2).trans ((c_ l_ n_).1 2 (by decide))).trans h3_, lcr_eq (lcr_eq h4_ h1_ (rlf_sm (l0_ := s_) y_ l_ n_)) h1_ (r_ l_ n_)⟩
  rcases e_ with ⟨e1_, e2_, e3_, e4_⟩ | ⟨e1_, s_, s1_, s2_, s3_, s0_, s4_⟩
  · rcases p_ with ⟨p1_, p2_, p3_, p4_, p5_, p6_⟩ | ⟨p1_, z_, z1_, z2_, z3_, -⟩
    · exact ⟨⟨by rw [l_, e4_, p6_, n_]; exact J_.1, gd_, fun l9_ hl_ z_ => ot_ 9 e3_ (rlf_sm p5_) l9_ hl_ (by omega) z_⟩, p1_.trans e1_.symm, fun w_ _ h_ => absurd (e1_.symm.trans h_) (by decide)⟩
    · exfalso
      have := e2_ z_ z1_
      have := a8_ z_ z1_
      have := x3_ z_
      omega
  · rcases p_ with ⟨p1_, p2_, -⟩ | ⟨p1_, z_, z1_, z2_, z3_, z4_, z0_, z5_⟩
    · exfalso
      have := p2_ s_ s1_
      have := a8_ s_ s1_
      have := x3_ s_
      omega
    · have sz_ : s_ = z_ := by
        rcases Nat.lt_trichotomy s_ z_ with c_ | c_ | c_
        · exfalso
          have := z3_ s_ c_
          have := a8_ s_ s1_
          have := x3_ s_
          omega
        · exact c_
        · exfalso
          have := s3_ z_ c_
          have := a8_ z_ z1_
          have := x3_ z_
          omega
      subst sz_
      rcases s4_ with ⟨y_, y1_, y2_, y3_, y4_⟩ | ⟨⟨y_, y1_, y4_, y5_⟩, y2_, y3_⟩
      · rcases z5_ with ⟨t_, t1_, t2_, t3_, -⟩ | ⟨⟨t_, t1_, -⟩, -⟩
        · rw [y1_] at t1_
          cases t1_
          refine ⟨⟨by rw [l_, y3_, t3_], gd_, fun l9_ hl_ z_ => ?_⟩, p1_.trans e1_.symm, fun w_ hw_ _ => by cases hw_; rw [o_, y2_, t2_]⟩
          by_cases c_ : l9_ = s_
          · subst c_
            rw [x5_, y4_] at z_
            exact absurd z_ (by decide)
          · exact ot_ s_ s0_ z0_ l9_ hl_ c_ z_
        · rw [y1_] at t1_; cases t1_
      · rcases z5_ with ⟨t_, t1_, -⟩ | ⟨⟨t_, t1_, t4_⟩, t2_, t3_, -⟩
        · rw [y1_] at t1_; cases t1_
        · rw [y1_] at t1_
          cases t1_
          refine ⟨⟨by rw [l_, y3_, t3_], gd_, fun l9_ hl_ z_ => ?_⟩, p1_.trans e1_.symm, fun w_ hw_ _ => by cases hw_; rw [o_, y2_, t2_]⟩
          by_cases c_ : l9_ = s_
          · subst c_
            have kb_ : S1_.1 5 l9_ 1 ≤ 12 := (I1_.1 5 l9_ 1 rfl).2
            have ka_ := y4_.1
            exact ⟨y_.1, y_.2, by omega, lcl_eq y4_ (x5_ l9_ 1) (fun t9_ a_ b_ => x6_ t9_ _ a_ b_), (x5_ l9_ 2).trans y5_, t4_⟩
          · exact ot_ s_ s0_ z0_ l9_ hl_ c_ z_
