/-! 99.zt1 -/
section
/-! the reference: a chip kept; written by wip/p55/gen/vg -/

/-! the_ reference: a_ chip kept -/
theorem kch {F_ N_ d_ c_ : Int} {S_ S'_ : sm_S} (hI_ : ∀ j_, S_.2.2.1 216 0 j_ ≤ 11) (hd_ : dmp F_ N_ d_ S_) (hc_ : 0 ≤ c_) (hm_ : mad F_ S_) (hl_ : S_.1 13 0 134 = 0) (r_ : S'_.2.2.1 223 0 c_.toNat = S_.2.2.1 154 0 d_.toNat ∧ S'_.2.2.1 224 0 c_.toNat = S_.2.2.1 155 0 d_.toNat ∧ S'_.2.2.1 225 0 c_.toNat = S_.2.2.1 156 0 d_.toNat ∧ S'_.2.2.1 226 0 c_.toNat = S_.2.2.1 157 0 d_.toNat ∧ S'_.2.2.1 227 0 c_.toNat = S_.2.2.1 157 0 d_.toNat ∧ S'_.2.2.1 228 0 c_.toNat = S_.1 13 0 129) (h2_ : ∀ j_ : Int, 0 ≤ j_ → j_ < S_.1 13 0 129 → S'_.2.2.1 229 0 (150 * c_ + j_).toNat = S_.2.2.1 216 0 j_.toNat) (h3_ : ∀ j_ : Int, 0 ≤ j_ → j_ < 3 * S_.1 13 0 129 → S'_.2.2.1 230 0 (450 * c_ + j_).toNat = S_.2.2.1 217 0 j_.toNat) (h4_ : ∀ j_ : Int, 0 ≤ j_ → j_ < 12 → S'_.2.2.1 234 0 (12 * c_ + j_).toNat = S_.2.2.1 185 0 (12 * S_.1 13 0 106 + j_).toNat) (ho_ : (∀ k_ : Int, 0 ≤ k_ → k_ < S_.2.2.1 156 0 d_.toNat → S'_.2.2.1 231 0 (16 * c_ + k_).toNat < F_ - 1 + S_.1 13 0 129) ∧ ∀ k_ : Int, 0 ≤ k_ → k_ < S_.2.2.1 155 0 d_.toNat → S'_.2.2.1 232 0 (6 * c_ + k_).toNat < F_ - 1 + S_.1 13 0 129) (z0_ : S'_.2.2.1 240 0 c_.toNat = 0) (z1_ : S'_.2.2.1 251 0 c_.toNat = 0) : cRk c_ S'_ := by
  obtain ⟨r1_, r2_, r3_, r4_, r5_, r6_⟩ := r_
  obtain ⟨⟨a1_, a2_, a3_, a4_, a5_, a6_, a7_, a8_, a9_⟩, F1_, I_, R_, N1_, k1_, k2_, k3_, k4_, k5_, k6_, -⟩ := hd_
  have e_ : S_.2.2.1 154 0 d_.toNat + S_.2.2.1 155 0 d_.toNat = F_ - 1 := by omega
  have eR_ : (S_.2.2.1 155 0 d_.toNat).toNat = R_ := by omega
  refine ⟨by rw [r1_, r2_]; omega, by rw [r4_, r2_, eR_]; exact k6_.2, by rw [r5_, r2_, eR_]; exact k6_.2, fun g_ g0_ g1_ k_ b0_ b1_ b2_ => ?_, ⟨fun k_ b0_ b1_ => ?_, fun k_ b0_ b1_ => ?_⟩, fun p_ => ?_, fun p_ => ?_⟩
  · rw [r6_] at g1_
    have m_ := hm_ g_ g0_ g1_
    have c0_ : 0 ≤ S_.2.2.1 216 0 g_.toNat := by
      rcases m_.1 with y_ | y_
      · exact y_
      · rw [hl_] at y_; exact absurd y_ (by decide)
    have c1_ : S_.2.2.1 216 0 g_.toNat ≤ 11 := hI_ _
    rw [h2_ g_ g0_ g1_, h4_ _ c0_ (by omega)] at b2_
    have q1_ := (m_.2 k_ b0_ b1_).1
    have q_ := (m_.2 k_ b0_ b1_).2 (by
      rcases b2_ with y_ | y_
      · exact Or.inl y_
      · exact Or.inr ⟨c0_, y_⟩)
    have w_ := h3_ (3 * g_ + k_) (by omega) (by omega)
    rw [show 450 * c_ + (3 * g_ + k_) = 450 * c_ + 3 * g_ + k_ by omega] at w_
    rw [r1_, r2_, w_]
    omega
  · rw [r3_] at b1_
    rw [r1_, r2_, r6_]
    have w_ := ho_.1 k_ b0_ b1_
    omega
  · rw [r2_] at b1_
    rw [r1_, r2_, r6_]
    have w_ := ho_.2 k_ b0_ b1_
    omega
  · rw [z0_] at p_
    exact absurd p_ (by decide)
  · rw [z1_] at p_
    exact absurd p_ (by decide)
/-! M_.keepChip -/
end
/-! 99.zt2 -/
section
/-! the reference: a design mapped; written by wip/p55/gen/vg -/

/-! the_ reference: a_ design mapped -/
theorem aI_ne {t_ u_ k_ : Nat} {v_ : Int} {S_ : sm_S} (h_ : u_ ≠ t_) : (sm_aI S_ t_ 0 k_ v_).2.2.1 u_ 0 = S_.2.2.1 u_ 0 := by
  funext j_
  simp only [rd_ne, h_, ne_eq, not_false_eq_true]
theorem wok2_eq {F_ n_ : Int} {S_ S'_ : sm_S} (h_ : wok2 F_ n_ S_) (e2_ : S'_.2.2.1 202 0 = S_.2.2.1 202 0) (e3_ : S'_.2.2.1 203 0 = S_.2.2.1 203 0) (e5_ : S'_.2.2.1 185 0 = S_.2.2.1 185 0) (e6_ : S'_.2.2.1 206 0 = S_.2.2.1 206 0) (e7_ : S'_.2.2.1 207 0 = S_.2.2.1 207 0) (e8_ : S'_.2.2.1 208 0 = S_.2.2.1 208 0) (e9_ : S'_.2.2.1 209 0 = S_.2.2.1 209 0) (e10 : S'_.2.2.1 210 0 = S_.2.2.1 210 0) (e11 : S'_.2.2.1 211 0 = S_.2.2.1 211 0) (e106_ : S'_.1 13 0 106 = S_.1 13 0 106) (e108_ : S'_.1 13 0 108 = S_.1 13 0 108) : wok2 F_ n_ S'_ := by
  unfold wok2 wyc ned inp cst at *
  rw [e2_, e3_, e5_, e6_, e7_, e8_, e9_, e10, e11, e106_, e108_]
  exact h_
theorem wok2_a {F_ n_ v_ : Int} {k_ : Nat} {S_ : sm_S} (h_ : wok2 F_ n_ S_) : wok2 F_ n_ (sm_aI S_ 218 0 k_ v_) := wok2_eq h_ (aI_ne (by decide)) (aI_ne (by decide)) (aI_ne (by decide)) (aI_ne (by decide)) (aI_ne (by decide)) (aI_ne (by decide)) (aI_ne (by decide)) (aI_ne (by decide)) (aI_ne (by decide)) rfl rfl
theorem lgn_cg {F_ N_ : Int} {S_ S'_ : sm_S} (h_ : lgn F_ N_ S_) (e2_ : S'_.2.2.1 202 0 = S_.2.2.1 202 0) (e9_ : S'_.2.2.1 199 0 = S_.2.2.1 199 0) (e0_ : S'_.2.2.1 200 0 = S_.2.2.1 200 0) : lgn F_ N_ S'_ := by
  unfold lgn lgp at *
  rw [e2_, e9_, e0_]
  exact h_
theorem rtd_fr {w_ : sx_Wl} {F_ d_ : Int} {S_ S'_ : sm_S} (h_ : rtd F_ d_ (S_.2.2.1 156 0 d_.toNat) (S_.2.2.1 155 0 d_.toNat) S_) (g_ : ai_fr (sx_W w_) S_ S'_) (q_ : dwf w_ = true := by rfl) (e2_ : (sx_W w_).2.1 202 = false := by rfl) (e3_ : (sx_W w_).2.1 203 = false := by rfl) : rtd F_ d_ (S'_.2.2.1 156 0 d_.toNat) (S'_.2.2.1 155 0 d_.toNat) S'_ := by
  rw [fr_arr (t := 156) g_ (dwf_0 q_ (by decide) (by decide)), fr_arr (t := 155) g_ (dwf_0 q_ (by decide) (by decide))]
  exact rtd_mo h_ (fr_arr (t := 166) g_ (dwf_0 q_ (by decide) (by decide))) (fr_arr (t := 167) g_ (dwf_0 q_ (by decide) (by decide))) (fr_arr (t := 168) g_ (dwf_0 q_ (by decide) (by decide))) (fun j_ u_ => by rw [fr_arr (t := 202) g_ e2_]; exact u_) (fun j_ u_ => by rw [fr_arr (t := 203) g_ e3_]; exact u_)
theorem gst_a {F_ N_ v_ : Int} {t_ k_ : Nat} {S_ : sm_S} (h_ : gst F_ N_ S_) (ht_ : t_ = 231 ∨ t_ = 232) : gst F_ N_ (sm_aI S_ t_ 0 k_ v_) := by
  have a_ : ∀ u_, u_ < 230 → (sm_aI S_ t_ 0 k_ v_).2.2.1 u_ 0 = S_.2.2.1 u_ 0 := fun u_ hu_ => aI_ne (by omega)
  exact gst_cg h_ rfl (a_ 218 (by decide)) (a_ 219 (by decide)) (a_ 216 (by decide)) (a_ 217 (by decide)) (a_ 185 (by decide)) rfl rfl
theorem gst_0 {F_ N_ : Int} {S_ : sm_S} (hN_ : 0 ≤ N_) (h_ : S_.1 13 0 129 = 0) (h2_ : ∀ j_ : Int, 2 * F_ ≤ j_ → j_ < 2 * N_ → S_.2.2.1 218 0 j_.toNat = -1) (h3_ : ∀ j_ : Int, 0 ≤ j_ → j_ < N_ → S_.2.2.1 219 0 j_.toNat = -1) : gst F_ N_ S_ := by
  have a_ := cn1_le (isn (S_.2.2.1 218 0)) (2 * N_).toNat
  have b_ := cn1_le (isn (S_.2.2.1 219 0)) N_.toNat
  refine ⟨⟨by omega, by unfold inc; omega⟩, fun w_ w0_ w1_ => Or.inl (h2_ w_ w0_ w1_), fun n_ n0_ n1_ => Or.inl (h3_ n_ (by omega) n1_), fun g_ g0_ g1_ => by omega⟩
def w118 : sx_Wl := (vw_407.1, 218 :: vw_407.2.1, [])
def w251 : sx_Wl := (vw_418.1, 231 :: vw_418.2.1, [])
def w304 : sx_Wl := (vw_418.1, 232 :: vw_418.2.1, [])
/-! M_.map -/
end
/-! 99.zt3 -/
section
/-! the reference: designs and libraries read; written by wip/p55/gen/vg -/

/-! the_ reference: designs and libraries read -/
theorem rdf_sl {a_ d_ : Nat} {S_ S'_ : sm_S} (g_ : rdf a_ S_ S'_) (h_ : d_ ≠ a_) (t_ : Nat) (h1_ : 153 ≤ t_) (h2_ : t_ < 171) (j_ : Nat) (j0_ : rds t_ * d_ ≤ j_) (j1_ : j_ < rds t_ * d_ + rds t_) : S'_.2.2.1 t_ 0 j_ = S_.2.2.1 t_ 0 j_ := g_ t_ h2_ h1_ j_ (by
  rcases Nat.lt_or_gt_of_ne h_ with z_ | z_
  · left
    have := Nat.mul_le_mul_left (rds t_) (show d_ + 1 ≤ a_ by omega)
    rw [Nat.mul_add] at this
    omega
  · right
    have := Nat.mul_le_mul_left (rds t_) (show a_ + 1 ≤ d_ by omega)
    rw [Nat.mul_add] at this
    omega)
theorem dRk_rd {a_ d_ : Nat} {S_ S'_ : sm_S} (h_ : dRk d_ S_) (g_ : rdf a_ S_ S'_) (hd_ : d_ ≠ a_) : dRk d_ S'_ := by
  have q_ : ∀ t_, 153 ≤ t_ → t_ < 171 → rds t_ = 1 → S'_.2.2.1 t_ 0 d_ = S_.2.2.1 t_ 0 d_ := fun t_ h1_ h2_ e_ => rdf_sl g_ hd_ t_ h1_ h2_ d_ (by rw [e_]; omega) (by rw [e_]; omega)
  have w_ : ∀ t_, 164 ≤ t_ → t_ < 167 → ∀ k_, k_ < 2048 → S'_.2.2.1 t_ 0 (2048 * d_ + k_) = S_.2.2.1 t_ 0 (2048 * d_ + k_) := fun t_ h1_ h2_ k_ hk_ => by
    have e_ : rds t_ = 2048 := by
      unfold rds
      rw [if_neg (by omega), if_pos (by omega)]
    exact rdf_sl g_ hd_ t_ (by omega) (by omega) _ (by rw [e_]; omega) (by rw [e_]; omega)
  obtain ⟨F_, I_, R_, N_, k1_, k2_, k3_, k4_, k5_, k6_, k7_, k8_⟩ := h_
  refine ⟨F_, I_, R_, N_, ?_, fun k_ a_ b_ => ?_, ⟨?_, fun m_ hm_ => ?_⟩, fun k_ hk_ => ?_, fun k_ hk_ => ?_, ?_, ?_, fun p_ hp_ => ?_⟩
  · rw [q_ 154 (by decide) (by decide) rfl, q_ 155 (by decide) (by decide) rfl, q_ 156 (by decide) (by decide) rfl, q_ 159 (by decide) (by decide) rfl, q_ 160 (by decide) (by decide) rfl]
    exact k1_
  · have z_ := k2_ k_ a_ b_
    show 2 ≤ S'_.2.2.1 164 0 (2048 * d_ + k_) ∧ S'_.2.2.1 164 0 (2048 * d_ + k_) < S'_.2.2.1 165 0 (2048 * d_ + k_) ∧ S'_.2.2.1 165 0 (2048 * d_ + k_) < 2 * (k_ : Int)
    rw [w_ 164 (by decide) (by decide) k_ (by omega), w_ 165 (by decide) (by decide) k_ (by omega)]
    exact z_
  · have y_ := w_ 166 (by decide) (by decide) 0 (by decide)
    rw [Nat.add_zero] at y_
    rw [y_]
    exact k3_.1
  · exact sfo_ap (n_ := N_) (fun a_ => k2_ m_ a_ hm_) hm_ (k3_.2 m_ hm_) (fun k_ hk_ => w_ 164 (by decide) (by decide) k_ (by omega)) (fun k_ hk_ => w_ 165 (by decide) (by decide) k_ (by omega)) (fun k_ hk_ => w_ 166 (by decide) (by decide) k_ (by omega))
  · rw [q_ 156 (by decide) (by decide) rfl] at hk_
    rw [rdf_sl g_ hd_ 167 (by decide) (by decide) (16 * d_ + k_) (by rw [show rds 167 = 16 from rfl]; omega) (by rw [show rds 167 = 16 from rfl]; omega)]
    exact k4_ k_ hk_
  · rw [rdf_sl g_ hd_ 168 (by decide) (by decide) (6 * d_ + k_) (by rw [show rds 168 = 6 from rfl]; omega) (by rw [show rds 168 = 6 from rfl]; omega)]
    exact k5_ k_ hk_
  · rw [q_ 157 (by decide) (by decide) rfl]
    exact k6_
  · rw [q_ 158 (by decide) (by decide) rfl]
    exact k7_
  · have l_ : 2 ^ (I_ + R_) ≤ 2 ^ 12 := Nat.pow_le_pow_right (by decide) (by omega)
    have l2_ : 2 ^ 12 = 4096 := by decide
    rw [rdf_sl g_ hd_ 170 (by decide) (by decide) (4096 * d_ + p_) (by rw [show rds 170 = 4096 from rfl]; omega) (by rw [show rds 170 = 4096 from rfl]; omega)]
    exact k8_ p_ hp_
theorem jR_de {b_ : Nat → Int} {n_ : Nat} {S0_ S1_ : sm_S} {u_ : Option sm_V} (hJ_ : jR S0_) (q_ : vq_363 b_ n_ S0_ u_ S1_) : jR S1_ := by
  obtain ⟨v_, -, hI_, f_, h_⟩ := q_
  refine ⟨fun d_ hd_ z_ => ?_, rcAll_fr hJ_.2 hI_ f_ rfl⟩
  have k_ : ∀ a_, rdf a_ S0_ S1_ → d_ ≠ a_ → dRk d_ S1_ := fun a_ g_ e_ => by
    rw [rdf_sl g_ e_ 153 (by decide) (by decide) d_ (by rw [show rds 153 = 1 from rfl]; omega) (by rw [show rds 153 = 1 from rfl]; omega)] at z_
    exact dRk_rd (hJ_.1 d_ hd_ z_) g_ e_
  rcases h_ with ⟨-, -, -, g_⟩ | ⟨-, s_, hs_, -, -, -, g_, h_⟩
  · exact k_ 6 g_ (by omega)
  · by_cases e_ : d_ = s_
    · subst e_
      rcases h_ with h_ | h_
      · exact h_.2.2
      · rw [h_.2] at z_
        exact absurd z_ (by decide)
    · exact k_ s_ g_ e_
theorem jR_li {b_ : Nat → Int} {n_ : Nat} {S0_ S1_ : sm_S} {u_ : Option sm_V} (hJ_ : jR S0_) (q_ : vq_367 b_ n_ S0_ u_ S1_) : jR S1_ := by
  obtain ⟨v_, -, hI_, f_, -⟩ := q_
  exact jR_fr hJ_ hI_ f_ rfl rfl
end
/-! 99.zt4 -/
section
/-! the reference: why end is refused; what was thrown -/
def vq_thw (S0_ : sm_S) (u_ : Option sm_V) (S1_ : sm_S) : Prop := S0_ = S1_ ∧ u_ = some (.inl (S0_.1 13 0 0))
theorem vc_thw {sc_ : Nat × (Nat → Int)} (S0_ : sm_S) : sm_T (mt_P sc_) 0 587 (0, [some (.inr (.inr (some (13, 0))))], [], S0_) (fun r_ => ∃ u_ S1_, r_ = (.inl u_, S1_, 0) ∧ vq_thw S0_ u_ S1_) := by
  refine sm_T_go 2 (c1 := (4, [some (.inr (.inr (some (13, 0))))], [.inl (S0_.1 13 0 0)], S0_)) rfl ?_
  exact sm_T_ri rfl ⟨_, _, rfl, rfl, rfl⟩
end
/-! 99.zt5 -/
section
/-! why the end of the tape is refused by the reference; written by wip/p55/gen/vg -/
/-! M_.end -/
end
/-! 99.zt6 -/
section
/-! what design answers: the class; written by wip/p55/gen/vg -/

/-! what design answers -/
/-- the_ fault of_ a_ text that is_ a_ design but_ for_ its_ limits -/
def dfl (r_ : pD) (e_ : Int × Nat) : Prop := e_.2 = r_.2.1 (d_tp r_) ∧ ((d_lm r_ ≠ 0 ∧ e_.1 = d_lm r_) ∨ (d_lm r_ = 0 ∧ (∃ z_, d_gr r_ z_ ∧ 1000 < z_.1.1.length) ∧ e_.1 = 23))
/-- the_ fault of_ a_ text -/
def dfe (b_ : Nat → Int) (n_ : Nat) (e_ : Int × Nat) : Prop := p_de b_ n_ = .inl e_ ∨ ∃ r_, p_de b_ n_ = .inr r_ ∧ dfl r_ e_
/-- an_ accepted text: its_ tables and its_ graph -/
def dok (b_ : Nat → Int) (n_ : Nat) (r_ : pD) (z_ : gQ × gE) : Prop := p_de b_ n_ = .inr r_ ∧ d_lm r_ = 0 ∧ d_gr r_ z_ ∧ z_.1.1.length ≤ 1000
theorem dok_a {b_ : Nat → Int} {n_ : Nat} {r_ : pD} {z_ : gQ × gE} (h_ : dok b_ n_ r_ z_) : dacc b_ n_ := ⟨r_, z_, h_⟩
theorem dok_u {b_ : Nat → Int} {n_ : Nat} {r_ s_ : pD} {z_ y_ : gQ × gE} (h_ : dok b_ n_ r_ z_) (k_ : dok b_ n_ s_ y_) : r_ = s_ ∧ z_ = y_ := by
  obtain ⟨h1_, h2_, h3_, h4_⟩ := h_
  obtain ⟨k1_, k2_, k3_, k4_⟩ := k_
  rw [h1_] at k1_
  cases k1_
  unfold d_gr at h3_ k3_
  rw [h3_] at k3_
  cases k3_
  exact ⟨rfl, rfl⟩
/-- the_ class keeps that graph -/
def dgx (dd_ : Nat) (r_ : pD) (z_ : gQ × gE) (S_ : sm_S) : Prop := (S_.1 3 dd_ 1 = (d_I r_ : Int) ∧ S_.1 3 dd_ 2 = (d_R r_ : Int) ∧ S_.1 3 dd_ 3 = su (t_in r_.1 1 (d_tp r_)) (r_.1.1 (d_tp r_)) ∧ S_.1 3 dd_ 4 = ((1 + d_I r_ + d_R r_ + z_.1.1.length : Nat) : Int)) ∧ ∀ (k_ : Nat) (x_ y_ : Int), z_.1.1[k_]? = some (x_, y_) → S_.2.2.1 42 (0 + dd_) (1 + d_I r_ + d_R r_ + k_) = x_ ∧ S_.2.2.1 43 (0 + dd_) (1 + d_I r_ + d_R r_ + k_) = y_
theorem dgx_fr {w_ : sx_Wl} {dd_ : Nat} {r_ : pD} {z_ : gQ × gE} {S_ S'_ : sm_S} (h_ : dgx dd_ r_ z_ S_) (g_ : ai_fr (sx_W w_) S_ S'_) (h1_ : (sx_W w_).1 3 1 = false) (h2_ : (sx_W w_).1 3 2 = false) (h9_ : (sx_W w_).1 3 3 = false) (h3_ : (sx_W w_).1 3 4 = false) (h4_ : (sx_W w_).2.1 42 = false) (h5_ : (sx_W w_).2.1 43 = false) : dgx dd_ r_ z_ S'_ := by
  unfold dgx
  rw [g_.1 3 dd_ 1 h1_, g_.1 3 dd_ 2 h2_, g_.1 3 dd_ 3 h9_, g_.1 3 dd_ 4 h3_, fr_arr (t := 42) g_ h4_, fr_arr (t := 43) g_ h5_]
  exact h_
theorem dfl_na {b_ : Nat → Int} {n_ : Nat} {r_ : pD} {e_ : Int × Nat} (h_ : p_de b_ n_ = .inr r_) (hq_ : dfl r_ e_) : ¬ dacc b_ n_ := by
  obtain ⟨-, q_⟩ := hq_
  rcases q_ with q_ | q_
  · exact dacc_r h_ (Or.inl q_.1)
  · exact dacc_r h_ (Or.inr ⟨q_.1, q_.2.1⟩)
theorem dfe_u {b_ : Nat → Int} {n_ : Nat} {e_ g_ : Int × Nat} (h_ : dfe b_ n_ e_) (k_ : dfe b_ n_ g_) : e_ = g_ := by
  rcases h_ with h_ | ⟨r_, h_, h1_, h2_⟩
  · rcases k_ with k_ | ⟨s_, k_, -⟩
    · rw [h_] at k_; cases k_; rfl
    · rw [h_] at k_; cases k_
  · rcases k_ with k_ | ⟨s_, k_, k1_, k2_⟩
    · rw [h_] at k_; cases k_
    · rw [h_] at k_
      cases k_
      have e2_ : e_.2 = g_.2 := h1_.trans k1_.symm
      have e1_ : e_.1 = g_.1 := by
        rcases h2_ with h2_ | h2_
        · rcases k2_ with k2_ | k2_
          · exact h2_.2.trans k2_.2.symm
          · exact absurd k2_.1 h2_.1
        · rcases k2_ with k2_ | k2_
          · exact absurd h2_.1 k2_.1
          · exact h2_.2.2.trans k2_.2.2.symm
      exact Prod.ext e1_ e2_

/-! Builder.build -/
/-! ChipFlow.design -/
end
